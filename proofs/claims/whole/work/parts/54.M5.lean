set_option maxHeartbeats 4000000 in
set_option maxRecDepth 100000 in
theorem s_M_common (l : Launch) (dC : Nat → ClassId) (dI : Nat → Nat → Nat) (cI cL : ClassId) (qT : Nat) (mo : Nat) (mw : Nat) (nv : Nat) (ma : Nat) (mb : Nat) (ns : Nat) (mlo : Nat) (mhi : Nat) (nw : Nat) (mwe : Nat) (mru : Nat) (mrd : Nat) (th : Int) (mg : Nat) (rr : Nat → Nat) (q : Nat) (r : Nat) (hq8 : q < 8) (hr8 : r < 8) (hqr : q ≠ r) (hq : rr q < 1000000 ^ 20) (hrr : rr r < 1000000 ^ 20) (hq0 : 0 < rr q) (hr0 : 0 < rr r) : Cv l y_M_common (Cond.code y_M_common c_M_common 7 none :: zB) { frames := 2, cells := 0, slots := 0, locals := 50 } (dC, dI) zcl [(cI, .int), (cL, .long)] (zG cI cL qT) [.ref mo, .int (zI (q : Int)), .int (zI (r : Int))] [oM mo th mw (nv : Int) mg ma mb (ns : Int) mlo mhi (nw : Int) mwe mru mrd, aL cL mw 160 (wkA rr)] (fun wv => wv = [oM mo th mw (nv : Int) mg ma mb (ns : Int) mlo mhi (nw : Int) mwe mru mrd, aL cL mw 160 (wkA (un (un rr q (Nat.gcd (rr q) (rr r))) r (0)))]) 0 0 := by
  refine Cm.ofZ (cc := c_M_common) (maxL := 7) (ret := none) (by decide) rfl (Nat.le_of_ble_eq_true rfl) rfl ?_
  intro p e s m below meth c A S hr hlo hnm hK hg hA hAe
  have hGok := zG_ok cI cL qT
  show ZZ _ _ _ _ _ _ _ _ _ _ _ _ _ _ _ _ _ _ 0 [(0, .ref mo), (1, .int (zI (q : Int))), (2, .int (zI (r : Int)))] [] [oM mo th mw (nv : Int) mg ma mb (ns : Int) mlo mhi (nw : Int) mwe mru mrd, aL cL mw 160 (wkA rr)]
  refine z_iconst S d_M_common_0 ?_
  refine z_istore_n (lv' := [(3, .int (zI 0)), (0, .ref mo), (1, .int (zI (q : Int))), (2, .int (zI (r : Int)))]) S d_M_common_1 rfl (by decide) rfl ?_
  refine z_lv (lv' := [(0, .ref mo), (1, .int (zI (q : Int))), (2, .int (zI (r : Int))), (3, .int (zI 0))]) [1, 2, 3, 0] rfl ?_
  refine z_wq (ws' := [oM mo th mw (nv : Int) mg ma mb (ns : Int) mlo mhi (nw : Int) mwe mru mrd, aL cL mw 160 (wkA (un (un rr q ((rr q))) r ((rr r))))]) (by rw [un_id rr q, un_id rr r]) ?_
  refine z_lq (lv' := [(0, .ref mo), (1, .int (zI (q : Int))), (2, .int (zI (r : Int))), (3, .int (zI ((0 : Nat) : Int)))]) (congrArg (fun zzz : Int => ([(0, .ref mo), (1, .int (zI (q : Int))), (2, .int (zI (r : Int))), (3, .int (zI zzz))] : List (Nat × Value))) (show (0 : Int) = ((0 : Nat) : Int) by omega)) ?_
  refine z_loop (I := fun (zz : Nat × Nat × Nat) => match zz with | (x, y, tw) => (0 < x) ∧ (0 < y) ∧ (x ≤ rr q) ∧ (y ≤ rr r) ∧ (Nat.gcd x y * 2 ^ tw = Nat.gcd (rr q) (rr r))) (μ := fun (zz : Nat × Nat × Nat) => match zz with | (x, y, tw) => x) (LV := fun (zz : Nat × Nat × Nat) => match zz with | (x, y, tw) => [(0, .ref mo), (1, .int (zI (q : Int))), (2, .int (zI (r : Int))), (3, .int (zI (tw : Int)))]) (WS := fun (zz : Nat × Nat × Nat) => match zz with | (x, y, tw) => [oM mo th mw (nv : Int) mg ma mb (ns : Int) mlo mhi (nw : Int) mwe mru mrd, aL cL mw 160 (wkA (un (un rr q (x)) r (y)))]) (a := ((rr q), (rr r), 0)) ?_ ?_
  · exact (show (0 < (rr q)) ∧ (0 < (rr r)) ∧ ((rr q) ≤ rr q) ∧ ((rr r) ≤ rr r) ∧ (Nat.gcd (rr q) (rr r) * 2 ^ 0 = Nat.gcd (rr q) (rr r)) from ⟨hq0, hr0, Nat.le_refl _, Nat.le_refl _, by rw [Nat.pow_zero, Nat.mul_one]⟩)
  · intro ⟨x, y, tw⟩ hI ih2
    obtain ⟨hx0, hy0, hxl, hyl, hgc⟩ : (0 < x) ∧ (0 < y) ∧ (x ≤ rr q) ∧ (y ≤ rr r) ∧ (Nat.gcd x y * 2 ^ tw = Nat.gcd (rr q) (rr r)) := hI
    show ZZ _ _ _ _ _ _ _ _ _ _ _ _ _ _ _ _ _ _ 2 [(0, .ref mo), (1, .int (zI (q : Int))), (2, .int (zI (r : Int))), (3, .int (zI (tw : Int)))] [] [oM mo th mw (nv : Int) mg ma mb (ns : Int) mlo mhi (nw : Int) mwe mru mrd, aL cL mw 160 (wkA (un (un rr q (x)) r (y)))]
    have hRq : (un (un rr q (x)) r (y)) q = x := (un_n hqr).trans (un_s _ _ _)
    have hRr : (un (un rr q (x)) r (y)) r = y := un_s _ _ _
    have hxB : x < 1000000 ^ 20 := by omega
    have hyB : y < 1000000 ^ 20 := by omega
    refine z_aload_n S d_M_common_2 0 rfl ?_
    refine z_iload_n S d_M_common_3 1 rfl ?_
    refine z_callVa (As := [.int (zI (q : Int))]) (st := []) (wc := [oM mo th mw (nv : Int) mg ma mb (ns : Int) mlo mhi (nw : Int) mwe mru mrd, aL cL mw 160 (wkA (un (un rr q (x)) r (y)))]) (wr := []) S hGok hK hg hA (s_M_isEven l dC dI cI cL qT mo mw nv ma mb ns mlo mhi nw mwe mru mrd th mg (un (un rr q (x)) r (y)) q (by omega)) (zcwV S (List.mem_cons_of_mem _ k_M_70) mV_M_isEven k_M_70 hd_M_isEven rfl rfl ⟨Nat.le_of_ble_eq_true rfl, Nat.le_of_ble_eq_true rfl⟩) rfl (Nat.le_of_ble_eq_true rfl) d_M_common_4 ⟨Nat.le_of_ble_eq_true rfl, Nat.le_of_ble_eq_true rfl⟩ rfl [0, 1] [] 0 rfl rfl rfl (by decide) rfl rfl rfl (by decide) (by decide) (fun x w hp => ?_)
    obtain ⟨rfl, rfl⟩ := hp
    show ZZ _ _ _ _ _ _ _ _ _ _ _ _ _ _ _ _ _ _ 7 [(0, .ref mo), (1, .int (zI (q : Int))), (2, .int (zI (r : Int))), (3, .int (zI (tw : Int)))] [.int (zI (b2 ((un (un rr q (x)) r (y)) q % 2 = 0)))] [oM mo th mw (nv : Int) mg ma mb (ns : Int) mlo mhi (nw : Int) mwe mru mrd, aL cL mw 160 (wkA (un (un rr q (x)) r (y)))]
    refine z_toi (a := b2 (x % 2 = 0)) (zI_c (by rw [hRq])) ?_
    have hb1 := b2_r (x % 2 = 0)
    refine z_if_eq (tgt := 34) S d_M_common_7 (by decide) (by omega) (fun c1 => ?_) (fun c1 => ?_)
    · skip
      have hod : x % 2 = 1 ∨ y % 2 = 1 := Or.inl (by have := b2_0.mp c1; omega)
      refine z_lv (lv' := [(0, .ref mo), (1, .int (zI (q : Int))), (2, .int (zI (r : Int))), (3, .int (zI (tw : Int)))]) [0, 1, 2, 3] rfl ?_
      refine z_loop (I := fun (x2 : Nat) => (0 < x2) ∧ (x2 ≤ rr q) ∧ (x2 % 2 = 1 ∨ y % 2 = 1) ∧ (Nat.gcd x2 y * 2 ^ tw = Nat.gcd (rr q) (rr r))) (μ := fun (x2 : Nat) => x2) (LV := fun (x2 : Nat) => [(0, .ref mo), (1, .int (zI (q : Int))), (2, .int (zI (r : Int))), (3, .int (zI (tw : Int)))]) (WS := fun (x2 : Nat) => [oM mo th mw (nv : Int) mg ma mb (ns : Int) mlo mhi (nw : Int) mwe mru mrd, aL cL mw 160 (wkA (un (un rr q (x2)) r (y)))]) (a := x) ?_ ?_
      · exact (show (0 < x) ∧ (x ≤ rr q) ∧ (x % 2 = 1 ∨ y % 2 = 1) ∧ (Nat.gcd x y * 2 ^ tw = Nat.gcd (rr q) (rr r)) from ⟨hx0, hxl, hod, hgc⟩)
      · intro x2 hI ih34
        obtain ⟨h20, h2l, h2o, h2g⟩ : (0 < x2) ∧ (x2 ≤ rr q) ∧ (x2 % 2 = 1 ∨ y % 2 = 1) ∧ (Nat.gcd x2 y * 2 ^ tw = Nat.gcd (rr q) (rr r)) := hI
        show ZZ _ _ _ _ _ _ _ _ _ _ _ _ _ _ _ _ _ _ 34 [(0, .ref mo), (1, .int (zI (q : Int))), (2, .int (zI (r : Int))), (3, .int (zI (tw : Int)))] [] [oM mo th mw (nv : Int) mg ma mb (ns : Int) mlo mhi (nw : Int) mwe mru mrd, aL cL mw 160 (wkA (un (un rr q (x2)) r (y)))]
        have hRq : (un (un rr q (x2)) r (y)) q = x2 := (un_n hqr).trans (un_s _ _ _)
        have hRr : (un (un rr q (x2)) r (y)) r = y := un_s _ _ _
        have h2B : x2 < 1000000 ^ 20 := by omega
        refine z_aload_n S d_M_common_34 0 rfl ?_
        refine z_iload_n S d_M_common_35 1 rfl ?_
        refine z_callVa (As := [.int (zI (q : Int))]) (st := []) (wc := [oM mo th mw (nv : Int) mg ma mb (ns : Int) mlo mhi (nw : Int) mwe mru mrd, aL cL mw 160 (wkA (un (un rr q (x2)) r (y)))]) (wr := []) S hGok hK hg hA (s_M_isEven l dC dI cI cL qT mo mw nv ma mb ns mlo mhi nw mwe mru mrd th mg (un (un rr q (x2)) r (y)) q (by omega)) (zcwV S (List.mem_cons_of_mem _ k_M_70) mV_M_isEven k_M_70 hd_M_isEven rfl rfl ⟨Nat.le_of_ble_eq_true rfl, Nat.le_of_ble_eq_true rfl⟩) rfl (Nat.le_of_ble_eq_true rfl) d_M_common_36 ⟨Nat.le_of_ble_eq_true rfl, Nat.le_of_ble_eq_true rfl⟩ rfl [0, 1] [] 0 rfl rfl rfl (by decide) rfl rfl rfl (by decide) (by decide) (fun x w hp => ?_)
        obtain ⟨rfl, rfl⟩ := hp
        show ZZ _ _ _ _ _ _ _ _ _ _ _ _ _ _ _ _ _ _ 39 [(0, .ref mo), (1, .int (zI (q : Int))), (2, .int (zI (r : Int))), (3, .int (zI (tw : Int)))] [.int (zI (b2 ((un (un rr q (x2)) r (y)) q % 2 = 0)))] [oM mo th mw (nv : Int) mg ma mb (ns : Int) mlo mhi (nw : Int) mwe mru mrd, aL cL mw 160 (wkA (un (un rr q (x2)) r (y)))]
        refine z_toi (a := b2 (x2 % 2 = 0)) (zI_c (by rw [hRq])) ?_
        have hb3 := b2_r (x2 % 2 = 0)
        refine z_if_eq (tgt := 50) S d_M_common_39 (by decide) (by omega) (fun c2 => ?_) (fun c2 => ?_)
        · skip
          have hxo : x2 % 2 = 1 := by have := b2_0.mp c2; omega
          refine z_lv (lv' := [(0, .ref mo), (1, .int (zI (q : Int))), (2, .int (zI (r : Int))), (3, .int (zI (tw : Int)))]) [0, 1, 2, 3] rfl ?_
          refine z_loop (I := fun (zz : Nat × Nat) => match zz with | (x3, y3) => (x3 % 2 = 1) ∧ (x3 < 1000000 ^ 20) ∧ (y3 < 1000000 ^ 20) ∧ (Nat.gcd x3 y3 * 2 ^ tw = Nat.gcd (rr q) (rr r))) (μ := fun (zz : Nat × Nat) => match zz with | (x3, y3) => x3 + y3) (LV := fun (zz : Nat × Nat) => match zz with | (x3, y3) => [(0, .ref mo), (1, .int (zI (q : Int))), (2, .int (zI (r : Int))), (3, .int (zI (tw : Int)))]) (WS := fun (zz : Nat × Nat) => match zz with | (x3, y3) => [oM mo th mw (nv : Int) mg ma mb (ns : Int) mlo mhi (nw : Int) mwe mru mrd, aL cL mw 160 (wkA (un (un rr q (x3)) r (y3)))]) (a := (x2, y)) ?_ ?_
          · exact (show (x2 % 2 = 1) ∧ (x2 < 1000000 ^ 20) ∧ (y < 1000000 ^ 20) ∧ (Nat.gcd x2 y * 2 ^ tw = Nat.gcd (rr q) (rr r)) from ⟨hxo, h2B, by omega, h2g⟩)
          · intro ⟨x3, y3⟩ hI ih50
            obtain ⟨h3o, h3x, h3y, h3g⟩ : (x3 % 2 = 1) ∧ (x3 < 1000000 ^ 20) ∧ (y3 < 1000000 ^ 20) ∧ (Nat.gcd x3 y3 * 2 ^ tw = Nat.gcd (rr q) (rr r)) := hI
            show ZZ _ _ _ _ _ _ _ _ _ _ _ _ _ _ _ _ _ _ 50 [(0, .ref mo), (1, .int (zI (q : Int))), (2, .int (zI (r : Int))), (3, .int (zI (tw : Int)))] [] [oM mo th mw (nv : Int) mg ma mb (ns : Int) mlo mhi (nw : Int) mwe mru mrd, aL cL mw 160 (wkA (un (un rr q (x3)) r (y3)))]
            have hRq : (un (un rr q (x3)) r (y3)) q = x3 := (un_n hqr).trans (un_s _ _ _)
            have hRr : (un (un rr q (x3)) r (y3)) r = y3 := un_s _ _ _
            refine z_aload_n S d_M_common_50 0 rfl ?_
            refine z_iload_n S d_M_common_51 2 rfl ?_
            refine z_callVa (As := [.int (zI (r : Int))]) (st := []) (wc := [oM mo th mw (nv : Int) mg ma mb (ns : Int) mlo mhi (nw : Int) mwe mru mrd, aL cL mw 160 (wkA (un (un rr q (x3)) r (y3)))]) (wr := []) S hGok hK hg hA (s_M_isNought l dC dI cI cL qT mo mw nv ma mb ns mlo mhi nw mwe mru mrd th mg (un (un rr q (x3)) r (y3)) r (by omega) (by rw [hRr]; exact h3y)) (zcwV S (List.mem_cons_of_mem _ k_M_77) mV_M_isNought k_M_77 hd_M_isNought rfl rfl ⟨Nat.le_of_ble_eq_true rfl, Nat.le_of_ble_eq_true rfl⟩) rfl (Nat.le_of_ble_eq_true rfl) d_M_common_52 ⟨Nat.le_of_ble_eq_true rfl, Nat.le_of_ble_eq_true rfl⟩ rfl [0, 1] [] 0 rfl rfl rfl (by decide) rfl rfl rfl (by decide) (by decide) (fun x w hp => ?_)
            obtain ⟨rfl, rfl⟩ := hp
            show ZZ _ _ _ _ _ _ _ _ _ _ _ _ _ _ _ _ _ _ 55 [(0, .ref mo), (1, .int (zI (q : Int))), (2, .int (zI (r : Int))), (3, .int (zI (tw : Int)))] [.int (zI (b2 ((un (un rr q (x3)) r (y3)) r = 0)))] [oM mo th mw (nv : Int) mg ma mb (ns : Int) mlo mhi (nw : Int) mwe mru mrd, aL cL mw 160 (wkA (un (un rr q (x3)) r (y3)))]
            refine z_toi (a := b2 (y3 = 0)) (zI_c (by rw [hRr])) ?_
            have hb5 := b2_r (y3 = 0)
            refine z_if_ne (tgt := 160) S d_M_common_55 (by decide) (by omega) (fun c3 => ?_) (fun c3 => ?_)
            · skip
              have hz3 : y3 = 0 := b2_p c3
              have hfin : x3 * 2 ^ tw = Nat.gcd (rr q) (rr r) := by rw [hz3, Nat.gcd_zero_right] at h3g; exact h3g
              have hGl : Nat.gcd (rr q) (rr r) ≤ rr q := Nat.le_of_dvd hq0 (Nat.gcd_dvd_left _ _)
              have htw := tw_lt (show 0 < x3 by omega) (show x3 * 2 ^ tw ≤ rr q by omega) hq
              refine z_iconst S d_M_common_160 ?_
              refine z_istore (lv' := [(4, .int (zI 0)), (0, .ref mo), (1, .int (zI (q : Int))), (2, .int (zI (r : Int))), (3, .int (zI (tw : Int)))]) S d_M_common_161 (by decide) rfl ?_
              refine z_lv (lv' := [(0, .ref mo), (1, .int (zI (q : Int))), (2, .int (zI (r : Int))), (3, .int (zI (tw : Int))), (4, .int (zI 0))]) [1, 2, 3, 4, 0] rfl ?_
              refine z_wq (ws' := [oM mo th mw (nv : Int) mg ma mb (ns : Int) mlo mhi (nw : Int) mwe mru mrd, aL cL mw 160 (wkA (un (un rr q (x3 * 2 ^ 0)) r (0)))]) (by rw [Nat.pow_zero, Nat.mul_one, hz3]) ?_
              refine z_lq (lv' := [(0, .ref mo), (1, .int (zI (q : Int))), (2, .int (zI (r : Int))), (3, .int (zI (tw : Int))), (4, .int (zI ((0 : Nat) : Int)))]) (congrArg (fun zzz : Int => ([(0, .ref mo), (1, .int (zI (q : Int))), (2, .int (zI (r : Int))), (3, .int (zI (tw : Int))), (4, .int (zI zzz))] : List (Nat × Value))) (show (0 : Int) = ((0 : Nat) : Int) by omega)) ?_
              refine z_loop (I := fun (j : Nat) => (j ≤ tw)) (μ := fun (j : Nat) => tw - j) (LV := fun (j : Nat) => [(0, .ref mo), (1, .int (zI (q : Int))), (2, .int (zI (r : Int))), (3, .int (zI (tw : Int))), (4, .int (zI (j : Int)))]) (WS := fun (j : Nat) => [oM mo th mw (nv : Int) mg ma mb (ns : Int) mlo mhi (nw : Int) mwe mru mrd, aL cL mw 160 (wkA (un (un rr q (x3 * 2 ^ j)) r (0)))]) (a := 0) ?_ ?_
              · exact (show (0 ≤ tw) from by omega)
              · intro j hI ih163
                have hj : j ≤ tw := hI
                show ZZ _ _ _ _ _ _ _ _ _ _ _ _ _ _ _ _ _ _ 163 [(0, .ref mo), (1, .int (zI (q : Int))), (2, .int (zI (r : Int))), (3, .int (zI (tw : Int))), (4, .int (zI (j : Int)))] [] [oM mo th mw (nv : Int) mg ma mb (ns : Int) mlo mhi (nw : Int) mwe mru mrd, aL cL mw 160 (wkA (un (un rr q (x3 * 2 ^ j)) r (0)))]
                have hUq : (un (un rr q (x3 * 2 ^ j)) r (0)) q = x3 * 2 ^ j := (un_n hqr).trans (un_s _ _ _)
                refine z_iload S d_M_common_163 4 rfl ?_
                refine z_iload_n S d_M_common_165 3 rfl ?_
                refine z_icmp_ge (tgt := 181) S d_M_common_166 (by decide) (by omega) (by omega) (fun c4 => ?_) (fun c4 => ?_)
                · skip
                  refine z_wq (ws' := [oM mo th mw (nv : Int) mg ma mb (ns : Int) mlo mhi (nw : Int) mwe mru mrd, aL cL mw 160 (wkA (un (un rr q (Nat.gcd (rr q) (rr r))) r (0)))]) (by rw [show j = tw by omega, hfin]) ?_
                  exact z_vret (w := [oM mo th mw (nv : Int) mg ma mb (ns : Int) mlo mhi (nw : Int) mwe mru mrd, aL cL mw 160 (wkA (un (un rr q (Nat.gcd (rr q) (rr r))) r (0)))]) S hr hlo hAe d_M_common_181 [0, 1] (by decide) rfl rfl ⟨Nat.le_refl _, Nat.le_refl _⟩ (rfl)
                · skip
                  have hdb : x3 * 2 ^ j + x3 * 2 ^ j = x3 * 2 ^ (j + 1) := by rw [Nat.pow_succ, ← Nat.mul_assoc, Nat.mul_two]
                  have hdl : x3 * 2 ^ (j + 1) ≤ x3 * 2 ^ tw := Nat.mul_le_mul_left _ (Nat.pow_le_pow_right (by decide) (by omega))
                  refine z_aload_n S d_M_common_169 0 rfl ?_
                  refine z_iload_n S d_M_common_170 1 rfl ?_
                  refine z_iload_n S d_M_common_171 1 rfl ?_
                  refine z_callVv (As := [.int (zI (q : Int)), .int (zI (q : Int))]) (st := []) (wc := [oM mo th mw (nv : Int) mg ma mb (ns : Int) mlo mhi (nw : Int) mwe mru mrd, aL cL mw 160 (wkA (un (un rr q (x3 * 2 ^ j)) r (0)))]) (wr := []) S hGok hK hg hA (s_M_adds l dC dI cI cL qT mo mw nv ma mb ns mlo mhi nw mwe mru mrd th mg (un (un rr q (x3 * 2 ^ j)) r (0)) q q (by omega) (by omega) (by rw [hUq]; omega)) (zcwV S (List.mem_cons_of_mem _ k_M_88) mV_M_adds k_M_88 hd_M_adds rfl rfl ⟨Nat.le_of_ble_eq_true rfl, Nat.le_of_ble_eq_true rfl⟩) rfl (Nat.le_of_ble_eq_true rfl) d_M_common_172 ⟨Nat.le_of_ble_eq_true rfl, Nat.le_of_ble_eq_true rfl⟩ rfl [0, 1] [] 0 rfl rfl rfl (by decide) rfl rfl rfl (by decide) (by decide) (fun w hp => ?_)
                  subst hp
                  show ZZ _ _ _ _ _ _ _ _ _ _ _ _ _ _ _ _ _ _ 175 [(0, .ref mo), (1, .int (zI (q : Int))), (2, .int (zI (r : Int))), (3, .int (zI (tw : Int))), (4, .int (zI (j : Int)))] [] [oM mo th mw (nv : Int) mg ma mb (ns : Int) mlo mhi (nw : Int) mwe mru mrd, aL cL mw 160 (wkA (un (un (un rr q (x3 * 2 ^ j)) r (0)) q ((un (un rr q (x3 * 2 ^ j)) r (0)) q + (un (un rr q (x3 * 2 ^ j)) r (0)) q)))]
                  refine z_wq (ws' := [oM mo th mw (nv : Int) mg ma mb (ns : Int) mlo mhi (nw : Int) mwe mru mrd, aL cL mw 160 (wkA (un (un rr q (x3 * 2 ^ (j + 1))) r (0)))]) (by rw [hUq, hdb, un_cm (Ne.symm hqr), un_un]) ?_
                  refine z_iinc (y := ((j + 1 : Nat) : Int)) (lv' := [(4, .int (zI ((j + 1 : Nat) : Int))), (0, .ref mo), (1, .int (zI (q : Int))), (2, .int (zI (r : Int))), (3, .int (zI (tw : Int)))]) S d_M_common_175 4 rfl (by omega) (by decide) rfl ?_
                  refine z_goto (tgt := 163) S d_M_common_178 (by decide) ?_
                  refine z_lv (lv' := [(0, .ref mo), (1, .int (zI (q : Int))), (2, .int (zI (r : Int))), (3, .int (zI (tw : Int))), (4, .int (zI ((j + 1 : Nat) : Int)))]) [1, 2, 3, 4, 0] rfl ?_
                  exact ih163 (j + 1) (show ((j + 1) ≤ tw) from by omega) (show tw - (j + 1) < tw - j from by omega)
            · skip
              have hy30 := b2_0.mp c3
              refine z_lv (lv' := [(0, .ref mo), (1, .int (zI (q : Int))), (2, .int (zI (r : Int))), (3, .int (zI (tw : Int)))]) [0, 1, 2, 3] rfl ?_
              refine z_loop (I := fun (y4 : Nat) => (0 < y4) ∧ (y4 ≤ y3) ∧ (Nat.gcd x3 y4 = Nat.gcd x3 y3)) (μ := fun (y4 : Nat) => y4) (LV := fun (y4 : Nat) => [(0, .ref mo), (1, .int (zI (q : Int))), (2, .int (zI (r : Int))), (3, .int (zI (tw : Int)))]) (WS := fun (y4 : Nat) => [oM mo th mw (nv : Int) mg ma mb (ns : Int) mlo mhi (nw : Int) mwe mru mrd, aL cL mw 160 (wkA (un (un rr q (x3)) r (y4)))]) (a := y3) ?_ ?_
              · exact (show (0 < y3) ∧ (y3 ≤ y3) ∧ (Nat.gcd x3 y3 = Nat.gcd x3 y3) from ⟨by omega, Nat.le_refl _, rfl⟩)
              · intro y4 hI ih58
                obtain ⟨h40, h4l, h4g⟩ : (0 < y4) ∧ (y4 ≤ y3) ∧ (Nat.gcd x3 y4 = Nat.gcd x3 y3) := hI
                show ZZ _ _ _ _ _ _ _ _ _ _ _ _ _ _ _ _ _ _ 58 [(0, .ref mo), (1, .int (zI (q : Int))), (2, .int (zI (r : Int))), (3, .int (zI (tw : Int)))] [] [oM mo th mw (nv : Int) mg ma mb (ns : Int) mlo mhi (nw : Int) mwe mru mrd, aL cL mw 160 (wkA (un (un rr q (x3)) r (y4)))]
                have hRq4 : (un (un rr q (x3)) r (y4)) q = x3 := (un_n hqr).trans (un_s _ _ _)
                have hRr4 : (un (un rr q (x3)) r (y4)) r = y4 := un_s _ _ _
                have h4B : y4 < 1000000 ^ 20 := by omega
                refine z_aload_n S d_M_common_58 0 rfl ?_
                refine z_iload_n S d_M_common_59 2 rfl ?_
                refine z_callVa (As := [.int (zI (r : Int))]) (st := []) (wc := [oM mo th mw (nv : Int) mg ma mb (ns : Int) mlo mhi (nw : Int) mwe mru mrd, aL cL mw 160 (wkA (un (un rr q (x3)) r (y4)))]) (wr := []) S hGok hK hg hA (s_M_isEven l dC dI cI cL qT mo mw nv ma mb ns mlo mhi nw mwe mru mrd th mg (un (un rr q (x3)) r (y4)) r (by omega)) (zcwV S (List.mem_cons_of_mem _ k_M_70) mV_M_isEven k_M_70 hd_M_isEven rfl rfl ⟨Nat.le_of_ble_eq_true rfl, Nat.le_of_ble_eq_true rfl⟩) rfl (Nat.le_of_ble_eq_true rfl) d_M_common_60 ⟨Nat.le_of_ble_eq_true rfl, Nat.le_of_ble_eq_true rfl⟩ rfl [0, 1] [] 0 rfl rfl rfl (by decide) rfl rfl rfl (by decide) (by decide) (fun x w hp => ?_)
                obtain ⟨rfl, rfl⟩ := hp
                show ZZ _ _ _ _ _ _ _ _ _ _ _ _ _ _ _ _ _ _ 63 [(0, .ref mo), (1, .int (zI (q : Int))), (2, .int (zI (r : Int))), (3, .int (zI (tw : Int)))] [.int (zI (b2 ((un (un rr q (x3)) r (y4)) r % 2 = 0)))] [oM mo th mw (nv : Int) mg ma mb (ns : Int) mlo mhi (nw : Int) mwe mru mrd, aL cL mw 160 (wkA (un (un rr q (x3)) r (y4)))]
                refine z_toi (a := b2 (y4 % 2 = 0)) (zI_c (by rw [hRr4])) ?_
                have hb4 := b2_r (y4 % 2 = 0)
                refine z_if_eq (tgt := 74) S d_M_common_63 (by decide) (by omega) (fun c5 => ?_) (fun c5 => ?_)
                · skip
                  have hyo4 : y4 % 2 = 1 := by have := b2_0.mp c5; omega
                  refine z_aload_n S d_M_common_74 0 rfl ?_
                  refine z_iload_n S d_M_common_75 1 rfl ?_
                  refine z_iload_n S d_M_common_76 2 rfl ?_
                  refine z_callVa (As := [.int (zI (q : Int)), .int (zI (r : Int))]) (st := []) (wc := [oM mo th mw (nv : Int) mg ma mb (ns : Int) mlo mhi (nw : Int) mwe mru mrd, aL cL mw 160 (wkA (un (un rr q (x3)) r (y4)))]) (wr := []) S hGok hK hg hA (s_M_compare l dC dI cI cL qT mo mw nv ma mb ns mlo mhi nw mwe mru mrd th mg (un (un rr q (x3)) r (y4)) q r (by omega) (by omega) (by rw [hRq4]; exact h3x) (by rw [hRr4]; exact h4B)) (zcwV S (List.mem_cons_of_mem _ k_M_80) mV_M_compare k_M_80 hd_M_compare rfl rfl ⟨Nat.le_of_ble_eq_true rfl, Nat.le_of_ble_eq_true rfl⟩) rfl (Nat.le_of_ble_eq_true rfl) d_M_common_77 ⟨Nat.le_of_ble_eq_true rfl, Nat.le_of_ble_eq_true rfl⟩ rfl [0, 1] [] 0 rfl rfl rfl (by decide) rfl rfl rfl (by decide) (by decide) (fun x w hp => ?_)
                  obtain ⟨rfl, rfl⟩ := hp
                  show ZZ _ _ _ _ _ _ _ _ _ _ _ _ _ _ _ _ _ _ 80 [(0, .ref mo), (1, .int (zI (q : Int))), (2, .int (zI (r : Int))), (3, .int (zI (tw : Int)))] [.int (zI (cmpN ((un (un rr q (x3)) r (y4)) q) ((un (un rr q (x3)) r (y4)) r)))] [oM mo th mw (nv : Int) mg ma mb (ns : Int) mlo mhi (nw : Int) mwe mru mrd, aL cL mw 160 (wkA (un (un rr q (x3)) r (y4)))]
                  refine z_toi (a := cmpN x3 y4) (zI_c (by rw [hRq4, hRr4])) ?_
                  have hcr := cmpN_r x3 y4
                  refine z_if_le (tgt := 151) S d_M_common_80 (by decide) (by omega) (fun c6 => ?_) (fun c6 => ?_)
                  · skip
                    have hle : x3 ≤ y4 := by
                      rcases Nat.lt_or_ge y4 x3 with z | z
                      · have := cmpN_gt z; omega
                      · exact z
                    have hTq := hRq4
                    have hTr := hRr4
                    refine z_aload_n S d_M_common_151 0 rfl ?_
                    refine z_iload_n S d_M_common_152 2 rfl ?_
                    refine z_iload_n S d_M_common_153 1 rfl ?_
                    refine z_callVv (As := [.int (zI (r : Int)), .int (zI (q : Int))]) (st := []) (wc := [oM mo th mw (nv : Int) mg ma mb (ns : Int) mlo mhi (nw : Int) mwe mru mrd, aL cL mw 160 (wkA (un (un rr q (x3)) r (y4)))]) (wr := []) S hGok hK hg hA (s_M_takesOff l dC dI cI cL qT mo mw nv ma mb ns mlo mhi nw mwe mru mrd th mg (un (un rr q (x3)) r (y4)) r q (by omega) (by omega) (by rw [hTr]; omega) (by rw [hTq, hTr]; omega)) (zcwV S (List.mem_cons_of_mem _ k_M_84) mV_M_takesOff k_M_84 hd_M_takesOff rfl rfl ⟨Nat.le_of_ble_eq_true rfl, Nat.le_of_ble_eq_true rfl⟩) rfl (Nat.le_of_ble_eq_true rfl) d_M_common_154 ⟨Nat.le_of_ble_eq_true rfl, Nat.le_of_ble_eq_true rfl⟩ rfl [0, 1] [] 0 rfl rfl rfl (by decide) rfl rfl rfl (by decide) (by decide) (fun w hp => ?_)
                    subst hp
                    show ZZ _ _ _ _ _ _ _ _ _ _ _ _ _ _ _ _ _ _ 157 [(0, .ref mo), (1, .int (zI (q : Int))), (2, .int (zI (r : Int))), (3, .int (zI (tw : Int)))] [] [oM mo th mw (nv : Int) mg ma mb (ns : Int) mlo mhi (nw : Int) mwe mru mrd, aL cL mw 160 (wkA (un (un (un rr q (x3)) r (y4)) r ((un (un rr q (x3)) r (y4)) r - (un (un rr q (x3)) r (y4)) q)))]
                    refine z_wq (ws' := [oM mo th mw (nv : Int) mg ma mb (ns : Int) mlo mhi (nw : Int) mwe mru mrd, aL cL mw 160 (wkA (un (un rr q (x3)) r (y4 - x3)))]) (by rw [hTq, hTr, un_un]) ?_
                    refine z_goto (tgt := 50) S d_M_common_157 (by decide) ?_
                    refine z_lv (lv' := [(0, .ref mo), (1, .int (zI (q : Int))), (2, .int (zI (r : Int))), (3, .int (zI (tw : Int)))]) [0, 1, 2, 3] rfl ?_
                    exact ih50 (x3, (y4 - x3)) (show (x3 % 2 = 1) ∧ (x3 < 1000000 ^ 20) ∧ ((y4 - x3) < 1000000 ^ 20) ∧ (Nat.gcd x3 (y4 - x3) * 2 ^ tw = Nat.gcd (rr q) (rr r)) from ⟨h3o, h3x, by omega, by rw [gcd_s (show x3 ≤ y4 by omega), h4g]; exact h3g⟩) (show x3 + (y4 - x3) < x3 + y3 from by omega)
                  · skip
                    have hgt : y4 < x3 := cmpN_pos (by omega)
                    refine z_iconst S d_M_common_83 ?_
                    refine z_istore (lv' := [(4, .int (zI 0)), (0, .ref mo), (1, .int (zI (q : Int))), (2, .int (zI (r : Int))), (3, .int (zI (tw : Int)))]) S d_M_common_84 (by decide) rfl ?_
                    refine z_lv (lv' := [(0, .ref mo), (1, .int (zI (q : Int))), (2, .int (zI (r : Int))), (3, .int (zI (tw : Int))), (4, .int (zI 0))]) [1, 2, 3, 4, 0] rfl ?_
                    refine z_wq (ws' := [oM mo th mw (nv : Int) mg ma mb (ns : Int) mlo mhi (nw : Int) mwe mru mrd, aL cL mw 160 (wkA (un (un rr q (mN y4 x3 0)) r (mN x3 y4 0)))]) (by rw [mN_0, mN_0]) ?_
                    refine z_lq (lv' := [(0, .ref mo), (1, .int (zI (q : Int))), (2, .int (zI (r : Int))), (3, .int (zI (tw : Int))), (4, .int (zI ((0 : Nat) : Int)))]) (congrArg (fun zzz : Int => ([(0, .ref mo), (1, .int (zI (q : Int))), (2, .int (zI (r : Int))), (3, .int (zI (tw : Int))), (4, .int (zI zzz))] : List (Nat × Value))) (show (0 : Int) = ((0 : Nat) : Int) by omega)) ?_
                    refine z_loop (I := fun (i : Nat) => (i ≤ 20)) (μ := fun (i : Nat) => 20 - i) (LV := fun (i : Nat) => [(0, .ref mo), (1, .int (zI (q : Int))), (2, .int (zI (r : Int))), (3, .int (zI (tw : Int))), (4, .int (zI (i : Int)))]) (WS := fun (i : Nat) => [oM mo th mw (nv : Int) mg ma mb (ns : Int) mlo mhi (nw : Int) mwe mru mrd, aL cL mw 160 (wkA (un (un rr q (mN y4 x3 i)) r (mN x3 y4 i)))]) (a := 0) ?_ ?_
                    · exact (show (0 ≤ 20) from by omega)
                    · intro i hI ih86
                      have hi : i ≤ 20 := hI
                      show ZZ _ _ _ _ _ _ _ _ _ _ _ _ _ _ _ _ _ _ 86 [(0, .ref mo), (1, .int (zI (q : Int))), (2, .int (zI (r : Int))), (3, .int (zI (tw : Int))), (4, .int (zI (i : Int)))] [] [oM mo th mw (nv : Int) mg ma mb (ns : Int) mlo mhi (nw : Int) mwe mru mrd, aL cL mw 160 (wkA (un (un rr q (mN y4 x3 i)) r (mN x3 y4 i)))]
                      have hSq : (un (un rr q (mN y4 x3 i)) r (mN x3 y4 i)) q = mN y4 x3 i := (un_n hqr).trans (un_s _ _ _)
                      have hSr : (un (un rr q (mN y4 x3 i)) r (mN x3 y4 i)) r = mN x3 y4 i := un_s _ _ _
                      have hSr2 : (un (un rr q (mN y4 x3 (i + 1))) r (mN x3 y4 i)) r = mN x3 y4 i := un_s _ _ _
                      refine z_iload S d_M_common_86 4 rfl ?_
                      refine z_bipush S d_M_common_88 rfl ?_
                      refine z_icmp_ge (tgt := 151) S d_M_common_90 (by decide) (by omega) (by omega) (fun c7 => ?_) (fun c7 => ?_)
                      · skip
                        refine z_wq (ws' := [oM mo th mw (nv : Int) mg ma mb (ns : Int) mlo mhi (nw : Int) mwe mru mrd, aL cL mw 160 (wkA (un (un rr q (y4)) r (x3)))]) (by rw [show i = 20 by omega, mN_e h4B h3x, mN_e h3x h4B]) ?_
                        have hTq : (un (un rr q (y4)) r (x3)) q = y4 := (un_n hqr).trans (un_s _ _ _)
                        have hTr : (un (un rr q (y4)) r (x3)) r = x3 := un_s _ _ _
                        refine z_aload_n S d_M_common_151 0 rfl ?_
                        refine z_iload_n S d_M_common_152 2 rfl ?_
                        refine z_iload_n S d_M_common_153 1 rfl ?_
                        refine z_callVv (As := [.int (zI (r : Int)), .int (zI (q : Int))]) (st := []) (wc := [oM mo th mw (nv : Int) mg ma mb (ns : Int) mlo mhi (nw : Int) mwe mru mrd, aL cL mw 160 (wkA (un (un rr q (y4)) r (x3)))]) (wr := []) S hGok hK hg hA (s_M_takesOff l dC dI cI cL qT mo mw nv ma mb ns mlo mhi nw mwe mru mrd th mg (un (un rr q (y4)) r (x3)) r q (by omega) (by omega) (by rw [hTr]; omega) (by rw [hTq, hTr]; omega)) (zcwV S (List.mem_cons_of_mem _ k_M_84) mV_M_takesOff k_M_84 hd_M_takesOff rfl rfl ⟨Nat.le_of_ble_eq_true rfl, Nat.le_of_ble_eq_true rfl⟩) rfl (Nat.le_of_ble_eq_true rfl) d_M_common_154 ⟨Nat.le_of_ble_eq_true rfl, Nat.le_of_ble_eq_true rfl⟩ rfl [0, 1] [] 0 rfl rfl rfl (by decide) rfl rfl rfl (by decide) (by decide) (fun w hp => ?_)
                        subst hp
                        show ZZ _ _ _ _ _ _ _ _ _ _ _ _ _ _ _ _ _ _ 157 [(0, .ref mo), (1, .int (zI (q : Int))), (2, .int (zI (r : Int))), (3, .int (zI (tw : Int))), (4, .int (zI (i : Int)))] [] [oM mo th mw (nv : Int) mg ma mb (ns : Int) mlo mhi (nw : Int) mwe mru mrd, aL cL mw 160 (wkA (un (un (un rr q (y4)) r (x3)) r ((un (un rr q (y4)) r (x3)) r - (un (un rr q (y4)) r (x3)) q)))]
                        refine z_wq (ws' := [oM mo th mw (nv : Int) mg ma mb (ns : Int) mlo mhi (nw : Int) mwe mru mrd, aL cL mw 160 (wkA (un (un rr q (y4)) r (x3 - y4)))]) (by rw [hTq, hTr, un_un]) ?_
                        refine z_goto (tgt := 50) S d_M_common_157 (by decide) ?_
                        refine z_lv (lv' := [(0, .ref mo), (1, .int (zI (q : Int))), (2, .int (zI (r : Int))), (3, .int (zI (tw : Int)))]) [0, 1, 2, 3] rfl ?_
                        exact ih50 (y4, (x3 - y4)) (show (y4 % 2 = 1) ∧ (y4 < 1000000 ^ 20) ∧ ((x3 - y4) < 1000000 ^ 20) ∧ (Nat.gcd y4 (x3 - y4) * 2 ^ tw = Nat.gcd (rr q) (rr r)) from ⟨by omega, by omega, by omega, by rw [gcd_s (show y4 ≤ x3 by omega), Nat.gcd_comm, h4g]; exact h3g⟩) (show y4 + (x3 - y4) < x3 + y3 from by omega)
                      · skip
                        refine z_aload_n S d_M_common_93 0 rfl ?_
                        refine z_get S hK la_M 0 rfl rfl 1 (by decide) k_M_7 rfl d_M_common_94 ?_
                        refine z_iload_n S d_M_common_97 1 rfl ?_
                        refine z_bipush S d_M_common_98 rfl ?_
                        refine z_imul S d_M_common_100 ?_
                        refine z_iload S d_M_common_101 4 rfl ?_
                        refine z_iadd S d_M_common_103 ?_
                        refine z_lald (x := ((dg 1000000 x3 i : Nat) : Int)) S hK 1 1 rfl rfl (q * 20 + i) (by omega) (by omega) (by decide) ((wkA_at _ (by omega)).trans (by rw [hSq, mN_d, if_neg (by omega)])) d_M_common_104 ?_
                        refine z_lstore (lv' := [(5, .long (zL ((dg 1000000 x3 i : Nat) : Int))), (0, .ref mo), (1, .int (zI (q : Int))), (2, .int (zI (r : Int))), (3, .int (zI (tw : Int))), (4, .int (zI (i : Int)))]) S d_M_common_105 (by decide) rfl ?_
                        refine z_aload_n S d_M_common_107 1 rfl ?_
                        refine z_get S hK la_M 0 rfl rfl 1 (by decide) k_M_7 rfl d_M_common_108 ?_
                        refine z_iload_n S d_M_common_111 2 rfl ?_
                        refine z_bipush S d_M_common_112 rfl ?_
                        refine z_imul S d_M_common_114 ?_
                        refine z_iload S d_M_common_115 5 rfl ?_
                        refine z_iadd S d_M_common_117 ?_
                        refine z_aload_n S d_M_common_118 1 rfl ?_
                        refine z_get S hK la_M 0 rfl rfl 1 (by decide) k_M_7 rfl d_M_common_119 ?_
                        refine z_iload_n S d_M_common_122 3 rfl ?_
                        refine z_bipush S d_M_common_123 rfl ?_
                        refine z_imul S d_M_common_125 ?_
                        refine z_iload S d_M_common_126 5 rfl ?_
                        refine z_iadd S d_M_common_128 ?_
                        refine z_lald (x := ((dg 1000000 y4 i : Nat) : Int)) S hK 1 1 rfl rfl (r * 20 + i) (by omega) (by omega) (by decide) ((wkA_at _ (by omega)).trans (by rw [hSr, mN_d, if_neg (by omega)])) d_M_common_129 ?_
                        refine z_last (f' := wkA (un (un rr q (mN y4 x3 (i + 1))) r (mN x3 y4 i))) (ws' := [oM mo th mw (nv : Int) mg ma mb (ns : Int) mlo mhi (nw : Int) mwe mru mrd, aL cL mw 160 (wkA (un (un rr q (mN y4 x3 (i + 1))) r (mN x3 y4 i)))]) S hK 1 1 rfl rfl (q * 20 + i) (by omega) (by omega) (by decide) ((wkA_up (v := mN y4 x3 (i + 1)) (d := dg 1000000 y4 i) (by omega) rfl (fun j hj => by rw [hSq]; exact mN_s _ _ _ _)).trans (by rw [un_cm (Ne.symm hqr), un_un])) rfl d_M_common_130 ?_
                        refine z_aload_n S d_M_common_131 1 rfl ?_
                        refine z_get S hK la_M 0 rfl rfl 1 (by decide) k_M_7 rfl d_M_common_132 ?_
                        refine z_iload_n S d_M_common_135 3 rfl ?_
                        refine z_bipush S d_M_common_136 rfl ?_
                        refine z_imul S d_M_common_138 ?_
                        refine z_iload S d_M_common_139 5 rfl ?_
                        refine z_iadd S d_M_common_141 ?_
                        refine z_lload S d_M_common_142 0 rfl ?_
                        refine z_last (f' := wkA (un (un rr q (mN y4 x3 (i + 1))) r (mN x3 y4 (i + 1)))) (ws' := [oM mo th mw (nv : Int) mg ma mb (ns : Int) mlo mhi (nw : Int) mwe mru mrd, aL cL mw 160 (wkA (un (un rr q (mN y4 x3 (i + 1))) r (mN x3 y4 (i + 1))))]) S hK 1 1 rfl rfl (r * 20 + i) (by omega) (by omega) (by decide) ((wkA_up (v := mN x3 y4 (i + 1)) (d := dg 1000000 x3 i) (by omega) rfl (fun j hj => by rw [hSr2]; exact mN_s _ _ _ _)).trans (by rw [un_un])) rfl d_M_common_144 ?_
                        refine z_iinc (y := ((i + 1 : Nat) : Int)) (lv' := [(4, .int (zI ((i + 1 : Nat) : Int))), (5, .long (zL ((dg 1000000 x3 i : Nat) : Int))), (0, .ref mo), (1, .int (zI (q : Int))), (2, .int (zI (r : Int))), (3, .int (zI (tw : Int)))]) S d_M_common_145 5 rfl (by omega) (by decide) rfl ?_
                        refine z_goto (tgt := 86) S d_M_common_148 (by decide) ?_
                        refine z_lv (lv' := [(0, .ref mo), (1, .int (zI (q : Int))), (2, .int (zI (r : Int))), (3, .int (zI (tw : Int))), (4, .int (zI ((i + 1 : Nat) : Int)))]) [2, 3, 4, 5, 0] rfl ?_
                        exact ih86 (i + 1) (show ((i + 1) ≤ 20) from by omega) (show 20 - (i + 1) < 20 - i from by omega)
                · skip
                  have hye := b2_p c5
                  refine z_aload_n S d_M_common_66 0 rfl ?_
                  refine z_iload_n S d_M_common_67 2 rfl ?_
                  refine z_callVv (As := [.int (zI (r : Int))]) (st := []) (wc := [oM mo th mw (nv : Int) mg ma mb (ns : Int) mlo mhi (nw : Int) mwe mru mrd, aL cL mw 160 (wkA (un (un rr q (x3)) r (y4)))]) (wr := []) S hGok hK hg hA (s_M_halve l dC dI cI cL qT mo mw nv ma mb ns mlo mhi nw mwe mru mrd th mg (un (un rr q (x3)) r (y4)) r (by omega) (by rw [hRr4]; exact h4B)) (zcwV S (List.mem_cons_of_mem _ k_M_74) mV_M_halve k_M_74 hd_M_halve rfl rfl ⟨Nat.le_of_ble_eq_true rfl, Nat.le_of_ble_eq_true rfl⟩) rfl (Nat.le_of_ble_eq_true rfl) d_M_common_68 ⟨Nat.le_of_ble_eq_true rfl, Nat.le_of_ble_eq_true rfl⟩ rfl [0, 1] [] 0 rfl rfl rfl (by decide) rfl rfl rfl (by decide) (by decide) (fun w hp => ?_)
                  subst hp
                  show ZZ _ _ _ _ _ _ _ _ _ _ _ _ _ _ _ _ _ _ 71 [(0, .ref mo), (1, .int (zI (q : Int))), (2, .int (zI (r : Int))), (3, .int (zI (tw : Int)))] [] [oM mo th mw (nv : Int) mg ma mb (ns : Int) mlo mhi (nw : Int) mwe mru mrd, aL cL mw 160 (wkA (un (un (un rr q (x3)) r (y4)) r ((un (un rr q (x3)) r (y4)) r / 2)))]
                  refine z_wq (ws' := [oM mo th mw (nv : Int) mg ma mb (ns : Int) mlo mhi (nw : Int) mwe mru mrd, aL cL mw 160 (wkA (un (un rr q (x3)) r (y4 / 2)))]) (by rw [hRr4, un_un]) ?_
                  refine z_goto (tgt := 58) S d_M_common_71 (by decide) ?_
                  refine z_lv (lv' := [(0, .ref mo), (1, .int (zI (q : Int))), (2, .int (zI (r : Int))), (3, .int (zI (tw : Int)))]) [0, 1, 2, 3] rfl ?_
                  exact ih58 (y4 / 2) (show (0 < (y4 / 2)) ∧ ((y4 / 2) ≤ y3) ∧ (Nat.gcd x3 (y4 / 2) = Nat.gcd x3 y3) from ⟨by omega, by omega, by rw [Nat.gcd_comm, gcd_h hye h3o, Nat.gcd_comm]; exact h4g⟩) (show (y4 / 2) < y4 from by omega)
        · skip
          have hxe := b2_p c2
          have hyo : y % 2 = 1 := by omega
          refine z_aload_n S d_M_common_42 0 rfl ?_
          refine z_iload_n S d_M_common_43 1 rfl ?_
          refine z_callVv (As := [.int (zI (q : Int))]) (st := []) (wc := [oM mo th mw (nv : Int) mg ma mb (ns : Int) mlo mhi (nw : Int) mwe mru mrd, aL cL mw 160 (wkA (un (un rr q (x2)) r (y)))]) (wr := []) S hGok hK hg hA (s_M_halve l dC dI cI cL qT mo mw nv ma mb ns mlo mhi nw mwe mru mrd th mg (un (un rr q (x2)) r (y)) q (by omega) (by rw [hRq]; exact h2B)) (zcwV S (List.mem_cons_of_mem _ k_M_74) mV_M_halve k_M_74 hd_M_halve rfl rfl ⟨Nat.le_of_ble_eq_true rfl, Nat.le_of_ble_eq_true rfl⟩) rfl (Nat.le_of_ble_eq_true rfl) d_M_common_44 ⟨Nat.le_of_ble_eq_true rfl, Nat.le_of_ble_eq_true rfl⟩ rfl [0, 1] [] 0 rfl rfl rfl (by decide) rfl rfl rfl (by decide) (by decide) (fun w hp => ?_)
          subst hp
          show ZZ _ _ _ _ _ _ _ _ _ _ _ _ _ _ _ _ _ _ 47 [(0, .ref mo), (1, .int (zI (q : Int))), (2, .int (zI (r : Int))), (3, .int (zI (tw : Int)))] [] [oM mo th mw (nv : Int) mg ma mb (ns : Int) mlo mhi (nw : Int) mwe mru mrd, aL cL mw 160 (wkA (un (un (un rr q (x2)) r (y)) q ((un (un rr q (x2)) r (y)) q / 2)))]
          refine z_wq (ws' := [oM mo th mw (nv : Int) mg ma mb (ns : Int) mlo mhi (nw : Int) mwe mru mrd, aL cL mw 160 (wkA (un (un rr q (x2 / 2)) r (y)))]) (by rw [hRq, un_cm (Ne.symm hqr), un_un]) ?_
          refine z_goto (tgt := 34) S d_M_common_47 (by decide) ?_
          refine z_lv (lv' := [(0, .ref mo), (1, .int (zI (q : Int))), (2, .int (zI (r : Int))), (3, .int (zI (tw : Int)))]) [0, 1, 2, 3] rfl ?_
          exact ih34 (x2 / 2) (show (0 < (x2 / 2)) ∧ ((x2 / 2) ≤ rr q) ∧ ((x2 / 2) % 2 = 1 ∨ y % 2 = 1) ∧ (Nat.gcd (x2 / 2) y * 2 ^ tw = Nat.gcd (rr q) (rr r)) from ⟨by omega, by omega, Or.inr hyo, by rw [gcd_h hxe hyo]; exact h2g⟩) (show (x2 / 2) < x2 from by omega)
    · skip
      refine z_aload_n S d_M_common_10 0 rfl ?_
      refine z_iload_n S d_M_common_11 2 rfl ?_
      refine z_callVa (As := [.int (zI (r : Int))]) (st := []) (wc := [oM mo th mw (nv : Int) mg ma mb (ns : Int) mlo mhi (nw : Int) mwe mru mrd, aL cL mw 160 (wkA (un (un rr q (x)) r (y)))]) (wr := []) S hGok hK hg hA (s_M_isEven l dC dI cI cL qT mo mw nv ma mb ns mlo mhi nw mwe mru mrd th mg (un (un rr q (x)) r (y)) r (by omega)) (zcwV S (List.mem_cons_of_mem _ k_M_70) mV_M_isEven k_M_70 hd_M_isEven rfl rfl ⟨Nat.le_of_ble_eq_true rfl, Nat.le_of_ble_eq_true rfl⟩) rfl (Nat.le_of_ble_eq_true rfl) d_M_common_12 ⟨Nat.le_of_ble_eq_true rfl, Nat.le_of_ble_eq_true rfl⟩ rfl [0, 1] [] 0 rfl rfl rfl (by decide) rfl rfl rfl (by decide) (by decide) (fun x w hp => ?_)
      obtain ⟨rfl, rfl⟩ := hp
      show ZZ _ _ _ _ _ _ _ _ _ _ _ _ _ _ _ _ _ _ 15 [(0, .ref mo), (1, .int (zI (q : Int))), (2, .int (zI (r : Int))), (3, .int (zI (tw : Int)))] [.int (zI (b2 ((un (un rr q (x)) r (y)) r % 2 = 0)))] [oM mo th mw (nv : Int) mg ma mb (ns : Int) mlo mhi (nw : Int) mwe mru mrd, aL cL mw 160 (wkA (un (un rr q (x)) r (y)))]
      refine z_toi (a := b2 (y % 2 = 0)) (zI_c (by rw [hRr])) ?_
      have hb2 := b2_r (y % 2 = 0)
      refine z_if_eq (tgt := 34) S d_M_common_15 (by decide) (by omega) (fun c8 => ?_) (fun c8 => ?_)
      · skip
        have hod : x % 2 = 1 ∨ y % 2 = 1 := Or.inr (by have := b2_0.mp c8; omega)
        refine z_lv (lv' := [(0, .ref mo), (1, .int (zI (q : Int))), (2, .int (zI (r : Int))), (3, .int (zI (tw : Int)))]) [0, 1, 2, 3] rfl ?_
        refine z_loop (I := fun (x2 : Nat) => (0 < x2) ∧ (x2 ≤ rr q) ∧ (x2 % 2 = 1 ∨ y % 2 = 1) ∧ (Nat.gcd x2 y * 2 ^ tw = Nat.gcd (rr q) (rr r))) (μ := fun (x2 : Nat) => x2) (LV := fun (x2 : Nat) => [(0, .ref mo), (1, .int (zI (q : Int))), (2, .int (zI (r : Int))), (3, .int (zI (tw : Int)))]) (WS := fun (x2 : Nat) => [oM mo th mw (nv : Int) mg ma mb (ns : Int) mlo mhi (nw : Int) mwe mru mrd, aL cL mw 160 (wkA (un (un rr q (x2)) r (y)))]) (a := x) ?_ ?_
        · exact (show (0 < x) ∧ (x ≤ rr q) ∧ (x % 2 = 1 ∨ y % 2 = 1) ∧ (Nat.gcd x y * 2 ^ tw = Nat.gcd (rr q) (rr r)) from ⟨hx0, hxl, hod, hgc⟩)
        · intro x2 hI ih34
          obtain ⟨h20, h2l, h2o, h2g⟩ : (0 < x2) ∧ (x2 ≤ rr q) ∧ (x2 % 2 = 1 ∨ y % 2 = 1) ∧ (Nat.gcd x2 y * 2 ^ tw = Nat.gcd (rr q) (rr r)) := hI
          show ZZ _ _ _ _ _ _ _ _ _ _ _ _ _ _ _ _ _ _ 34 [(0, .ref mo), (1, .int (zI (q : Int))), (2, .int (zI (r : Int))), (3, .int (zI (tw : Int)))] [] [oM mo th mw (nv : Int) mg ma mb (ns : Int) mlo mhi (nw : Int) mwe mru mrd, aL cL mw 160 (wkA (un (un rr q (x2)) r (y)))]
          have hRq : (un (un rr q (x2)) r (y)) q = x2 := (un_n hqr).trans (un_s _ _ _)
          have hRr : (un (un rr q (x2)) r (y)) r = y := un_s _ _ _
          have h2B : x2 < 1000000 ^ 20 := by omega
          refine z_aload_n S d_M_common_34 0 rfl ?_
          refine z_iload_n S d_M_common_35 1 rfl ?_
          refine z_callVa (As := [.int (zI (q : Int))]) (st := []) (wc := [oM mo th mw (nv : Int) mg ma mb (ns : Int) mlo mhi (nw : Int) mwe mru mrd, aL cL mw 160 (wkA (un (un rr q (x2)) r (y)))]) (wr := []) S hGok hK hg hA (s_M_isEven l dC dI cI cL qT mo mw nv ma mb ns mlo mhi nw mwe mru mrd th mg (un (un rr q (x2)) r (y)) q (by omega)) (zcwV S (List.mem_cons_of_mem _ k_M_70) mV_M_isEven k_M_70 hd_M_isEven rfl rfl ⟨Nat.le_of_ble_eq_true rfl, Nat.le_of_ble_eq_true rfl⟩) rfl (Nat.le_of_ble_eq_true rfl) d_M_common_36 ⟨Nat.le_of_ble_eq_true rfl, Nat.le_of_ble_eq_true rfl⟩ rfl [0, 1] [] 0 rfl rfl rfl (by decide) rfl rfl rfl (by decide) (by decide) (fun x w hp => ?_)
          obtain ⟨rfl, rfl⟩ := hp
          show ZZ _ _ _ _ _ _ _ _ _ _ _ _ _ _ _ _ _ _ 39 [(0, .ref mo), (1, .int (zI (q : Int))), (2, .int (zI (r : Int))), (3, .int (zI (tw : Int)))] [.int (zI (b2 ((un (un rr q (x2)) r (y)) q % 2 = 0)))] [oM mo th mw (nv : Int) mg ma mb (ns : Int) mlo mhi (nw : Int) mwe mru mrd, aL cL mw 160 (wkA (un (un rr q (x2)) r (y)))]
          refine z_toi (a := b2 (x2 % 2 = 0)) (zI_c (by rw [hRq])) ?_
          have hb3 := b2_r (x2 % 2 = 0)
          refine z_if_eq (tgt := 50) S d_M_common_39 (by decide) (by omega) (fun c9 => ?_) (fun c9 => ?_)
          · skip
            have hxo : x2 % 2 = 1 := by have := b2_0.mp c9; omega
            refine z_lv (lv' := [(0, .ref mo), (1, .int (zI (q : Int))), (2, .int (zI (r : Int))), (3, .int (zI (tw : Int)))]) [0, 1, 2, 3] rfl ?_
            refine z_loop (I := fun (zz : Nat × Nat) => match zz with | (x3, y3) => (x3 % 2 = 1) ∧ (x3 < 1000000 ^ 20) ∧ (y3 < 1000000 ^ 20) ∧ (Nat.gcd x3 y3 * 2 ^ tw = Nat.gcd (rr q) (rr r))) (μ := fun (zz : Nat × Nat) => match zz with | (x3, y3) => x3 + y3) (LV := fun (zz : Nat × Nat) => match zz with | (x3, y3) => [(0, .ref mo), (1, .int (zI (q : Int))), (2, .int (zI (r : Int))), (3, .int (zI (tw : Int)))]) (WS := fun (zz : Nat × Nat) => match zz with | (x3, y3) => [oM mo th mw (nv : Int) mg ma mb (ns : Int) mlo mhi (nw : Int) mwe mru mrd, aL cL mw 160 (wkA (un (un rr q (x3)) r (y3)))]) (a := (x2, y)) ?_ ?_
            · exact (show (x2 % 2 = 1) ∧ (x2 < 1000000 ^ 20) ∧ (y < 1000000 ^ 20) ∧ (Nat.gcd x2 y * 2 ^ tw = Nat.gcd (rr q) (rr r)) from ⟨hxo, h2B, by omega, h2g⟩)
            · intro ⟨x3, y3⟩ hI ih50
              obtain ⟨h3o, h3x, h3y, h3g⟩ : (x3 % 2 = 1) ∧ (x3 < 1000000 ^ 20) ∧ (y3 < 1000000 ^ 20) ∧ (Nat.gcd x3 y3 * 2 ^ tw = Nat.gcd (rr q) (rr r)) := hI
              show ZZ _ _ _ _ _ _ _ _ _ _ _ _ _ _ _ _ _ _ 50 [(0, .ref mo), (1, .int (zI (q : Int))), (2, .int (zI (r : Int))), (3, .int (zI (tw : Int)))] [] [oM mo th mw (nv : Int) mg ma mb (ns : Int) mlo mhi (nw : Int) mwe mru mrd, aL cL mw 160 (wkA (un (un rr q (x3)) r (y3)))]
              have hRq : (un (un rr q (x3)) r (y3)) q = x3 := (un_n hqr).trans (un_s _ _ _)
              have hRr : (un (un rr q (x3)) r (y3)) r = y3 := un_s _ _ _
              refine z_aload_n S d_M_common_50 0 rfl ?_
              refine z_iload_n S d_M_common_51 2 rfl ?_
              refine z_callVa (As := [.int (zI (r : Int))]) (st := []) (wc := [oM mo th mw (nv : Int) mg ma mb (ns : Int) mlo mhi (nw : Int) mwe mru mrd, aL cL mw 160 (wkA (un (un rr q (x3)) r (y3)))]) (wr := []) S hGok hK hg hA (s_M_isNought l dC dI cI cL qT mo mw nv ma mb ns mlo mhi nw mwe mru mrd th mg (un (un rr q (x3)) r (y3)) r (by omega) (by rw [hRr]; exact h3y)) (zcwV S (List.mem_cons_of_mem _ k_M_77) mV_M_isNought k_M_77 hd_M_isNought rfl rfl ⟨Nat.le_of_ble_eq_true rfl, Nat.le_of_ble_eq_true rfl⟩) rfl (Nat.le_of_ble_eq_true rfl) d_M_common_52 ⟨Nat.le_of_ble_eq_true rfl, Nat.le_of_ble_eq_true rfl⟩ rfl [0, 1] [] 0 rfl rfl rfl (by decide) rfl rfl rfl (by decide) (by decide) (fun x w hp => ?_)
              obtain ⟨rfl, rfl⟩ := hp
              show ZZ _ _ _ _ _ _ _ _ _ _ _ _ _ _ _ _ _ _ 55 [(0, .ref mo), (1, .int (zI (q : Int))), (2, .int (zI (r : Int))), (3, .int (zI (tw : Int)))] [.int (zI (b2 ((un (un rr q (x3)) r (y3)) r = 0)))] [oM mo th mw (nv : Int) mg ma mb (ns : Int) mlo mhi (nw : Int) mwe mru mrd, aL cL mw 160 (wkA (un (un rr q (x3)) r (y3)))]
              refine z_toi (a := b2 (y3 = 0)) (zI_c (by rw [hRr])) ?_
              have hb5 := b2_r (y3 = 0)
              refine z_if_ne (tgt := 160) S d_M_common_55 (by decide) (by omega) (fun c10 => ?_) (fun c10 => ?_)
              · skip
                have hz3 : y3 = 0 := b2_p c10
                have hfin : x3 * 2 ^ tw = Nat.gcd (rr q) (rr r) := by rw [hz3, Nat.gcd_zero_right] at h3g; exact h3g
                have hGl : Nat.gcd (rr q) (rr r) ≤ rr q := Nat.le_of_dvd hq0 (Nat.gcd_dvd_left _ _)
                have htw := tw_lt (show 0 < x3 by omega) (show x3 * 2 ^ tw ≤ rr q by omega) hq
                refine z_iconst S d_M_common_160 ?_
                refine z_istore (lv' := [(4, .int (zI 0)), (0, .ref mo), (1, .int (zI (q : Int))), (2, .int (zI (r : Int))), (3, .int (zI (tw : Int)))]) S d_M_common_161 (by decide) rfl ?_
                refine z_lv (lv' := [(0, .ref mo), (1, .int (zI (q : Int))), (2, .int (zI (r : Int))), (3, .int (zI (tw : Int))), (4, .int (zI 0))]) [1, 2, 3, 4, 0] rfl ?_
                refine z_wq (ws' := [oM mo th mw (nv : Int) mg ma mb (ns : Int) mlo mhi (nw : Int) mwe mru mrd, aL cL mw 160 (wkA (un (un rr q (x3 * 2 ^ 0)) r (0)))]) (by rw [Nat.pow_zero, Nat.mul_one, hz3]) ?_
                refine z_lq (lv' := [(0, .ref mo), (1, .int (zI (q : Int))), (2, .int (zI (r : Int))), (3, .int (zI (tw : Int))), (4, .int (zI ((0 : Nat) : Int)))]) (congrArg (fun zzz : Int => ([(0, .ref mo), (1, .int (zI (q : Int))), (2, .int (zI (r : Int))), (3, .int (zI (tw : Int))), (4, .int (zI zzz))] : List (Nat × Value))) (show (0 : Int) = ((0 : Nat) : Int) by omega)) ?_
                refine z_loop (I := fun (j : Nat) => (j ≤ tw)) (μ := fun (j : Nat) => tw - j) (LV := fun (j : Nat) => [(0, .ref mo), (1, .int (zI (q : Int))), (2, .int (zI (r : Int))), (3, .int (zI (tw : Int))), (4, .int (zI (j : Int)))]) (WS := fun (j : Nat) => [oM mo th mw (nv : Int) mg ma mb (ns : Int) mlo mhi (nw : Int) mwe mru mrd, aL cL mw 160 (wkA (un (un rr q (x3 * 2 ^ j)) r (0)))]) (a := 0) ?_ ?_
                · exact (show (0 ≤ tw) from by omega)
                · intro j hI ih163
                  have hj : j ≤ tw := hI
                  show ZZ _ _ _ _ _ _ _ _ _ _ _ _ _ _ _ _ _ _ 163 [(0, .ref mo), (1, .int (zI (q : Int))), (2, .int (zI (r : Int))), (3, .int (zI (tw : Int))), (4, .int (zI (j : Int)))] [] [oM mo th mw (nv : Int) mg ma mb (ns : Int) mlo mhi (nw : Int) mwe mru mrd, aL cL mw 160 (wkA (un (un rr q (x3 * 2 ^ j)) r (0)))]
                  have hUq : (un (un rr q (x3 * 2 ^ j)) r (0)) q = x3 * 2 ^ j := (un_n hqr).trans (un_s _ _ _)
                  refine z_iload S d_M_common_163 4 rfl ?_
                  refine z_iload_n S d_M_common_165 3 rfl ?_
                  refine z_icmp_ge (tgt := 181) S d_M_common_166 (by decide) (by omega) (by omega) (fun c11 => ?_) (fun c11 => ?_)
                  · skip
                    refine z_wq (ws' := [oM mo th mw (nv : Int) mg ma mb (ns : Int) mlo mhi (nw : Int) mwe mru mrd, aL cL mw 160 (wkA (un (un rr q (Nat.gcd (rr q) (rr r))) r (0)))]) (by rw [show j = tw by omega, hfin]) ?_
                    exact z_vret (w := [oM mo th mw (nv : Int) mg ma mb (ns : Int) mlo mhi (nw : Int) mwe mru mrd, aL cL mw 160 (wkA (un (un rr q (Nat.gcd (rr q) (rr r))) r (0)))]) S hr hlo hAe d_M_common_181 [0, 1] (by decide) rfl rfl ⟨Nat.le_refl _, Nat.le_refl _⟩ (rfl)
                  · skip
                    have hdb : x3 * 2 ^ j + x3 * 2 ^ j = x3 * 2 ^ (j + 1) := by rw [Nat.pow_succ, ← Nat.mul_assoc, Nat.mul_two]
                    have hdl : x3 * 2 ^ (j + 1) ≤ x3 * 2 ^ tw := Nat.mul_le_mul_left _ (Nat.pow_le_pow_right (by decide) (by omega))
                    refine z_aload_n S d_M_common_169 0 rfl ?_
                    refine z_iload_n S d_M_common_170 1 rfl ?_
                    refine z_iload_n S d_M_common_171 1 rfl ?_
                    refine z_callVv (As := [.int (zI (q : Int)), .int (zI (q : Int))]) (st := []) (wc := [oM mo th mw (nv : Int) mg ma mb (ns : Int) mlo mhi (nw : Int) mwe mru mrd, aL cL mw 160 (wkA (un (un rr q (x3 * 2 ^ j)) r (0)))]) (wr := []) S hGok hK hg hA (s_M_adds l dC dI cI cL qT mo mw nv ma mb ns mlo mhi nw mwe mru mrd th mg (un (un rr q (x3 * 2 ^ j)) r (0)) q q (by omega) (by omega) (by rw [hUq]; omega)) (zcwV S (List.mem_cons_of_mem _ k_M_88) mV_M_adds k_M_88 hd_M_adds rfl rfl ⟨Nat.le_of_ble_eq_true rfl, Nat.le_of_ble_eq_true rfl⟩) rfl (Nat.le_of_ble_eq_true rfl) d_M_common_172 ⟨Nat.le_of_ble_eq_true rfl, Nat.le_of_ble_eq_true rfl⟩ rfl [0, 1] [] 0 rfl rfl rfl (by decide) rfl rfl rfl (by decide) (by decide) (fun w hp => ?_)
                    subst hp
                    show ZZ _ _ _ _ _ _ _ _ _ _ _ _ _ _ _ _ _ _ 175 [(0, .ref mo), (1, .int (zI (q : Int))), (2, .int (zI (r : Int))), (3, .int (zI (tw : Int))), (4, .int (zI (j : Int)))] [] [oM mo th mw (nv : Int) mg ma mb (ns : Int) mlo mhi (nw : Int) mwe mru mrd, aL cL mw 160 (wkA (un (un (un rr q (x3 * 2 ^ j)) r (0)) q ((un (un rr q (x3 * 2 ^ j)) r (0)) q + (un (un rr q (x3 * 2 ^ j)) r (0)) q)))]
                    refine z_wq (ws' := [oM mo th mw (nv : Int) mg ma mb (ns : Int) mlo mhi (nw : Int) mwe mru mrd, aL cL mw 160 (wkA (un (un rr q (x3 * 2 ^ (j + 1))) r (0)))]) (by rw [hUq, hdb, un_cm (Ne.symm hqr), un_un]) ?_
                    refine z_iinc (y := ((j + 1 : Nat) : Int)) (lv' := [(4, .int (zI ((j + 1 : Nat) : Int))), (0, .ref mo), (1, .int (zI (q : Int))), (2, .int (zI (r : Int))), (3, .int (zI (tw : Int)))]) S d_M_common_175 4 rfl (by omega) (by decide) rfl ?_
                    refine z_goto (tgt := 163) S d_M_common_178 (by decide) ?_
                    refine z_lv (lv' := [(0, .ref mo), (1, .int (zI (q : Int))), (2, .int (zI (r : Int))), (3, .int (zI (tw : Int))), (4, .int (zI ((j + 1 : Nat) : Int)))]) [1, 2, 3, 4, 0] rfl ?_
                    exact ih163 (j + 1) (show ((j + 1) ≤ tw) from by omega) (show tw - (j + 1) < tw - j from by omega)
              · skip
                have hy30 := b2_0.mp c10
                refine z_lv (lv' := [(0, .ref mo), (1, .int (zI (q : Int))), (2, .int (zI (r : Int))), (3, .int (zI (tw : Int)))]) [0, 1, 2, 3] rfl ?_
                refine z_loop (I := fun (y4 : Nat) => (0 < y4) ∧ (y4 ≤ y3) ∧ (Nat.gcd x3 y4 = Nat.gcd x3 y3)) (μ := fun (y4 : Nat) => y4) (LV := fun (y4 : Nat) => [(0, .ref mo), (1, .int (zI (q : Int))), (2, .int (zI (r : Int))), (3, .int (zI (tw : Int)))]) (WS := fun (y4 : Nat) => [oM mo th mw (nv : Int) mg ma mb (ns : Int) mlo mhi (nw : Int) mwe mru mrd, aL cL mw 160 (wkA (un (un rr q (x3)) r (y4)))]) (a := y3) ?_ ?_
                · exact (show (0 < y3) ∧ (y3 ≤ y3) ∧ (Nat.gcd x3 y3 = Nat.gcd x3 y3) from ⟨by omega, Nat.le_refl _, rfl⟩)
                · intro y4 hI ih58
                  obtain ⟨h40, h4l, h4g⟩ : (0 < y4) ∧ (y4 ≤ y3) ∧ (Nat.gcd x3 y4 = Nat.gcd x3 y3) := hI
                  show ZZ _ _ _ _ _ _ _ _ _ _ _ _ _ _ _ _ _ _ 58 [(0, .ref mo), (1, .int (zI (q : Int))), (2, .int (zI (r : Int))), (3, .int (zI (tw : Int)))] [] [oM mo th mw (nv : Int) mg ma mb (ns : Int) mlo mhi (nw : Int) mwe mru mrd, aL cL mw 160 (wkA (un (un rr q (x3)) r (y4)))]
                  have hRq4 : (un (un rr q (x3)) r (y4)) q = x3 := (un_n hqr).trans (un_s _ _ _)
                  have hRr4 : (un (un rr q (x3)) r (y4)) r = y4 := un_s _ _ _
                  have h4B : y4 < 1000000 ^ 20 := by omega
                  refine z_aload_n S d_M_common_58 0 rfl ?_
                  refine z_iload_n S d_M_common_59 2 rfl ?_
                  refine z_callVa (As := [.int (zI (r : Int))]) (st := []) (wc := [oM mo th mw (nv : Int) mg ma mb (ns : Int) mlo mhi (nw : Int) mwe mru mrd, aL cL mw 160 (wkA (un (un rr q (x3)) r (y4)))]) (wr := []) S hGok hK hg hA (s_M_isEven l dC dI cI cL qT mo mw nv ma mb ns mlo mhi nw mwe mru mrd th mg (un (un rr q (x3)) r (y4)) r (by omega)) (zcwV S (List.mem_cons_of_mem _ k_M_70) mV_M_isEven k_M_70 hd_M_isEven rfl rfl ⟨Nat.le_of_ble_eq_true rfl, Nat.le_of_ble_eq_true rfl⟩) rfl (Nat.le_of_ble_eq_true rfl) d_M_common_60 ⟨Nat.le_of_ble_eq_true rfl, Nat.le_of_ble_eq_true rfl⟩ rfl [0, 1] [] 0 rfl rfl rfl (by decide) rfl rfl rfl (by decide) (by decide) (fun x w hp => ?_)
                  obtain ⟨rfl, rfl⟩ := hp
                  show ZZ _ _ _ _ _ _ _ _ _ _ _ _ _ _ _ _ _ _ 63 [(0, .ref mo), (1, .int (zI (q : Int))), (2, .int (zI (r : Int))), (3, .int (zI (tw : Int)))] [.int (zI (b2 ((un (un rr q (x3)) r (y4)) r % 2 = 0)))] [oM mo th mw (nv : Int) mg ma mb (ns : Int) mlo mhi (nw : Int) mwe mru mrd, aL cL mw 160 (wkA (un (un rr q (x3)) r (y4)))]
                  refine z_toi (a := b2 (y4 % 2 = 0)) (zI_c (by rw [hRr4])) ?_
                  have hb4 := b2_r (y4 % 2 = 0)
                  refine z_if_eq (tgt := 74) S d_M_common_63 (by decide) (by omega) (fun c12 => ?_) (fun c12 => ?_)
                  · skip
                    have hyo4 : y4 % 2 = 1 := by have := b2_0.mp c12; omega
                    refine z_aload_n S d_M_common_74 0 rfl ?_
                    refine z_iload_n S d_M_common_75 1 rfl ?_
                    refine z_iload_n S d_M_common_76 2 rfl ?_
                    refine z_callVa (As := [.int (zI (q : Int)), .int (zI (r : Int))]) (st := []) (wc := [oM mo th mw (nv : Int) mg ma mb (ns : Int) mlo mhi (nw : Int) mwe mru mrd, aL cL mw 160 (wkA (un (un rr q (x3)) r (y4)))]) (wr := []) S hGok hK hg hA (s_M_compare l dC dI cI cL qT mo mw nv ma mb ns mlo mhi nw mwe mru mrd th mg (un (un rr q (x3)) r (y4)) q r (by omega) (by omega) (by rw [hRq4]; exact h3x) (by rw [hRr4]; exact h4B)) (zcwV S (List.mem_cons_of_mem _ k_M_80) mV_M_compare k_M_80 hd_M_compare rfl rfl ⟨Nat.le_of_ble_eq_true rfl, Nat.le_of_ble_eq_true rfl⟩) rfl (Nat.le_of_ble_eq_true rfl) d_M_common_77 ⟨Nat.le_of_ble_eq_true rfl, Nat.le_of_ble_eq_true rfl⟩ rfl [0, 1] [] 0 rfl rfl rfl (by decide) rfl rfl rfl (by decide) (by decide) (fun x w hp => ?_)
                    obtain ⟨rfl, rfl⟩ := hp
                    show ZZ _ _ _ _ _ _ _ _ _ _ _ _ _ _ _ _ _ _ 80 [(0, .ref mo), (1, .int (zI (q : Int))), (2, .int (zI (r : Int))), (3, .int (zI (tw : Int)))] [.int (zI (cmpN ((un (un rr q (x3)) r (y4)) q) ((un (un rr q (x3)) r (y4)) r)))] [oM mo th mw (nv : Int) mg ma mb (ns : Int) mlo mhi (nw : Int) mwe mru mrd, aL cL mw 160 (wkA (un (un rr q (x3)) r (y4)))]
                    refine z_toi (a := cmpN x3 y4) (zI_c (by rw [hRq4, hRr4])) ?_
                    have hcr := cmpN_r x3 y4
                    refine z_if_le (tgt := 151) S d_M_common_80 (by decide) (by omega) (fun c13 => ?_) (fun c13 => ?_)
                    · skip
                      have hle : x3 ≤ y4 := by
                        rcases Nat.lt_or_ge y4 x3 with z | z
                        · have := cmpN_gt z; omega
                        · exact z
                      have hTq := hRq4
                      have hTr := hRr4
                      refine z_aload_n S d_M_common_151 0 rfl ?_
                      refine z_iload_n S d_M_common_152 2 rfl ?_
                      refine z_iload_n S d_M_common_153 1 rfl ?_
                      refine z_callVv (As := [.int (zI (r : Int)), .int (zI (q : Int))]) (st := []) (wc := [oM mo th mw (nv : Int) mg ma mb (ns : Int) mlo mhi (nw : Int) mwe mru mrd, aL cL mw 160 (wkA (un (un rr q (x3)) r (y4)))]) (wr := []) S hGok hK hg hA (s_M_takesOff l dC dI cI cL qT mo mw nv ma mb ns mlo mhi nw mwe mru mrd th mg (un (un rr q (x3)) r (y4)) r q (by omega) (by omega) (by rw [hTr]; omega) (by rw [hTq, hTr]; omega)) (zcwV S (List.mem_cons_of_mem _ k_M_84) mV_M_takesOff k_M_84 hd_M_takesOff rfl rfl ⟨Nat.le_of_ble_eq_true rfl, Nat.le_of_ble_eq_true rfl⟩) rfl (Nat.le_of_ble_eq_true rfl) d_M_common_154 ⟨Nat.le_of_ble_eq_true rfl, Nat.le_of_ble_eq_true rfl⟩ rfl [0, 1] [] 0 rfl rfl rfl (by decide) rfl rfl rfl (by decide) (by decide) (fun w hp => ?_)
                      subst hp
                      show ZZ _ _ _ _ _ _ _ _ _ _ _ _ _ _ _ _ _ _ 157 [(0, .ref mo), (1, .int (zI (q : Int))), (2, .int (zI (r : Int))), (3, .int (zI (tw : Int)))] [] [oM mo th mw (nv : Int) mg ma mb (ns : Int) mlo mhi (nw : Int) mwe mru mrd, aL cL mw 160 (wkA (un (un (un rr q (x3)) r (y4)) r ((un (un rr q (x3)) r (y4)) r - (un (un rr q (x3)) r (y4)) q)))]
                      refine z_wq (ws' := [oM mo th mw (nv : Int) mg ma mb (ns : Int) mlo mhi (nw : Int) mwe mru mrd, aL cL mw 160 (wkA (un (un rr q (x3)) r (y4 - x3)))]) (by rw [hTq, hTr, un_un]) ?_
                      refine z_goto (tgt := 50) S d_M_common_157 (by decide) ?_
                      refine z_lv (lv' := [(0, .ref mo), (1, .int (zI (q : Int))), (2, .int (zI (r : Int))), (3, .int (zI (tw : Int)))]) [0, 1, 2, 3] rfl ?_
                      exact ih50 (x3, (y4 - x3)) (show (x3 % 2 = 1) ∧ (x3 < 1000000 ^ 20) ∧ ((y4 - x3) < 1000000 ^ 20) ∧ (Nat.gcd x3 (y4 - x3) * 2 ^ tw = Nat.gcd (rr q) (rr r)) from ⟨h3o, h3x, by omega, by rw [gcd_s (show x3 ≤ y4 by omega), h4g]; exact h3g⟩) (show x3 + (y4 - x3) < x3 + y3 from by omega)
                    · skip
                      have hgt : y4 < x3 := cmpN_pos (by omega)
                      refine z_iconst S d_M_common_83 ?_
                      refine z_istore (lv' := [(4, .int (zI 0)), (0, .ref mo), (1, .int (zI (q : Int))), (2, .int (zI (r : Int))), (3, .int (zI (tw : Int)))]) S d_M_common_84 (by decide) rfl ?_
                      refine z_lv (lv' := [(0, .ref mo), (1, .int (zI (q : Int))), (2, .int (zI (r : Int))), (3, .int (zI (tw : Int))), (4, .int (zI 0))]) [1, 2, 3, 4, 0] rfl ?_
                      refine z_wq (ws' := [oM mo th mw (nv : Int) mg ma mb (ns : Int) mlo mhi (nw : Int) mwe mru mrd, aL cL mw 160 (wkA (un (un rr q (mN y4 x3 0)) r (mN x3 y4 0)))]) (by rw [mN_0, mN_0]) ?_
                      refine z_lq (lv' := [(0, .ref mo), (1, .int (zI (q : Int))), (2, .int (zI (r : Int))), (3, .int (zI (tw : Int))), (4, .int (zI ((0 : Nat) : Int)))]) (congrArg (fun zzz : Int => ([(0, .ref mo), (1, .int (zI (q : Int))), (2, .int (zI (r : Int))), (3, .int (zI (tw : Int))), (4, .int (zI zzz))] : List (Nat × Value))) (show (0 : Int) = ((0 : Nat) : Int) by omega)) ?_
                      refine z_loop (I := fun (i : Nat) => (i ≤ 20)) (μ := fun (i : Nat) => 20 - i) (LV := fun (i : Nat) => [(0, .ref mo), (1, .int (zI (q : Int))), (2, .int (zI (r : Int))), (3, .int (zI (tw : Int))), (4, .int (zI (i : Int)))]) (WS := fun (i : Nat) => [oM mo th mw (nv : Int) mg ma mb (ns : Int) mlo mhi (nw : Int) mwe mru mrd, aL cL mw 160 (wkA (un (un rr q (mN y4 x3 i)) r (mN x3 y4 i)))]) (a := 0) ?_ ?_
                      · exact (show (0 ≤ 20) from by omega)
                      · intro i hI ih86
                        have hi : i ≤ 20 := hI
                        show ZZ _ _ _ _ _ _ _ _ _ _ _ _ _ _ _ _ _ _ 86 [(0, .ref mo), (1, .int (zI (q : Int))), (2, .int (zI (r : Int))), (3, .int (zI (tw : Int))), (4, .int (zI (i : Int)))] [] [oM mo th mw (nv : Int) mg ma mb (ns : Int) mlo mhi (nw : Int) mwe mru mrd, aL cL mw 160 (wkA (un (un rr q (mN y4 x3 i)) r (mN x3 y4 i)))]
                        have hSq : (un (un rr q (mN y4 x3 i)) r (mN x3 y4 i)) q = mN y4 x3 i := (un_n hqr).trans (un_s _ _ _)
                        have hSr : (un (un rr q (mN y4 x3 i)) r (mN x3 y4 i)) r = mN x3 y4 i := un_s _ _ _
                        have hSr2 : (un (un rr q (mN y4 x3 (i + 1))) r (mN x3 y4 i)) r = mN x3 y4 i := un_s _ _ _
                        refine z_iload S d_M_common_86 4 rfl ?_
                        refine z_bipush S d_M_common_88 rfl ?_
                        refine z_icmp_ge (tgt := 151) S d_M_common_90 (by decide) (by omega) (by omega) (fun c14 => ?_) (fun c14 => ?_)
                        · skip
                          refine z_wq (ws' := [oM mo th mw (nv : Int) mg ma mb (ns : Int) mlo mhi (nw : Int) mwe mru mrd, aL cL mw 160 (wkA (un (un rr q (y4)) r (x3)))]) (by rw [show i = 20 by omega, mN_e h4B h3x, mN_e h3x h4B]) ?_
                          have hTq : (un (un rr q (y4)) r (x3)) q = y4 := (un_n hqr).trans (un_s _ _ _)
                          have hTr : (un (un rr q (y4)) r (x3)) r = x3 := un_s _ _ _
                          refine z_aload_n S d_M_common_151 0 rfl ?_
                          refine z_iload_n S d_M_common_152 2 rfl ?_
                          refine z_iload_n S d_M_common_153 1 rfl ?_
                          refine z_callVv (As := [.int (zI (r : Int)), .int (zI (q : Int))]) (st := []) (wc := [oM mo th mw (nv : Int) mg ma mb (ns : Int) mlo mhi (nw : Int) mwe mru mrd, aL cL mw 160 (wkA (un (un rr q (y4)) r (x3)))]) (wr := []) S hGok hK hg hA (s_M_takesOff l dC dI cI cL qT mo mw nv ma mb ns mlo mhi nw mwe mru mrd th mg (un (un rr q (y4)) r (x3)) r q (by omega) (by omega) (by rw [hTr]; omega) (by rw [hTq, hTr]; omega)) (zcwV S (List.mem_cons_of_mem _ k_M_84) mV_M_takesOff k_M_84 hd_M_takesOff rfl rfl ⟨Nat.le_of_ble_eq_true rfl, Nat.le_of_ble_eq_true rfl⟩) rfl (Nat.le_of_ble_eq_true rfl) d_M_common_154 ⟨Nat.le_of_ble_eq_true rfl, Nat.le_of_ble_eq_true rfl⟩ rfl [0, 1] [] 0 rfl rfl rfl (by decide) rfl rfl rfl (by decide) (by decide) (fun w hp => ?_)
                          subst hp
                          show ZZ _ _ _ _ _ _ _ _ _ _ _ _ _ _ _ _ _ _ 157 [(0, .ref mo), (1, .int (zI (q : Int))), (2, .int (zI (r : Int))), (3, .int (zI (tw : Int))), (4, .int (zI (i : Int)))] [] [oM mo th mw (nv : Int) mg ma mb (ns : Int) mlo mhi (nw : Int) mwe mru mrd, aL cL mw 160 (wkA (un (un (un rr q (y4)) r (x3)) r ((un (un rr q (y4)) r (x3)) r - (un (un rr q (y4)) r (x3)) q)))]
                          refine z_wq (ws' := [oM mo th mw (nv : Int) mg ma mb (ns : Int) mlo mhi (nw : Int) mwe mru mrd, aL cL mw 160 (wkA (un (un rr q (y4)) r (x3 - y4)))]) (by rw [hTq, hTr, un_un]) ?_
                          refine z_goto (tgt := 50) S d_M_common_157 (by decide) ?_
                          refine z_lv (lv' := [(0, .ref mo), (1, .int (zI (q : Int))), (2, .int (zI (r : Int))), (3, .int (zI (tw : Int)))]) [0, 1, 2, 3] rfl ?_
                          exact ih50 (y4, (x3 - y4)) (show (y4 % 2 = 1) ∧ (y4 < 1000000 ^ 20) ∧ ((x3 - y4) < 1000000 ^ 20) ∧ (Nat.gcd y4 (x3 - y4) * 2 ^ tw = Nat.gcd (rr q) (rr r)) from ⟨by omega, by omega, by omega, by rw [gcd_s (show y4 ≤ x3 by omega), Nat.gcd_comm, h4g]; exact h3g⟩) (show y4 + (x3 - y4) < x3 + y3 from by omega)
                        · skip
                          refine z_aload_n S d_M_common_93 0 rfl ?_
                          refine z_get S hK la_M 0 rfl rfl 1 (by decide) k_M_7 rfl d_M_common_94 ?_
                          refine z_iload_n S d_M_common_97 1 rfl ?_
                          refine z_bipush S d_M_common_98 rfl ?_
                          refine z_imul S d_M_common_100 ?_
                          refine z_iload S d_M_common_101 4 rfl ?_
                          refine z_iadd S d_M_common_103 ?_
                          refine z_lald (x := ((dg 1000000 x3 i : Nat) : Int)) S hK 1 1 rfl rfl (q * 20 + i) (by omega) (by omega) (by decide) ((wkA_at _ (by omega)).trans (by rw [hSq, mN_d, if_neg (by omega)])) d_M_common_104 ?_
                          refine z_lstore (lv' := [(5, .long (zL ((dg 1000000 x3 i : Nat) : Int))), (0, .ref mo), (1, .int (zI (q : Int))), (2, .int (zI (r : Int))), (3, .int (zI (tw : Int))), (4, .int (zI (i : Int)))]) S d_M_common_105 (by decide) rfl ?_
                          refine z_aload_n S d_M_common_107 1 rfl ?_
                          refine z_get S hK la_M 0 rfl rfl 1 (by decide) k_M_7 rfl d_M_common_108 ?_
                          refine z_iload_n S d_M_common_111 2 rfl ?_
                          refine z_bipush S d_M_common_112 rfl ?_
                          refine z_imul S d_M_common_114 ?_
                          refine z_iload S d_M_common_115 5 rfl ?_
                          refine z_iadd S d_M_common_117 ?_
                          refine z_aload_n S d_M_common_118 1 rfl ?_
                          refine z_get S hK la_M 0 rfl rfl 1 (by decide) k_M_7 rfl d_M_common_119 ?_
                          refine z_iload_n S d_M_common_122 3 rfl ?_
                          refine z_bipush S d_M_common_123 rfl ?_
                          refine z_imul S d_M_common_125 ?_
                          refine z_iload S d_M_common_126 5 rfl ?_
                          refine z_iadd S d_M_common_128 ?_
                          refine z_lald (x := ((dg 1000000 y4 i : Nat) : Int)) S hK 1 1 rfl rfl (r * 20 + i) (by omega) (by omega) (by decide) ((wkA_at _ (by omega)).trans (by rw [hSr, mN_d, if_neg (by omega)])) d_M_common_129 ?_
                          refine z_last (f' := wkA (un (un rr q (mN y4 x3 (i + 1))) r (mN x3 y4 i))) (ws' := [oM mo th mw (nv : Int) mg ma mb (ns : Int) mlo mhi (nw : Int) mwe mru mrd, aL cL mw 160 (wkA (un (un rr q (mN y4 x3 (i + 1))) r (mN x3 y4 i)))]) S hK 1 1 rfl rfl (q * 20 + i) (by omega) (by omega) (by decide) ((wkA_up (v := mN y4 x3 (i + 1)) (d := dg 1000000 y4 i) (by omega) rfl (fun j hj => by rw [hSq]; exact mN_s _ _ _ _)).trans (by rw [un_cm (Ne.symm hqr), un_un])) rfl d_M_common_130 ?_
                          refine z_aload_n S d_M_common_131 1 rfl ?_
                          refine z_get S hK la_M 0 rfl rfl 1 (by decide) k_M_7 rfl d_M_common_132 ?_
                          refine z_iload_n S d_M_common_135 3 rfl ?_
                          refine z_bipush S d_M_common_136 rfl ?_
                          refine z_imul S d_M_common_138 ?_
                          refine z_iload S d_M_common_139 5 rfl ?_
                          refine z_iadd S d_M_common_141 ?_
                          refine z_lload S d_M_common_142 0 rfl ?_
                          refine z_last (f' := wkA (un (un rr q (mN y4 x3 (i + 1))) r (mN x3 y4 (i + 1)))) (ws' := [oM mo th mw (nv : Int) mg ma mb (ns : Int) mlo mhi (nw : Int) mwe mru mrd, aL cL mw 160 (wkA (un (un rr q (mN y4 x3 (i + 1))) r (mN x3 y4 (i + 1))))]) S hK 1 1 rfl rfl (r * 20 + i) (by omega) (by omega) (by decide) ((wkA_up (v := mN x3 y4 (i + 1)) (d := dg 1000000 x3 i) (by omega) rfl (fun j hj => by rw [hSr2]; exact mN_s _ _ _ _)).trans (by rw [un_un])) rfl d_M_common_144 ?_
                          refine z_iinc (y := ((i + 1 : Nat) : Int)) (lv' := [(4, .int (zI ((i + 1 : Nat) : Int))), (5, .long (zL ((dg 1000000 x3 i : Nat) : Int))), (0, .ref mo), (1, .int (zI (q : Int))), (2, .int (zI (r : Int))), (3, .int (zI (tw : Int)))]) S d_M_common_145 5 rfl (by omega) (by decide) rfl ?_
                          refine z_goto (tgt := 86) S d_M_common_148 (by decide) ?_
                          refine z_lv (lv' := [(0, .ref mo), (1, .int (zI (q : Int))), (2, .int (zI (r : Int))), (3, .int (zI (tw : Int))), (4, .int (zI ((i + 1 : Nat) : Int)))]) [2, 3, 4, 5, 0] rfl ?_
                          exact ih86 (i + 1) (show ((i + 1) ≤ 20) from by omega) (show 20 - (i + 1) < 20 - i from by omega)
                  · skip
                    have hye := b2_p c12
                    refine z_aload_n S d_M_common_66 0 rfl ?_
                    refine z_iload_n S d_M_common_67 2 rfl ?_
                    refine z_callVv (As := [.int (zI (r : Int))]) (st := []) (wc := [oM mo th mw (nv : Int) mg ma mb (ns : Int) mlo mhi (nw : Int) mwe mru mrd, aL cL mw 160 (wkA (un (un rr q (x3)) r (y4)))]) (wr := []) S hGok hK hg hA (s_M_halve l dC dI cI cL qT mo mw nv ma mb ns mlo mhi nw mwe mru mrd th mg (un (un rr q (x3)) r (y4)) r (by omega) (by rw [hRr4]; exact h4B)) (zcwV S (List.mem_cons_of_mem _ k_M_74) mV_M_halve k_M_74 hd_M_halve rfl rfl ⟨Nat.le_of_ble_eq_true rfl, Nat.le_of_ble_eq_true rfl⟩) rfl (Nat.le_of_ble_eq_true rfl) d_M_common_68 ⟨Nat.le_of_ble_eq_true rfl, Nat.le_of_ble_eq_true rfl⟩ rfl [0, 1] [] 0 rfl rfl rfl (by decide) rfl rfl rfl (by decide) (by decide) (fun w hp => ?_)
                    subst hp
                    show ZZ _ _ _ _ _ _ _ _ _ _ _ _ _ _ _ _ _ _ 71 [(0, .ref mo), (1, .int (zI (q : Int))), (2, .int (zI (r : Int))), (3, .int (zI (tw : Int)))] [] [oM mo th mw (nv : Int) mg ma mb (ns : Int) mlo mhi (nw : Int) mwe mru mrd, aL cL mw 160 (wkA (un (un (un rr q (x3)) r (y4)) r ((un (un rr q (x3)) r (y4)) r / 2)))]
                    refine z_wq (ws' := [oM mo th mw (nv : Int) mg ma mb (ns : Int) mlo mhi (nw : Int) mwe mru mrd, aL cL mw 160 (wkA (un (un rr q (x3)) r (y4 / 2)))]) (by rw [hRr4, un_un]) ?_
                    refine z_goto (tgt := 58) S d_M_common_71 (by decide) ?_
                    refine z_lv (lv' := [(0, .ref mo), (1, .int (zI (q : Int))), (2, .int (zI (r : Int))), (3, .int (zI (tw : Int)))]) [0, 1, 2, 3] rfl ?_
                    exact ih58 (y4 / 2) (show (0 < (y4 / 2)) ∧ ((y4 / 2) ≤ y3) ∧ (Nat.gcd x3 (y4 / 2) = Nat.gcd x3 y3) from ⟨by omega, by omega, by rw [Nat.gcd_comm, gcd_h hye h3o, Nat.gcd_comm]; exact h4g⟩) (show (y4 / 2) < y4 from by omega)
          · skip
            have hxe := b2_p c9
            have hyo : y % 2 = 1 := by omega
            refine z_aload_n S d_M_common_42 0 rfl ?_
            refine z_iload_n S d_M_common_43 1 rfl ?_
            refine z_callVv (As := [.int (zI (q : Int))]) (st := []) (wc := [oM mo th mw (nv : Int) mg ma mb (ns : Int) mlo mhi (nw : Int) mwe mru mrd, aL cL mw 160 (wkA (un (un rr q (x2)) r (y)))]) (wr := []) S hGok hK hg hA (s_M_halve l dC dI cI cL qT mo mw nv ma mb ns mlo mhi nw mwe mru mrd th mg (un (un rr q (x2)) r (y)) q (by omega) (by rw [hRq]; exact h2B)) (zcwV S (List.mem_cons_of_mem _ k_M_74) mV_M_halve k_M_74 hd_M_halve rfl rfl ⟨Nat.le_of_ble_eq_true rfl, Nat.le_of_ble_eq_true rfl⟩) rfl (Nat.le_of_ble_eq_true rfl) d_M_common_44 ⟨Nat.le_of_ble_eq_true rfl, Nat.le_of_ble_eq_true rfl⟩ rfl [0, 1] [] 0 rfl rfl rfl (by decide) rfl rfl rfl (by decide) (by decide) (fun w hp => ?_)
            subst hp
            show ZZ _ _ _ _ _ _ _ _ _ _ _ _ _ _ _ _ _ _ 47 [(0, .ref mo), (1, .int (zI (q : Int))), (2, .int (zI (r : Int))), (3, .int (zI (tw : Int)))] [] [oM mo th mw (nv : Int) mg ma mb (ns : Int) mlo mhi (nw : Int) mwe mru mrd, aL cL mw 160 (wkA (un (un (un rr q (x2)) r (y)) q ((un (un rr q (x2)) r (y)) q / 2)))]
            refine z_wq (ws' := [oM mo th mw (nv : Int) mg ma mb (ns : Int) mlo mhi (nw : Int) mwe mru mrd, aL cL mw 160 (wkA (un (un rr q (x2 / 2)) r (y)))]) (by rw [hRq, un_cm (Ne.symm hqr), un_un]) ?_
            refine z_goto (tgt := 34) S d_M_common_47 (by decide) ?_
            refine z_lv (lv' := [(0, .ref mo), (1, .int (zI (q : Int))), (2, .int (zI (r : Int))), (3, .int (zI (tw : Int)))]) [0, 1, 2, 3] rfl ?_
            exact ih34 (x2 / 2) (show (0 < (x2 / 2)) ∧ ((x2 / 2) ≤ rr q) ∧ ((x2 / 2) % 2 = 1 ∨ y % 2 = 1) ∧ (Nat.gcd (x2 / 2) y * 2 ^ tw = Nat.gcd (rr q) (rr r)) from ⟨by omega, by omega, Or.inr hyo, by rw [gcd_h hxe hyo]; exact h2g⟩) (show (x2 / 2) < x2 from by omega)
      · skip
        have hxe := b2_p c1
        have hye := b2_p c8
        have hge : Nat.gcd x y = 2 * Nat.gcd (x / 2) (y / 2) := by
          have h := gcd_e2 (x / 2) (y / 2)
          rw [show 2 * (x / 2) = x by omega, show 2 * (y / 2) = y by omega] at h
          exact h
        refine z_aload_n S d_M_common_18 0 rfl ?_
        refine z_iload_n S d_M_common_19 1 rfl ?_
        refine z_callVv (As := [.int (zI (q : Int))]) (st := []) (wc := [oM mo th mw (nv : Int) mg ma mb (ns : Int) mlo mhi (nw : Int) mwe mru mrd, aL cL mw 160 (wkA (un (un rr q (x)) r (y)))]) (wr := []) S hGok hK hg hA (s_M_halve l dC dI cI cL qT mo mw nv ma mb ns mlo mhi nw mwe mru mrd th mg (un (un rr q (x)) r (y)) q (by omega) (by rw [hRq]; exact hxB)) (zcwV S (List.mem_cons_of_mem _ k_M_74) mV_M_halve k_M_74 hd_M_halve rfl rfl ⟨Nat.le_of_ble_eq_true rfl, Nat.le_of_ble_eq_true rfl⟩) rfl (Nat.le_of_ble_eq_true rfl) d_M_common_20 ⟨Nat.le_of_ble_eq_true rfl, Nat.le_of_ble_eq_true rfl⟩ rfl [0, 1] [] 0 rfl rfl rfl (by decide) rfl rfl rfl (by decide) (by decide) (fun w hp => ?_)
        subst hp
        show ZZ _ _ _ _ _ _ _ _ _ _ _ _ _ _ _ _ _ _ 23 [(0, .ref mo), (1, .int (zI (q : Int))), (2, .int (zI (r : Int))), (3, .int (zI (tw : Int)))] [] [oM mo th mw (nv : Int) mg ma mb (ns : Int) mlo mhi (nw : Int) mwe mru mrd, aL cL mw 160 (wkA (un (un (un rr q (x)) r (y)) q ((un (un rr q (x)) r (y)) q / 2)))]
        refine z_wq (ws' := [oM mo th mw (nv : Int) mg ma mb (ns : Int) mlo mhi (nw : Int) mwe mru mrd, aL cL mw 160 (wkA (un (un rr q (x / 2)) r (y)))]) (by rw [hRq, un_cm (Ne.symm hqr), un_un]) ?_
        have hRq2 : (un (un rr q (x / 2)) r (y)) q = x / 2 := (un_n hqr).trans (un_s _ _ _)
        have hRr2 : (un (un rr q (x / 2)) r (y)) r = y := un_s _ _ _
        refine z_aload_n S d_M_common_23 0 rfl ?_
        refine z_iload_n S d_M_common_24 2 rfl ?_
        refine z_callVv (As := [.int (zI (r : Int))]) (st := []) (wc := [oM mo th mw (nv : Int) mg ma mb (ns : Int) mlo mhi (nw : Int) mwe mru mrd, aL cL mw 160 (wkA (un (un rr q (x / 2)) r (y)))]) (wr := []) S hGok hK hg hA (s_M_halve l dC dI cI cL qT mo mw nv ma mb ns mlo mhi nw mwe mru mrd th mg (un (un rr q (x / 2)) r (y)) r (by omega) (by rw [hRr2]; exact hyB)) (zcwV S (List.mem_cons_of_mem _ k_M_74) mV_M_halve k_M_74 hd_M_halve rfl rfl ⟨Nat.le_of_ble_eq_true rfl, Nat.le_of_ble_eq_true rfl⟩) rfl (Nat.le_of_ble_eq_true rfl) d_M_common_25 ⟨Nat.le_of_ble_eq_true rfl, Nat.le_of_ble_eq_true rfl⟩ rfl [0, 1] [] 0 rfl rfl rfl (by decide) rfl rfl rfl (by decide) (by decide) (fun w hp => ?_)
        subst hp
        show ZZ _ _ _ _ _ _ _ _ _ _ _ _ _ _ _ _ _ _ 28 [(0, .ref mo), (1, .int (zI (q : Int))), (2, .int (zI (r : Int))), (3, .int (zI (tw : Int)))] [] [oM mo th mw (nv : Int) mg ma mb (ns : Int) mlo mhi (nw : Int) mwe mru mrd, aL cL mw 160 (wkA (un (un (un rr q (x / 2)) r (y)) r ((un (un rr q (x / 2)) r (y)) r / 2)))]
        refine z_wq (ws' := [oM mo th mw (nv : Int) mg ma mb (ns : Int) mlo mhi (nw : Int) mwe mru mrd, aL cL mw 160 (wkA (un (un rr q (x / 2)) r (y / 2)))]) (by rw [hRr2, un_un]) ?_
        refine z_iinc (y := ((tw + 1 : Nat) : Int)) (lv' := [(3, .int (zI ((tw + 1 : Nat) : Int))), (0, .ref mo), (1, .int (zI (q : Int))), (2, .int (zI (r : Int)))]) S d_M_common_28 3 rfl (by omega) (by decide) rfl ?_
        refine z_goto (tgt := 2) S d_M_common_31 (by decide) ?_
        refine z_lv (lv' := [(0, .ref mo), (1, .int (zI (q : Int))), (2, .int (zI (r : Int))), (3, .int (zI ((tw + 1 : Nat) : Int)))]) [1, 2, 3, 0] rfl ?_
        exact ih2 ((x / 2), (y / 2), (tw + 1)) (show (0 < (x / 2)) ∧ (0 < (y / 2)) ∧ ((x / 2) ≤ rr q) ∧ ((y / 2) ≤ rr r) ∧ (Nat.gcd (x / 2) (y / 2) * 2 ^ (tw + 1) = Nat.gcd (rr q) (rr r)) from ⟨by omega, by omega, by omega, by omega, by rw [Nat.pow_succ, ← hgc, hge]; simp only [Nat.mul_assoc, Nat.mul_comm, Nat.mul_left_comm]⟩) (show (x / 2) < x from by omega)
