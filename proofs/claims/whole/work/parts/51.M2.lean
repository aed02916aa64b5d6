set_option maxHeartbeats 4000000 in
set_option maxRecDepth 100000 in
theorem s_M_adds (l : Launch) (dC : Nat → ClassId) (dI : Nat → Nat → Nat) (cI cL : ClassId) (qT : Nat) (mo : Nat) (mw : Nat) (nv : Nat) (ma : Nat) (mb : Nat) (ns : Nat) (mlo : Nat) (mhi : Nat) (nw : Nat) (mwe : Nat) (mru : Nat) (mrd : Nat) (th : Int) (mg : Nat) (rr : Nat → Nat) (q : Nat) (r : Nat) (hq8 : q < 8) (hr8 : r < 8) (hs : rr q + rr r < 1000000 ^ 20) : Cv l y_M_adds (Cond.code y_M_adds c_M_adds 8 none :: zB) { frames := 0, cells := 0, slots := 0, locals := 0 } (dC, dI) zcl [(cI, .int), (cL, .long)] (zG cI cL qT) [.ref mo, .int (zI (q : Int)), .int (zI (r : Int))] [oM mo th mw (nv : Int) mg ma mb (ns : Int) mlo mhi (nw : Int) mwe mru mrd, aL cL mw 160 (wkA rr)] (fun wv => wv = [oM mo th mw (nv : Int) mg ma mb (ns : Int) mlo mhi (nw : Int) mwe mru mrd, aL cL mw 160 (wkA (un rr q (rr q + rr r)))]) 0 0 := by
  refine Cm.ofZ (cc := c_M_adds) (maxL := 8) (ret := none) (by decide) rfl (Nat.le_of_ble_eq_true rfl) rfl ?_
  intro p e s m below meth c A S hr hlo hnm hK hg hA hAe
  have hGok := zG_ok cI cL qT
  show ZZ _ _ _ _ _ _ _ _ _ _ _ _ _ _ _ _ _ _ 0 [(0, .ref mo), (1, .int (zI (q : Int))), (2, .int (zI (r : Int)))] [] [oM mo th mw (nv : Int) mg ma mb (ns : Int) mlo mhi (nw : Int) mwe mru mrd, aL cL mw 160 (wkA rr)]
  refine z_lconst (z := 0) S d_M_adds_0 rfl ?_
  refine z_lstore_n (lv' := [(3, .long (zL 0)), (0, .ref mo), (1, .int (zI (q : Int))), (2, .int (zI (r : Int)))]) S d_M_adds_1 rfl (by decide) rfl ?_
  refine z_iconst S d_M_adds_2 ?_
  refine z_istore (lv' := [(5, .int (zI 0)), (3, .long (zL 0)), (0, .ref mo), (1, .int (zI (q : Int))), (2, .int (zI (r : Int)))]) S d_M_adds_3 (by decide) rfl ?_
  refine z_lv (lv' := [(0, .ref mo), (1, .int (zI (q : Int))), (2, .int (zI (r : Int))), (3, .long (zL 0)), (5, .int (zI 0))]) [2, 3, 4, 1, 0] rfl ?_
  refine z_wq (ws' := [oM mo th mw (nv : Int) mg ma mb (ns : Int) mlo mhi (nw : Int) mwe mru mrd, aL cL mw 160 (wkR rr q (mx (dg 1000000 (rr q + rr r)) (dg 1000000 (rr q)) 0))]) (by rw [mx_0, wkR_in]) ?_
  refine z_lq (lv' := [(0, .ref mo), (1, .int (zI (q : Int))), (2, .int (zI (r : Int))), (3, .long (zL ((0 : Nat) : Int))), (5, .int (zI ((0 : Nat) : Int)))]) (Eq.trans ((congrArg (fun zzz : Int => ([(0, .ref mo), (1, .int (zI (q : Int))), (2, .int (zI (r : Int))), (3, .long (zL zzz)), (5, .int (zI 0))] : List (Nat × Value))) (show (0 : Int) = ((0 : Nat) : Int) by omega))) (congrArg (fun zzz : Int => ([(0, .ref mo), (1, .int (zI (q : Int))), (2, .int (zI (r : Int))), (3, .long (zL ((0 : Nat) : Int))), (5, .int (zI zzz))] : List (Nat × Value))) (show (0 : Int) = ((0 : Nat) : Int) by omega))) ?_
  refine z_loop (I := fun (zz : Nat × Nat) => match zz with | (i, cy) => (i ≤ 20) ∧ (cy ≤ 1) ∧ ((rr q + rr r) / 1000000 ^ i = rr q / 1000000 ^ i + rr r / 1000000 ^ i + cy)) (μ := fun (zz : Nat × Nat) => match zz with | (i, cy) => 20 - i) (LV := fun (zz : Nat × Nat) => match zz with | (i, cy) => [(0, .ref mo), (1, .int (zI (q : Int))), (2, .int (zI (r : Int))), (3, .long (zL (cy : Int))), (5, .int (zI (i : Int)))]) (WS := fun (zz : Nat × Nat) => match zz with | (i, cy) => [oM mo th mw (nv : Int) mg ma mb (ns : Int) mlo mhi (nw : Int) mwe mru mrd, aL cL mw 160 (wkR rr q (mx (dg 1000000 (rr q + rr r)) (dg 1000000 (rr q)) i))]) (a := (0, 0)) ?_ ?_
  · exact (show (0 ≤ 20) ∧ (0 ≤ 1) ∧ ((rr q + rr r) / 1000000 ^ 0 = rr q / 1000000 ^ 0 + rr r / 1000000 ^ 0 + 0) from ⟨by omega, by omega, by rw [dv_0, dv_0, dv_0, Nat.add_zero]⟩)
  · intro ⟨i, cy⟩ hI ih5
    obtain ⟨hi, hcy, hz⟩ : (i ≤ 20) ∧ (cy ≤ 1) ∧ ((rr q + rr r) / 1000000 ^ i = rr q / 1000000 ^ i + rr r / 1000000 ^ i + cy) := hI
    show ZZ _ _ _ _ _ _ _ _ _ _ _ _ _ _ _ _ _ _ 5 [(0, .ref mo), (1, .int (zI (q : Int))), (2, .int (zI (r : Int))), (3, .long (zL (cy : Int))), (5, .int (zI (i : Int)))] [] [oM mo th mw (nv : Int) mg ma mb (ns : Int) mlo mhi (nw : Int) mwe mru mrd, aL cL mw 160 (wkR rr q (mx (dg 1000000 (rr q + rr r)) (dg 1000000 (rr q)) i))]
    have l1 := dg_lt (b := 1000000) (by decide) (rr q) (i)
    have l2 := dg_lt (b := 1000000) (by decide) (rr r) (i)
    have hs1 := st_add6 hz hcy
    refine z_iload S d_M_adds_5 4 rfl ?_
    refine z_bipush S d_M_adds_7 rfl ?_
    refine z_icmp_ge (tgt := 82) S d_M_adds_9 (by decide) (by omega) (by omega) (fun c1 => ?_) (fun c1 => ?_)
    · skip
      refine z_wq (ws' := [oM mo th mw (nv : Int) mg ma mb (ns : Int) mlo mhi (nw : Int) mwe mru mrd, aL cL mw 160 (wkA (un rr q (rr q + rr r)))]) (by rw [show i = 20 by omega, wkR_out (v := (rr q + rr r)) (fun j hj => mx_lo hj)]) ?_
      exact z_vret (w := [oM mo th mw (nv : Int) mg ma mb (ns : Int) mlo mhi (nw : Int) mwe mru mrd, aL cL mw 160 (wkA (un rr q (rr q + rr r)))]) S hr hlo hAe d_M_adds_82 [0, 1] (by decide) rfl rfl ⟨Nat.le_refl _, Nat.le_refl _⟩ (rfl)
    · skip
      refine z_aload_n S d_M_adds_12 0 rfl ?_
      refine z_get S hK la_M 0 rfl rfl 1 (by decide) k_M_7 rfl d_M_adds_13 ?_
      refine z_iload_n S d_M_adds_16 1 rfl ?_
      refine z_bipush S d_M_adds_17 rfl ?_
      refine z_imul S d_M_adds_19 ?_
      refine z_iload S d_M_adds_20 4 rfl ?_
      refine z_iadd S d_M_adds_22 ?_
      refine z_lald (x := ((dg 1000000 (rr q) i : Nat) : Int)) S hK 1 1 rfl rfl (q * 20 + i) (by omega) (by omega) (by decide) (wkR_al (by omega) (mx_hi (Nat.le_refl _))) d_M_adds_23 ?_
      refine z_aload_n S d_M_adds_24 0 rfl ?_
      refine z_get S hK la_M 0 rfl rfl 1 (by decide) k_M_7 rfl d_M_adds_25 ?_
      refine z_iload_n S d_M_adds_28 2 rfl ?_
      refine z_bipush S d_M_adds_29 rfl ?_
      refine z_imul S d_M_adds_31 ?_
      refine z_iload S d_M_adds_32 4 rfl ?_
      refine z_iadd S d_M_adds_34 ?_
      refine z_lald (x := ((dg 1000000 (rr r) i : Nat) : Int)) S hK 1 1 rfl rfl (r * 20 + i) (by omega) (by omega) (by decide) (wkR_al (by omega) (mx_hi (Nat.le_refl _))) d_M_adds_35 ?_
      refine z_ladd S d_M_adds_36 ?_
      refine z_lload_n S d_M_adds_37 3 rfl ?_
      refine z_ladd S d_M_adds_38 ?_
      refine z_topl (fun x2 ex2 => ?_)
      refine z_lstore (lv' := [(6, .long (zL x2)), (0, .ref mo), (1, .int (zI (q : Int))), (2, .int (zI (r : Int))), (3, .long (zL (cy : Int))), (5, .int (zI (i : Int)))]) S d_M_adds_39 (by decide) rfl ?_
      refine z_lload S d_M_adds_41 0 rfl ?_
      refine z_ldc2 (v := 1000000) (z := 1000000) S k_M_54 d_M_adds_43 (by decide) ?_
      refine z_lcmp_lt (tgt := 54) S d_M_adds_46 d_M_adds_47 (by decide) (by omega) (by omega) (fun c3 => ?_) (fun c3 => ?_)
      · skip
        obtain ⟨g1, g2⟩ := hs1.1 (by omega)
        refine z_lconst (z := 0) S d_M_adds_54 rfl ?_
        refine z_lstore_n (lv' := [(3, .long (zL 0)), (6, .long (zL x2)), (0, .ref mo), (1, .int (zI (q : Int))), (2, .int (zI (r : Int))), (5, .int (zI (i : Int)))]) S d_M_adds_55 rfl (by decide) rfl ?_
        refine z_aload_n S d_M_adds_56 2 rfl ?_
        refine z_get S hK la_M 0 rfl rfl 1 (by decide) k_M_7 rfl d_M_adds_57 ?_
        refine z_iload_n S d_M_adds_60 3 rfl ?_
        refine z_bipush S d_M_adds_61 rfl ?_
        refine z_imul S d_M_adds_63 ?_
        refine z_iload S d_M_adds_64 5 rfl ?_
        refine z_iadd S d_M_adds_66 ?_
        refine z_lload S d_M_adds_67 1 rfl ?_
        refine z_lload_n S d_M_adds_69 0 rfl ?_
        refine z_ldc2 (v := 1000000) (z := 1000000) S k_M_54 d_M_adds_70 (by decide) ?_
        refine z_lmul S d_M_adds_73 ?_
        refine z_lsub S d_M_adds_74 ?_
        refine z_topl (fun x4 ex4 => ?_)
        refine z_last (f' := wkR rr q (mx (dg 1000000 (rr q + rr r)) (dg 1000000 (rr q)) (i + 1))) (ws' := [oM mo th mw (nv : Int) mg ma mb (ns : Int) mlo mhi (nw : Int) mwe mru mrd, aL cL mw 160 (wkR rr q (mx (dg 1000000 (rr q + rr r)) (dg 1000000 (rr q)) (i + 1)))]) S hK 1 1 rfl rfl (q * 20 + i) (by omega) (by omega) (by decide) (wkR_mx (by omega) (zL_c (by omega))) rfl d_M_adds_75 ?_
        refine z_iinc (y := ((i + 1 : Nat) : Int)) (lv' := [(5, .int (zI ((i + 1 : Nat) : Int))), (3, .long (zL 0)), (6, .long (zL x2)), (0, .ref mo), (1, .int (zI (q : Int))), (2, .int (zI (r : Int)))]) S d_M_adds_76 5 rfl (by omega) (by decide) rfl ?_
        refine z_goto (tgt := 5) S d_M_adds_79 (by decide) ?_
        refine z_lv (lv' := [(0, .ref mo), (1, .int (zI (q : Int))), (2, .int (zI (r : Int))), (3, .long (zL 0)), (5, .int (zI ((i + 1 : Nat) : Int)))]) [3, 4, 5, 1, 0] rfl ?_
        refine z_lq (lv' := [(0, .ref mo), (1, .int (zI (q : Int))), (2, .int (zI (r : Int))), (3, .long (zL ((0 : Nat) : Int))), (5, .int (zI ((i + 1 : Nat) : Int)))]) (congrArg (fun zzz : Int => ([(0, .ref mo), (1, .int (zI (q : Int))), (2, .int (zI (r : Int))), (3, .long (zL zzz)), (5, .int (zI ((i + 1 : Nat) : Int)))] : List (Nat × Value))) (show (0 : Int) = ((0 : Nat) : Int) by omega)) ?_
        exact ih5 ((i + 1), 0) (show ((i + 1) ≤ 20) ∧ (0 ≤ 1) ∧ ((rr q + rr r) / 1000000 ^ (i + 1) = rr q / 1000000 ^ (i + 1) + rr r / 1000000 ^ (i + 1) + 0) from ⟨by omega, by omega, g2⟩) (show 20 - (i + 1) < 20 - i from by omega)
      · skip
        obtain ⟨g1, g2⟩ := hs1.2 (by omega)
        refine z_lconst (z := 1) S d_M_adds_50 rfl ?_
        refine z_goto (tgt := 55) S d_M_adds_51 (by decide) ?_
        refine z_lstore_n (lv' := [(3, .long (zL 1)), (6, .long (zL x2)), (0, .ref mo), (1, .int (zI (q : Int))), (2, .int (zI (r : Int))), (5, .int (zI (i : Int)))]) S d_M_adds_55 rfl (by decide) rfl ?_
        refine z_aload_n S d_M_adds_56 2 rfl ?_
        refine z_get S hK la_M 0 rfl rfl 1 (by decide) k_M_7 rfl d_M_adds_57 ?_
        refine z_iload_n S d_M_adds_60 3 rfl ?_
        refine z_bipush S d_M_adds_61 rfl ?_
        refine z_imul S d_M_adds_63 ?_
        refine z_iload S d_M_adds_64 5 rfl ?_
        refine z_iadd S d_M_adds_66 ?_
        refine z_lload S d_M_adds_67 1 rfl ?_
        refine z_lload_n S d_M_adds_69 0 rfl ?_
        refine z_ldc2 (v := 1000000) (z := 1000000) S k_M_54 d_M_adds_70 (by decide) ?_
        refine z_lmul S d_M_adds_73 ?_
        refine z_lsub S d_M_adds_74 ?_
        refine z_topl (fun x5 ex5 => ?_)
        refine z_last (f' := wkR rr q (mx (dg 1000000 (rr q + rr r)) (dg 1000000 (rr q)) (i + 1))) (ws' := [oM mo th mw (nv : Int) mg ma mb (ns : Int) mlo mhi (nw : Int) mwe mru mrd, aL cL mw 160 (wkR rr q (mx (dg 1000000 (rr q + rr r)) (dg 1000000 (rr q)) (i + 1)))]) S hK 1 1 rfl rfl (q * 20 + i) (by omega) (by omega) (by decide) (wkR_mx (by omega) (zL_c (by omega))) rfl d_M_adds_75 ?_
        refine z_iinc (y := ((i + 1 : Nat) : Int)) (lv' := [(5, .int (zI ((i + 1 : Nat) : Int))), (3, .long (zL 1)), (6, .long (zL x2)), (0, .ref mo), (1, .int (zI (q : Int))), (2, .int (zI (r : Int)))]) S d_M_adds_76 5 rfl (by omega) (by decide) rfl ?_
        refine z_goto (tgt := 5) S d_M_adds_79 (by decide) ?_
        refine z_lv (lv' := [(0, .ref mo), (1, .int (zI (q : Int))), (2, .int (zI (r : Int))), (3, .long (zL 1)), (5, .int (zI ((i + 1 : Nat) : Int)))]) [3, 4, 5, 1, 0] rfl ?_
        refine z_lq (lv' := [(0, .ref mo), (1, .int (zI (q : Int))), (2, .int (zI (r : Int))), (3, .long (zL ((1 : Nat) : Int))), (5, .int (zI ((i + 1 : Nat) : Int)))]) (congrArg (fun zzz : Int => ([(0, .ref mo), (1, .int (zI (q : Int))), (2, .int (zI (r : Int))), (3, .long (zL zzz)), (5, .int (zI ((i + 1 : Nat) : Int)))] : List (Nat × Value))) (show (1 : Int) = ((1 : Nat) : Int) by omega)) ?_
        exact ih5 ((i + 1), 1) (show ((i + 1) ≤ 20) ∧ (1 ≤ 1) ∧ ((rr q + rr r) / 1000000 ^ (i + 1) = rr q / 1000000 ^ (i + 1) + rr r / 1000000 ^ (i + 1) + 1) from ⟨by omega, by omega, g2⟩) (show 20 - (i + 1) < 20 - i from by omega)
set_option maxHeartbeats 4000000 in
set_option maxRecDepth 100000 in
theorem s_M_takesOff (l : Launch) (dC : Nat → ClassId) (dI : Nat → Nat → Nat) (cI cL : ClassId) (qT : Nat) (mo : Nat) (mw : Nat) (nv : Nat) (ma : Nat) (mb : Nat) (ns : Nat) (mlo : Nat) (mhi : Nat) (nw : Nat) (mwe : Nat) (mru : Nat) (mrd : Nat) (th : Int) (mg : Nat) (rr : Nat → Nat) (q : Nat) (r : Nat) (hq8 : q < 8) (hr8 : r < 8) (hq : rr q < 1000000 ^ 20) (hle : rr r ≤ rr q) : Cv l y_M_takesOff (Cond.code y_M_takesOff c_M_takesOff 9 none :: zB) { frames := 1, cells := 0, slots := 0, locals := 22 } (dC, dI) zcl [(cI, .int), (cL, .long)] (zG cI cL qT) [.ref mo, .int (zI (q : Int)), .int (zI (r : Int))] [oM mo th mw (nv : Int) mg ma mb (ns : Int) mlo mhi (nw : Int) mwe mru mrd, aL cL mw 160 (wkA rr)] (fun wv => wv = [oM mo th mw (nv : Int) mg ma mb (ns : Int) mlo mhi (nw : Int) mwe mru mrd, aL cL mw 160 (wkA (un rr q (rr q - rr r)))]) 0 0 := by
  refine Cm.ofZ (cc := c_M_takesOff) (maxL := 9) (ret := none) (by decide) rfl (Nat.le_of_ble_eq_true rfl) rfl ?_
  intro p e s m below meth c A S hr hlo hnm hK hg hA hAe
  have hGok := zG_ok cI cL qT
  show ZZ _ _ _ _ _ _ _ _ _ _ _ _ _ _ _ _ _ _ 0 [(0, .ref mo), (1, .int (zI (q : Int))), (2, .int (zI (r : Int)))] [] [oM mo th mw (nv : Int) mg ma mb (ns : Int) mlo mhi (nw : Int) mwe mru mrd, aL cL mw 160 (wkA rr)]
  have htl := tp_le (rr q)
  refine z_lconst (z := 0) S d_M_takesOff_0 rfl ?_
  refine z_lstore_n (lv' := [(3, .long (zL 0)), (0, .ref mo), (1, .int (zI (q : Int))), (2, .int (zI (r : Int)))]) S d_M_takesOff_1 rfl (by decide) rfl ?_
  refine z_aload_n S d_M_takesOff_2 1 rfl ?_
  refine z_iload_n S d_M_takesOff_3 2 rfl ?_
  refine z_callVa (As := [.int (zI (q : Int))]) (st := []) (wc := [oM mo th mw (nv : Int) mg ma mb (ns : Int) mlo mhi (nw : Int) mwe mru mrd, aL cL mw 160 (wkA rr)]) (wr := []) S hGok hK hg hA (s_M_top l dC dI cI cL qT mo mw nv ma mb ns mlo mhi nw mwe mru mrd th mg rr q (by omega)) (zcwV S (List.mem_cons_of_mem _ k_M_56) mV_M_top k_M_56 hd_M_top rfl rfl ⟨Nat.le_of_ble_eq_true rfl, Nat.le_of_ble_eq_true rfl⟩) rfl (Nat.le_of_ble_eq_true rfl) d_M_takesOff_4 ⟨Nat.le_of_ble_eq_true rfl, Nat.le_of_ble_eq_true rfl⟩ rfl [0, 1] [] 0 rfl rfl rfl (by decide) rfl rfl rfl (by decide) (by decide) (fun x w hp => ?_)
  obtain ⟨rfl, rfl⟩ := hp
  show ZZ _ _ _ _ _ _ _ _ _ _ _ _ _ _ _ _ _ _ 7 [(3, .long (zL 0)), (0, .ref mo), (1, .int (zI (q : Int))), (2, .int (zI (r : Int)))] [.int (zI (((tp (rr q) : Nat) : Int) - 1))] [oM mo th mw (nv : Int) mg ma mb (ns : Int) mlo mhi (nw : Int) mwe mru mrd, aL cL mw 160 (wkA rr)]
  refine z_topi (fun x1 ex1 => ?_)
  refine z_istore (lv' := [(5, .int (zI x1)), (3, .long (zL 0)), (0, .ref mo), (1, .int (zI (q : Int))), (2, .int (zI (r : Int)))]) S d_M_takesOff_7 (by decide) rfl ?_
  refine z_iconst S d_M_takesOff_9 ?_
  refine z_istore (lv' := [(6, .int (zI 0)), (5, .int (zI x1)), (3, .long (zL 0)), (0, .ref mo), (1, .int (zI (q : Int))), (2, .int (zI (r : Int)))]) S d_M_takesOff_10 (by decide) rfl ?_
  refine z_lv (lv' := [(0, .ref mo), (1, .int (zI (q : Int))), (2, .int (zI (r : Int))), (3, .long (zL 0)), (5, .int (zI x1)), (6, .int (zI 0))]) [3, 4, 5, 2, 1, 0] rfl ?_
  refine z_wq (ws' := [oM mo th mw (nv : Int) mg ma mb (ns : Int) mlo mhi (nw : Int) mwe mru mrd, aL cL mw 160 (wkR rr q (mx (dg 1000000 (rr q - rr r)) (dg 1000000 (rr q)) 0))]) (by rw [mx_0, wkR_in]) ?_
  refine z_lq (lv' := [(0, .ref mo), (1, .int (zI (q : Int))), (2, .int (zI (r : Int))), (3, .long (zL ((0 : Nat) : Int))), (5, .int (zI (((tp (rr q) : Nat) : Int) - 1))), (6, .int (zI ((0 : Nat) : Int)))]) (Eq.trans (Eq.trans ((congrArg (fun zzz : Int => ([(0, .ref mo), (1, .int (zI (q : Int))), (2, .int (zI (r : Int))), (3, .long (zL zzz)), (5, .int (zI x1)), (6, .int (zI 0))] : List (Nat × Value))) (show (0 : Int) = ((0 : Nat) : Int) by omega))) (congrArg (fun zzz : Int => ([(0, .ref mo), (1, .int (zI (q : Int))), (2, .int (zI (r : Int))), (3, .long (zL ((0 : Nat) : Int))), (5, .int (zI zzz)), (6, .int (zI 0))] : List (Nat × Value))) (show (x1 : Int) = ((tp (rr q) : Nat) : Int) - 1 by omega))) (congrArg (fun zzz : Int => ([(0, .ref mo), (1, .int (zI (q : Int))), (2, .int (zI (r : Int))), (3, .long (zL ((0 : Nat) : Int))), (5, .int (zI (((tp (rr q) : Nat) : Int) - 1))), (6, .int (zI zzz))] : List (Nat × Value))) (show (0 : Int) = ((0 : Nat) : Int) by omega))) ?_
  refine z_loop (I := fun (zz : Nat × Nat) => match zz with | (i, cy) => (i ≤ tp (rr q)) ∧ (cy ≤ 1) ∧ ((rr q - rr r) / 1000000 ^ i + rr r / 1000000 ^ i + cy = rr q / 1000000 ^ i)) (μ := fun (zz : Nat × Nat) => match zz with | (i, cy) => 20 - i) (LV := fun (zz : Nat × Nat) => match zz with | (i, cy) => [(0, .ref mo), (1, .int (zI (q : Int))), (2, .int (zI (r : Int))), (3, .long (zL (cy : Int))), (5, .int (zI (((tp (rr q) : Nat) : Int) - 1))), (6, .int (zI (i : Int)))]) (WS := fun (zz : Nat × Nat) => match zz with | (i, cy) => [oM mo th mw (nv : Int) mg ma mb (ns : Int) mlo mhi (nw : Int) mwe mru mrd, aL cL mw 160 (wkR rr q (mx (dg 1000000 (rr q - rr r)) (dg 1000000 (rr q)) i))]) (a := (0, 0)) ?_ ?_
  · exact (show (0 ≤ tp (rr q)) ∧ (0 ≤ 1) ∧ ((rr q - rr r) / 1000000 ^ 0 + rr r / 1000000 ^ 0 + 0 = rr q / 1000000 ^ 0) from ⟨by omega, by omega, by rw [dv_0, dv_0, dv_0]; omega⟩)
  · intro ⟨i, cy⟩ hI ih12
    obtain ⟨hi, hcy, hz⟩ : (i ≤ tp (rr q)) ∧ (cy ≤ 1) ∧ ((rr q - rr r) / 1000000 ^ i + rr r / 1000000 ^ i + cy = rr q / 1000000 ^ i) := hI
    show ZZ _ _ _ _ _ _ _ _ _ _ _ _ _ _ _ _ _ _ 12 [(0, .ref mo), (1, .int (zI (q : Int))), (2, .int (zI (r : Int))), (3, .long (zL (cy : Int))), (5, .int (zI (((tp (rr q) : Nat) : Int) - 1))), (6, .int (zI (i : Int)))] [] [oM mo th mw (nv : Int) mg ma mb (ns : Int) mlo mhi (nw : Int) mwe mru mrd, aL cL mw 160 (wkR rr q (mx (dg 1000000 (rr q - rr r)) (dg 1000000 (rr q)) i))]
    have l1 := dg_lt (b := 1000000) (by decide) (rr q) (i)
    have l2 := dg_lt (b := 1000000) (by decide) (rr r) (i)
    have hs1 := st_sb6 hz hcy
    refine z_iload S d_M_takesOff_12 5 rfl ?_
    refine z_iload S d_M_takesOff_14 4 rfl ?_
    refine z_icmp_gt (tgt := 87) S d_M_takesOff_16 (by decide) (by omega) (by omega) (fun c2 => ?_) (fun c2 => ?_)
    · skip
      have hi9 : i = tp (rr q) := by omega
      have hz2 : (rr q - rr r) / 1000000 ^ i = rr q / 1000000 ^ i := by
        have h0 := dv_z (tp_lt hq)
        rw [← hi9] at h0
        have hz3 := hz
        rw [h0] at hz3 ⊢
        generalize (rr q - rr r) / 1000000 ^ i = z1 at hz3 ⊢
        generalize rr r / 1000000 ^ i = z2 at hz3
        omega
      refine z_wq (ws' := [oM mo th mw (nv : Int) mg ma mb (ns : Int) mlo mhi (nw : Int) mwe mru mrd, aL cL mw 160 (wkA (un rr q (rr q - rr r)))]) (by rw [mx_e2 hz2, wkR_un]) ?_
      exact z_vret (w := [oM mo th mw (nv : Int) mg ma mb (ns : Int) mlo mhi (nw : Int) mwe mru mrd, aL cL mw 160 (wkA (un rr q (rr q - rr r)))]) S hr hlo hAe d_M_takesOff_87 [0, 1] (by decide) rfl rfl ⟨Nat.le_refl _, Nat.le_refl _⟩ (rfl)
    · skip
      refine z_aload_n S d_M_takesOff_19 0 rfl ?_
      refine z_get S hK la_M 0 rfl rfl 1 (by decide) k_M_7 rfl d_M_takesOff_20 ?_
      refine z_iload_n S d_M_takesOff_23 1 rfl ?_
      refine z_bipush S d_M_takesOff_24 rfl ?_
      refine z_imul S d_M_takesOff_26 ?_
      refine z_iload S d_M_takesOff_27 5 rfl ?_
      refine z_iadd S d_M_takesOff_29 ?_
      refine z_lald (x := ((dg 1000000 (rr q) i : Nat) : Int)) S hK 1 1 rfl rfl (q * 20 + i) (by omega) (by omega) (by decide) (wkR_al (by omega) (mx_hi (Nat.le_refl _))) d_M_takesOff_30 ?_
      refine z_aload_n S d_M_takesOff_31 0 rfl ?_
      refine z_get S hK la_M 0 rfl rfl 1 (by decide) k_M_7 rfl d_M_takesOff_32 ?_
      refine z_iload_n S d_M_takesOff_35 2 rfl ?_
      refine z_bipush S d_M_takesOff_36 rfl ?_
      refine z_imul S d_M_takesOff_38 ?_
      refine z_iload S d_M_takesOff_39 5 rfl ?_
      refine z_iadd S d_M_takesOff_41 ?_
      refine z_lald (x := ((dg 1000000 (rr r) i : Nat) : Int)) S hK 1 1 rfl rfl (r * 20 + i) (by omega) (by omega) (by decide) (wkR_al (by omega) (mx_hi (Nat.le_refl _))) d_M_takesOff_42 ?_
      refine z_lsub S d_M_takesOff_43 ?_
      refine z_lload_n S d_M_takesOff_44 3 rfl ?_
      refine z_lsub S d_M_takesOff_45 ?_
      refine z_topl (fun x3 ex3 => ?_)
      refine z_lstore (lv' := [(7, .long (zL x3)), (0, .ref mo), (1, .int (zI (q : Int))), (2, .int (zI (r : Int))), (3, .long (zL (cy : Int))), (5, .int (zI (((tp (rr q) : Nat) : Int) - 1))), (6, .int (zI (i : Int)))]) S d_M_takesOff_46 (by decide) rfl ?_
      refine z_lload S d_M_takesOff_48 0 rfl ?_
      refine z_lconst (z := 0) S d_M_takesOff_50 rfl ?_
      refine z_lcmp_ge (tgt := 59) S d_M_takesOff_51 d_M_takesOff_52 (by decide) (by omega) (by omega) (fun c4 => ?_) (fun c4 => ?_)
      · skip
        obtain ⟨g1, g2⟩ := hs1.1 (by omega)
        refine z_lconst (z := 0) S d_M_takesOff_59 rfl ?_
        refine z_lstore_n (lv' := [(3, .long (zL 0)), (7, .long (zL x3)), (0, .ref mo), (1, .int (zI (q : Int))), (2, .int (zI (r : Int))), (5, .int (zI (((tp (rr q) : Nat) : Int) - 1))), (6, .int (zI (i : Int)))]) S d_M_takesOff_60 rfl (by decide) rfl ?_
        refine z_aload_n S d_M_takesOff_61 2 rfl ?_
        refine z_get S hK la_M 0 rfl rfl 1 (by decide) k_M_7 rfl d_M_takesOff_62 ?_
        refine z_iload_n S d_M_takesOff_65 3 rfl ?_
        refine z_bipush S d_M_takesOff_66 rfl ?_
        refine z_imul S d_M_takesOff_68 ?_
        refine z_iload S d_M_takesOff_69 6 rfl ?_
        refine z_iadd S d_M_takesOff_71 ?_
        refine z_lload S d_M_takesOff_72 1 rfl ?_
        refine z_lload_n S d_M_takesOff_74 0 rfl ?_
        refine z_ldc2 (v := 1000000) (z := 1000000) S k_M_54 d_M_takesOff_75 (by decide) ?_
        refine z_lmul S d_M_takesOff_78 ?_
        refine z_ladd S d_M_takesOff_79 ?_
        refine z_topl (fun x5 ex5 => ?_)
        refine z_last (f' := wkR rr q (mx (dg 1000000 (rr q - rr r)) (dg 1000000 (rr q)) (i + 1))) (ws' := [oM mo th mw (nv : Int) mg ma mb (ns : Int) mlo mhi (nw : Int) mwe mru mrd, aL cL mw 160 (wkR rr q (mx (dg 1000000 (rr q - rr r)) (dg 1000000 (rr q)) (i + 1)))]) S hK 1 1 rfl rfl (q * 20 + i) (by omega) (by omega) (by decide) (wkR_mx (by omega) (zL_c (by omega))) rfl d_M_takesOff_80 ?_
        refine z_iinc (y := ((i + 1 : Nat) : Int)) (lv' := [(6, .int (zI ((i + 1 : Nat) : Int))), (3, .long (zL 0)), (7, .long (zL x3)), (0, .ref mo), (1, .int (zI (q : Int))), (2, .int (zI (r : Int))), (5, .int (zI (((tp (rr q) : Nat) : Int) - 1)))]) S d_M_takesOff_81 6 rfl (by omega) (by decide) rfl ?_
        refine z_goto (tgt := 12) S d_M_takesOff_84 (by decide) ?_
        refine z_lv (lv' := [(0, .ref mo), (1, .int (zI (q : Int))), (2, .int (zI (r : Int))), (3, .long (zL 0)), (5, .int (zI (((tp (rr q) : Nat) : Int) - 1))), (6, .int (zI ((i + 1 : Nat) : Int)))]) [3, 4, 5, 1, 6, 0] rfl ?_
        refine z_lq (lv' := [(0, .ref mo), (1, .int (zI (q : Int))), (2, .int (zI (r : Int))), (3, .long (zL ((0 : Nat) : Int))), (5, .int (zI (((tp (rr q) : Nat) : Int) - 1))), (6, .int (zI ((i + 1 : Nat) : Int)))]) (congrArg (fun zzz : Int => ([(0, .ref mo), (1, .int (zI (q : Int))), (2, .int (zI (r : Int))), (3, .long (zL zzz)), (5, .int (zI (((tp (rr q) : Nat) : Int) - 1))), (6, .int (zI ((i + 1 : Nat) : Int)))] : List (Nat × Value))) (show (0 : Int) = ((0 : Nat) : Int) by omega)) ?_
        exact ih12 ((i + 1), 0) (show ((i + 1) ≤ tp (rr q)) ∧ (0 ≤ 1) ∧ ((rr q - rr r) / 1000000 ^ (i + 1) + rr r / 1000000 ^ (i + 1) + 0 = rr q / 1000000 ^ (i + 1)) from ⟨by omega, by omega, g2⟩) (show 20 - (i + 1) < 20 - i from by omega)
      · skip
        obtain ⟨g1, g2⟩ := hs1.2 (by omega)
        refine z_lconst (z := 1) S d_M_takesOff_55 rfl ?_
        refine z_goto (tgt := 60) S d_M_takesOff_56 (by decide) ?_
        refine z_lstore_n (lv' := [(3, .long (zL 1)), (7, .long (zL x3)), (0, .ref mo), (1, .int (zI (q : Int))), (2, .int (zI (r : Int))), (5, .int (zI (((tp (rr q) : Nat) : Int) - 1))), (6, .int (zI (i : Int)))]) S d_M_takesOff_60 rfl (by decide) rfl ?_
        refine z_aload_n S d_M_takesOff_61 2 rfl ?_
        refine z_get S hK la_M 0 rfl rfl 1 (by decide) k_M_7 rfl d_M_takesOff_62 ?_
        refine z_iload_n S d_M_takesOff_65 3 rfl ?_
        refine z_bipush S d_M_takesOff_66 rfl ?_
        refine z_imul S d_M_takesOff_68 ?_
        refine z_iload S d_M_takesOff_69 6 rfl ?_
        refine z_iadd S d_M_takesOff_71 ?_
        refine z_lload S d_M_takesOff_72 1 rfl ?_
        refine z_lload_n S d_M_takesOff_74 0 rfl ?_
        refine z_ldc2 (v := 1000000) (z := 1000000) S k_M_54 d_M_takesOff_75 (by decide) ?_
        refine z_lmul S d_M_takesOff_78 ?_
        refine z_ladd S d_M_takesOff_79 ?_
        refine z_topl (fun x6 ex6 => ?_)
        refine z_last (f' := wkR rr q (mx (dg 1000000 (rr q - rr r)) (dg 1000000 (rr q)) (i + 1))) (ws' := [oM mo th mw (nv : Int) mg ma mb (ns : Int) mlo mhi (nw : Int) mwe mru mrd, aL cL mw 160 (wkR rr q (mx (dg 1000000 (rr q - rr r)) (dg 1000000 (rr q)) (i + 1)))]) S hK 1 1 rfl rfl (q * 20 + i) (by omega) (by omega) (by decide) (wkR_mx (by omega) (zL_c (by omega))) rfl d_M_takesOff_80 ?_
        refine z_iinc (y := ((i + 1 : Nat) : Int)) (lv' := [(6, .int (zI ((i + 1 : Nat) : Int))), (3, .long (zL 1)), (7, .long (zL x3)), (0, .ref mo), (1, .int (zI (q : Int))), (2, .int (zI (r : Int))), (5, .int (zI (((tp (rr q) : Nat) : Int) - 1)))]) S d_M_takesOff_81 6 rfl (by omega) (by decide) rfl ?_
        refine z_goto (tgt := 12) S d_M_takesOff_84 (by decide) ?_
        refine z_lv (lv' := [(0, .ref mo), (1, .int (zI (q : Int))), (2, .int (zI (r : Int))), (3, .long (zL 1)), (5, .int (zI (((tp (rr q) : Nat) : Int) - 1))), (6, .int (zI ((i + 1 : Nat) : Int)))]) [3, 4, 5, 1, 6, 0] rfl ?_
        refine z_lq (lv' := [(0, .ref mo), (1, .int (zI (q : Int))), (2, .int (zI (r : Int))), (3, .long (zL ((1 : Nat) : Int))), (5, .int (zI (((tp (rr q) : Nat) : Int) - 1))), (6, .int (zI ((i + 1 : Nat) : Int)))]) (congrArg (fun zzz : Int => ([(0, .ref mo), (1, .int (zI (q : Int))), (2, .int (zI (r : Int))), (3, .long (zL zzz)), (5, .int (zI (((tp (rr q) : Nat) : Int) - 1))), (6, .int (zI ((i + 1 : Nat) : Int)))] : List (Nat × Value))) (show (1 : Int) = ((1 : Nat) : Int) by omega)) ?_
        exact ih12 ((i + 1), 1) (show ((i + 1) ≤ tp (rr q)) ∧ (1 ≤ 1) ∧ ((rr q - rr r) / 1000000 ^ (i + 1) + rr r / 1000000 ^ (i + 1) + 1 = rr q / 1000000 ^ (i + 1)) from ⟨by omega, by omega, g2⟩) (show 20 - (i + 1) < 20 - i from by omega)
set_option maxHeartbeats 4000000 in
set_option maxRecDepth 100000 in
theorem s_M_halve (l : Launch) (dC : Nat → ClassId) (dI : Nat → Nat → Nat) (cI cL : ClassId) (qT : Nat) (mo : Nat) (mw : Nat) (nv : Nat) (ma : Nat) (mb : Nat) (ns : Nat) (mlo : Nat) (mhi : Nat) (nw : Nat) (mwe : Nat) (mru : Nat) (mrd : Nat) (th : Int) (mg : Nat) (rr : Nat → Nat) (r : Nat) (hr8 : r < 8) (hrr : rr r < 1000000 ^ 20) : Cv l y_M_halve (Cond.code y_M_halve c_M_halve 7 none :: zB) { frames := 1, cells := 0, slots := 0, locals := 22 } (dC, dI) zcl [(cI, .int), (cL, .long)] (zG cI cL qT) [.ref mo, .int (zI (r : Int))] [oM mo th mw (nv : Int) mg ma mb (ns : Int) mlo mhi (nw : Int) mwe mru mrd, aL cL mw 160 (wkA rr)] (fun wv => wv = [oM mo th mw (nv : Int) mg ma mb (ns : Int) mlo mhi (nw : Int) mwe mru mrd, aL cL mw 160 (wkA (un rr r (rr r / 2)))]) 0 0 := by
  refine Cm.ofZ (cc := c_M_halve) (maxL := 7) (ret := none) (by decide) rfl (Nat.le_of_ble_eq_true rfl) rfl ?_
  intro p e s m below meth c A S hr hlo hnm hK hg hA hAe
  have hGok := zG_ok cI cL qT
  show ZZ _ _ _ _ _ _ _ _ _ _ _ _ _ _ _ _ _ _ 0 [(0, .ref mo), (1, .int (zI (r : Int)))] [] [oM mo th mw (nv : Int) mg ma mb (ns : Int) mlo mhi (nw : Int) mwe mru mrd, aL cL mw 160 (wkA rr)]
  have htl := tp_le (rr r)
  refine z_lconst (z := 0) S d_M_halve_0 rfl ?_
  refine z_lstore_n (lv' := [(2, .long (zL 0)), (0, .ref mo), (1, .int (zI (r : Int)))]) S d_M_halve_1 rfl (by decide) rfl ?_
  refine z_aload_n S d_M_halve_2 1 rfl ?_
  refine z_iload_n S d_M_halve_3 2 rfl ?_
  refine z_callVa (As := [.int (zI (r : Int))]) (st := []) (wc := [oM mo th mw (nv : Int) mg ma mb (ns : Int) mlo mhi (nw : Int) mwe mru mrd, aL cL mw 160 (wkA rr)]) (wr := []) S hGok hK hg hA (s_M_top l dC dI cI cL qT mo mw nv ma mb ns mlo mhi nw mwe mru mrd th mg rr r (by omega)) (zcwV S (List.mem_cons_of_mem _ k_M_56) mV_M_top k_M_56 hd_M_top rfl rfl ⟨Nat.le_of_ble_eq_true rfl, Nat.le_of_ble_eq_true rfl⟩) rfl (Nat.le_of_ble_eq_true rfl) d_M_halve_4 ⟨Nat.le_of_ble_eq_true rfl, Nat.le_of_ble_eq_true rfl⟩ rfl [0, 1] [] 0 rfl rfl rfl (by decide) rfl rfl rfl (by decide) (by decide) (fun x w hp => ?_)
  obtain ⟨rfl, rfl⟩ := hp
  show ZZ _ _ _ _ _ _ _ _ _ _ _ _ _ _ _ _ _ _ 7 [(2, .long (zL 0)), (0, .ref mo), (1, .int (zI (r : Int)))] [.int (zI (((tp (rr r) : Nat) : Int) - 1))] [oM mo th mw (nv : Int) mg ma mb (ns : Int) mlo mhi (nw : Int) mwe mru mrd, aL cL mw 160 (wkA rr)]
  refine z_topi (fun x1 ex1 => ?_)
  refine z_istore (lv' := [(4, .int (zI x1)), (2, .long (zL 0)), (0, .ref mo), (1, .int (zI (r : Int)))]) S d_M_halve_7 (by decide) rfl ?_
  refine z_lv (lv' := [(0, .ref mo), (1, .int (zI (r : Int))), (2, .long (zL 0)), (4, .int (zI x1))]) [2, 3, 1, 0] rfl ?_
  refine z_wq (ws' := [oM mo th mw (nv : Int) mg ma mb (ns : Int) mlo mhi (nw : Int) mwe mru mrd, aL cL mw 160 (wkR rr r (mx (dg 1000000 (rr r)) (dg 1000000 (rr r / 2)) (tp (rr r))))]) (by rw [mx_e2 (show rr r / 1000000 ^ tp (rr r) = rr r / 2 / 1000000 ^ tp (rr r) by rw [dv_z (tp_lt hrr), dv_z (Nat.lt_of_le_of_lt (Nat.div_le_self _ _) (tp_lt hrr))]), wkR_in]) ?_
  refine z_lq (lv' := [(0, .ref mo), (1, .int (zI (r : Int))), (2, .long (zL ((0 : Nat) : Int))), (4, .int (zI (((tp (rr r) : Nat) : Int) - 1)))]) (Eq.trans ((congrArg (fun zzz : Int => ([(0, .ref mo), (1, .int (zI (r : Int))), (2, .long (zL zzz)), (4, .int (zI x1))] : List (Nat × Value))) (show (0 : Int) = ((0 : Nat) : Int) by omega))) (congrArg (fun zzz : Int => ([(0, .ref mo), (1, .int (zI (r : Int))), (2, .long (zL ((0 : Nat) : Int))), (4, .int (zI zzz))] : List (Nat × Value))) (show (x1 : Int) = ((tp (rr r) : Nat) : Int) - 1 by omega))) ?_
  refine z_loop (I := fun (zz : Nat × Nat) => match zz with | (n, cy) => (n ≤ 20) ∧ (cy = rr r / 1000000 ^ n % 2)) (μ := fun (zz : Nat × Nat) => match zz with | (n, cy) => n) (LV := fun (zz : Nat × Nat) => match zz with | (n, cy) => [(0, .ref mo), (1, .int (zI (r : Int))), (2, .long (zL (cy : Int))), (4, .int (zI ((n : Int) - 1)))]) (WS := fun (zz : Nat × Nat) => match zz with | (n, cy) => [oM mo th mw (nv : Int) mg ma mb (ns : Int) mlo mhi (nw : Int) mwe mru mrd, aL cL mw 160 (wkR rr r (mx (dg 1000000 (rr r)) (dg 1000000 (rr r / 2)) n))]) (a := ((tp (rr r)), 0)) ?_ ?_
  · exact (show ((tp (rr r)) ≤ 20) ∧ (0 = rr r / 1000000 ^ (tp (rr r)) % 2) from ⟨tp_le _, by rw [dv_z (tp_lt hrr)]⟩)
  · intro ⟨n, cy⟩ hI ih9
    obtain ⟨hn, hcy⟩ : (n ≤ 20) ∧ (cy = rr r / 1000000 ^ n % 2) := hI
    show ZZ _ _ _ _ _ _ _ _ _ _ _ _ _ _ _ _ _ _ 9 [(0, .ref mo), (1, .int (zI (r : Int))), (2, .long (zL (cy : Int))), (4, .int (zI ((n : Int) - 1)))] [] [oM mo th mw (nv : Int) mg ma mb (ns : Int) mlo mhi (nw : Int) mwe mru mrd, aL cL mw 160 (wkR rr r (mx (dg 1000000 (rr r)) (dg 1000000 (rr r / 2)) n))]
    refine z_iload S d_M_halve_9 3 rfl ?_
    refine z_if_lt (tgt := 65) S d_M_halve_11 (by decide) (by omega) (fun c2 => ?_) (fun c2 => ?_)
    · skip
      refine z_wq (ws' := [oM mo th mw (nv : Int) mg ma mb (ns : Int) mlo mhi (nw : Int) mwe mru mrd, aL cL mw 160 (wkA (un rr r (rr r / 2)))]) (by rw [show n = 0 by omega, mx_0, wkR_un]) ?_
      exact z_vret (w := [oM mo th mw (nv : Int) mg ma mb (ns : Int) mlo mhi (nw : Int) mwe mru mrd, aL cL mw 160 (wkA (un rr r (rr r / 2)))]) S hr hlo hAe d_M_halve_65 [0, 1] (by decide) rfl rfl ⟨Nat.le_refl _, Nat.le_refl _⟩ (rfl)
    · skip
      obtain ⟨k, hk⟩ : ∃ k, n = k + 1 := ⟨n - 1, by omega⟩
      subst hk
      show ZZ _ _ _ _ _ _ _ _ _ _ _ _ _ _ _ _ _ _ 14 [(0, .ref mo), (1, .int (zI (r : Int))), (2, .long (zL (cy : Int))), (4, .int (zI (((k + 1 : Nat) : Int) - 1)))] [] [oM mo th mw (nv : Int) mg ma mb (ns : Int) mlo mhi (nw : Int) mwe mru mrd, aL cL mw 160 (wkR rr r (mx (dg 1000000 (rr r)) (dg 1000000 (rr r / 2)) (k + 1)))]
      have l1 := dg_lt (b := 1000000) (by decide) (rr r) (k)
      obtain ⟨g1, g2⟩ := st_hf6 (v := rr r) (i := k)
      rw [← hcy] at g1 g2
      refine z_aload_n S d_M_halve_14 0 rfl ?_
      refine z_get S hK la_M 0 rfl rfl 1 (by decide) k_M_7 rfl d_M_halve_15 ?_
      refine z_iload_n S d_M_halve_18 1 rfl ?_
      refine z_bipush S d_M_halve_19 rfl ?_
      refine z_imul S d_M_halve_21 ?_
      refine z_iload S d_M_halve_22 3 rfl ?_
      refine z_iadd S d_M_halve_24 ?_
      refine z_lald (x := ((dg 1000000 (rr r) k : Nat) : Int)) S hK 1 1 rfl rfl (r * 20 + k) (by omega) (by omega) (by decide) ((wkR_at (by omega)).trans (by rw [mx_lo (by omega)])) d_M_halve_25 ?_
      refine z_lload_n S d_M_halve_26 2 rfl ?_
      refine z_ldc2 (v := 1000000) (z := 1000000) S k_M_54 d_M_halve_27 (by decide) ?_
      refine z_lmul S d_M_halve_30 ?_
      refine z_ladd S d_M_halve_31 ?_
      refine z_topl (fun x3 ex3 => ?_)
      refine z_lstore (lv' := [(5, .long (zL x3)), (0, .ref mo), (1, .int (zI (r : Int))), (2, .long (zL (cy : Int))), (4, .int (zI (((k + 1 : Nat) : Int) - 1)))]) S d_M_halve_32 (by decide) rfl ?_
      refine z_aload_n S d_M_halve_34 1 rfl ?_
      refine z_get S hK la_M 0 rfl rfl 1 (by decide) k_M_7 rfl d_M_halve_35 ?_
      refine z_iload_n S d_M_halve_38 2 rfl ?_
      refine z_bipush S d_M_halve_39 rfl ?_
      refine z_imul S d_M_halve_41 ?_
      refine z_iload S d_M_halve_42 4 rfl ?_
      refine z_iadd S d_M_halve_44 ?_
      refine z_lload S d_M_halve_45 0 rfl ?_
      refine z_ldc2 (v := 2) (z := 2) S k_M_60 d_M_halve_47 (by decide) ?_
      refine z_ldiv S d_M_halve_50 (by omega) (by omega) ?_
      refine z_topl (fun x4 ex4 => ?_)
      refine z_last (f' := wkR rr r (mx (dg 1000000 (rr r)) (dg 1000000 (rr r / 2)) k)) (ws' := [oM mo th mw (nv : Int) mg ma mb (ns : Int) mlo mhi (nw : Int) mwe mru mrd, aL cL mw 160 (wkR rr r (mx (dg 1000000 (rr r)) (dg 1000000 (rr r / 2)) k))]) S hK 1 1 rfl rfl (r * 20 + k) (by omega) (by omega) (by decide) (wkR_md (by omega) (zL_c (by omega))) rfl d_M_halve_51 ?_
      refine z_lload S d_M_halve_52 0 rfl ?_
      refine z_ldc2 (v := 2) (z := 2) S k_M_60 d_M_halve_54 (by decide) ?_
      refine z_lrem S d_M_halve_57 (by omega) (by omega) ?_
      refine z_topl (fun x5 ex5 => ?_)
      refine z_lstore_n (lv' := [(2, .long (zL x5)), (5, .long (zL x3)), (0, .ref mo), (1, .int (zI (r : Int))), (4, .int (zI (((k + 1 : Nat) : Int) - 1)))]) S d_M_halve_58 rfl (by decide) rfl ?_
      refine z_iinc (y := ((k + 1 : Nat) : Int) - 1 - 1) (lv' := [(4, .int (zI (((k + 1 : Nat) : Int) - 1 - 1))), (2, .long (zL x5)), (5, .long (zL x3)), (0, .ref mo), (1, .int (zI (r : Int)))]) S d_M_halve_59 4 rfl (by omega) (by decide) rfl ?_
      refine z_goto (tgt := 9) S d_M_halve_62 (by decide) ?_
      refine z_lv (lv' := [(0, .ref mo), (1, .int (zI (r : Int))), (2, .long (zL x5)), (4, .int (zI (((k + 1 : Nat) : Int) - 1 - 1)))]) [3, 4, 1, 0] rfl ?_
      refine z_lq (lv' := [(0, .ref mo), (1, .int (zI (r : Int))), (2, .long (zL (((dg 1000000 (rr r) k + cy * 1000000) % 2 : Nat) : Int))), (4, .int (zI ((k : Int) - 1)))]) (Eq.trans ((congrArg (fun zzz : Int => ([(0, .ref mo), (1, .int (zI (r : Int))), (2, .long (zL zzz)), (4, .int (zI (((k + 1 : Nat) : Int) - 1 - 1)))] : List (Nat × Value))) (show (x5 : Int) = (((dg 1000000 (rr r) k + cy * 1000000) % 2 : Nat) : Int) by omega))) (congrArg (fun zzz : Int => ([(0, .ref mo), (1, .int (zI (r : Int))), (2, .long (zL (((dg 1000000 (rr r) k + cy * 1000000) % 2 : Nat) : Int))), (4, .int (zI zzz))] : List (Nat × Value))) (show (((k + 1 : Nat) : Int) - 1 - 1 : Int) = (k : Int) - 1 by omega))) ?_
      exact ih9 (k, ((dg 1000000 (rr r) k + cy * 1000000) % 2)) (show (k ≤ 20) ∧ (((dg 1000000 (rr r) k + cy * 1000000) % 2) = rr r / 1000000 ^ k % 2) from ⟨by omega, g2.symm⟩) (show k < (k + 1) from by omega)
set_option maxHeartbeats 4000000 in
set_option maxRecDepth 100000 in
theorem s_M_isEven (l : Launch) (dC : Nat → ClassId) (dI : Nat → Nat → Nat) (cI cL : ClassId) (qT : Nat) (mo : Nat) (mw : Nat) (nv : Nat) (ma : Nat) (mb : Nat) (ns : Nat) (mlo : Nat) (mhi : Nat) (nw : Nat) (mwe : Nat) (mru : Nat) (mrd : Nat) (th : Int) (mg : Nat) (rr : Nat → Nat) (r : Nat) (hr8 : r < 8) : Ct l y_M_isEven (Cond.code y_M_isEven c_M_isEven 2 (some .boolean) :: zB) { frames := 0, cells := 0, slots := 0, locals := 0 } (dC, dI) zcl [(cI, .int), (cL, .long)] (zG cI cL qT) [.ref mo, .int (zI (r : Int))] [oM mo th mw (nv : Int) mg ma mb (ns : Int) mlo mhi (nw : Int) mwe mru mrd, aL cL mw 160 (wkA rr)] (fun rv wv => rv = .int (zI (b2 (rr r % 2 = 0))) ∧ wv = [oM mo th mw (nv : Int) mg ma mb (ns : Int) mlo mhi (nw : Int) mwe mru mrd, aL cL mw 160 (wkA rr)]) 0 0 := by
  refine Cm.ofZ (cc := c_M_isEven) (maxL := 2) (ret := (some .boolean)) (by decide) rfl (Nat.le_of_ble_eq_true rfl) rfl ?_
  intro p e s m below meth c A S hr hlo hnm hK hg hA hAe
  have hGok := zG_ok cI cL qT
  show ZZ _ _ _ _ _ _ _ _ _ _ _ _ _ _ _ _ _ _ 0 [(0, .ref mo), (1, .int (zI (r : Int)))] [] [oM mo th mw (nv : Int) mg ma mb (ns : Int) mlo mhi (nw : Int) mwe mru mrd, aL cL mw 160 (wkA rr)]
  have l1 := dg_lt (b := 1000000) (by decide) (rr r) (0)
  have e0 := dg_z 1000000 (rr r)
  refine z_aload_n S d_M_isEven_0 0 rfl ?_
  refine z_get S hK la_M 0 rfl rfl 1 (by decide) k_M_7 rfl d_M_isEven_1 ?_
  refine z_iload_n S d_M_isEven_4 1 rfl ?_
  refine z_bipush S d_M_isEven_5 rfl ?_
  refine z_imul S d_M_isEven_7 ?_
  refine z_lald (x := ((dg 1000000 (rr r) 0 : Nat) : Int)) S hK 1 1 rfl rfl (r * 20 + 0) (by omega) (by omega) (by decide) (wkA_at rr (by omega)) d_M_isEven_8 ?_
  refine z_ldc2 (v := 2) (z := 2) S k_M_60 d_M_isEven_9 (by decide) ?_
  refine z_lrem S d_M_isEven_12 (by omega) (by omega) ?_
  refine z_lconst (z := 0) S d_M_isEven_13 rfl ?_
  refine z_lcmp_ne (tgt := 22) S d_M_isEven_14 d_M_isEven_15 (by decide) (by omega) (by omega) (fun c1 => ?_) (fun c1 => ?_)
  · skip
    refine z_iconst S d_M_isEven_22 ?_
    exact z_zret (w := [oM mo th mw (nv : Int) mg ma mb (ns : Int) mlo mhi (nw : Int) mwe mru mrd, aL cL mw 160 (wkA rr)]) S hr hlo hAe (by first | exact Or.inl rfl | exact Or.inr rfl) d_M_isEven_23 [0, 1] (by decide) rfl rfl ⟨Nat.le_refl _, Nat.le_refl _⟩ (⟨by rw [b2_f (by omega)], rfl⟩)
  · skip
    refine z_iconst S d_M_isEven_18 ?_
    refine z_goto (tgt := 23) S d_M_isEven_19 (by decide) ?_
    exact z_zret (w := [oM mo th mw (nv : Int) mg ma mb (ns : Int) mlo mhi (nw : Int) mwe mru mrd, aL cL mw 160 (wkA rr)]) S hr hlo hAe (by first | exact Or.inl rfl | exact Or.inr rfl) d_M_isEven_23 [0, 1] (by decide) rfl rfl ⟨Nat.le_refl _, Nat.le_refl _⟩ (⟨by rw [b2_t (by omega)], rfl⟩)
set_option maxHeartbeats 4000000 in
set_option maxRecDepth 100000 in
theorem s_M_isNought (l : Launch) (dC : Nat → ClassId) (dI : Nat → Nat → Nat) (cI cL : ClassId) (qT : Nat) (mo : Nat) (mw : Nat) (nv : Nat) (ma : Nat) (mb : Nat) (ns : Nat) (mlo : Nat) (mhi : Nat) (nw : Nat) (mwe : Nat) (mru : Nat) (mrd : Nat) (th : Int) (mg : Nat) (rr : Nat → Nat) (r : Nat) (hr8 : r < 8) (hrr : rr r < 1000000 ^ 20) : Ct l y_M_isNought (Cond.code y_M_isNought c_M_isNought 2 (some .boolean) :: zB) { frames := 1, cells := 0, slots := 0, locals := 22 } (dC, dI) zcl [(cI, .int), (cL, .long)] (zG cI cL qT) [.ref mo, .int (zI (r : Int))] [oM mo th mw (nv : Int) mg ma mb (ns : Int) mlo mhi (nw : Int) mwe mru mrd, aL cL mw 160 (wkA rr)] (fun rv wv => rv = .int (zI (b2 (rr r = 0))) ∧ wv = [oM mo th mw (nv : Int) mg ma mb (ns : Int) mlo mhi (nw : Int) mwe mru mrd, aL cL mw 160 (wkA rr)]) 0 0 := by
  refine Cm.ofZ (cc := c_M_isNought) (maxL := 2) (ret := (some .boolean)) (by decide) rfl (Nat.le_of_ble_eq_true rfl) rfl ?_
  intro p e s m below meth c A S hr hlo hnm hK hg hA hAe
  have hGok := zG_ok cI cL qT
  show ZZ _ _ _ _ _ _ _ _ _ _ _ _ _ _ _ _ _ _ 0 [(0, .ref mo), (1, .int (zI (r : Int)))] [] [oM mo th mw (nv : Int) mg ma mb (ns : Int) mlo mhi (nw : Int) mwe mru mrd, aL cL mw 160 (wkA rr)]
  have htl := tp_le (rr r)
  have ht0 := tp_0 hrr
  refine z_aload_n S d_M_isNought_0 0 rfl ?_
  refine z_iload_n S d_M_isNought_1 1 rfl ?_
  refine z_callVa (As := [.int (zI (r : Int))]) (st := []) (wc := [oM mo th mw (nv : Int) mg ma mb (ns : Int) mlo mhi (nw : Int) mwe mru mrd, aL cL mw 160 (wkA rr)]) (wr := []) S hGok hK hg hA (s_M_top l dC dI cI cL qT mo mw nv ma mb ns mlo mhi nw mwe mru mrd th mg rr r (by omega)) (zcwV S (List.mem_cons_of_mem _ k_M_56) mV_M_top k_M_56 hd_M_top rfl rfl ⟨Nat.le_of_ble_eq_true rfl, Nat.le_of_ble_eq_true rfl⟩) rfl (Nat.le_of_ble_eq_true rfl) d_M_isNought_2 ⟨Nat.le_of_ble_eq_true rfl, Nat.le_of_ble_eq_true rfl⟩ rfl [0, 1] [] 0 rfl rfl rfl (by decide) rfl rfl rfl (by decide) (by decide) (fun x w hp => ?_)
  obtain ⟨rfl, rfl⟩ := hp
  show ZZ _ _ _ _ _ _ _ _ _ _ _ _ _ _ _ _ _ _ 5 [(0, .ref mo), (1, .int (zI (r : Int)))] [.int (zI (((tp (rr r) : Nat) : Int) - 1))] [oM mo th mw (nv : Int) mg ma mb (ns : Int) mlo mhi (nw : Int) mwe mru mrd, aL cL mw 160 (wkA rr)]
  refine z_if_ge (tgt := 12) S d_M_isNought_5 (by decide) (by omega) (fun c1 => ?_) (fun c1 => ?_)
  · skip
    refine z_iconst S d_M_isNought_12 ?_
    exact z_zret (w := [oM mo th mw (nv : Int) mg ma mb (ns : Int) mlo mhi (nw : Int) mwe mru mrd, aL cL mw 160 (wkA rr)]) S hr hlo hAe (by first | exact Or.inl rfl | exact Or.inr rfl) d_M_isNought_13 [0, 1] (by decide) rfl rfl ⟨Nat.le_refl _, Nat.le_refl _⟩ (⟨by rw [b2_f (by omega)], rfl⟩)
  · skip
    refine z_iconst S d_M_isNought_8 ?_
    refine z_goto (tgt := 13) S d_M_isNought_9 (by decide) ?_
    exact z_zret (w := [oM mo th mw (nv : Int) mg ma mb (ns : Int) mlo mhi (nw : Int) mwe mru mrd, aL cL mw 160 (wkA rr)]) S hr hlo hAe (by first | exact Or.inl rfl | exact Or.inr rfl) d_M_isNought_13 [0, 1] (by decide) rfl rfl ⟨Nat.le_refl _, Nat.le_refl _⟩ (⟨by rw [b2_t (by omega)], rfl⟩)
set_option maxHeartbeats 4000000 in
set_option maxRecDepth 100000 in
theorem s_M_set (l : Launch) (dC : Nat → ClassId) (dI : Nat → Nat → Nat) (cI cL : ClassId) (qT : Nat) (mo : Nat) (mw : Nat) (nv : Nat) (ma : Nat) (mb : Nat) (ns : Nat) (mlo : Nat) (mhi : Nat) (nw : Nat) (mwe : Nat) (mru : Nat) (mrd : Nat) (th : Int) (mg : Nat) (rr : Nat → Nat) (r : Nat) (N : Nat) (hr8 : r < 8) (hN : N < 9223372036854775808) : Cv l y_M_set (Cond.code y_M_set c_M_set 8 none :: zB) { frames := 1, cells := 0, slots := 0, locals := 22 } (dC, dI) zcl [(cI, .int), (cL, .long)] (zG cI cL qT) [.ref mo, .int (zI (r : Int)), .long (zL (N : Int))] [oM mo th mw (nv : Int) mg ma mb (ns : Int) mlo mhi (nw : Int) mwe mru mrd, aL cL mw 160 (wkA rr)] (fun wv => wv = [oM mo th mw (nv : Int) mg ma mb (ns : Int) mlo mhi (nw : Int) mwe mru mrd, aL cL mw 160 (wkA (un rr r N))]) 0 0 := by
  refine Cm.ofZ (cc := c_M_set) (maxL := 8) (ret := none) (by decide) rfl (Nat.le_of_ble_eq_true rfl) rfl ?_
  intro p e s m below meth c A S hr hlo hnm hK hg hA hAe
  have hGok := zG_ok cI cL qT
  show ZZ _ _ _ _ _ _ _ _ _ _ _ _ _ _ _ _ _ _ 0 [(0, .ref mo), (1, .int (zI (r : Int))), (2, .long (zL (N : Int)))] [] [oM mo th mw (nv : Int) mg ma mb (ns : Int) mlo mhi (nw : Int) mwe mru mrd, aL cL mw 160 (wkA rr)]
  refine z_aload_n S d_M_set_0 0 rfl ?_
  refine z_iload_n S d_M_set_1 1 rfl ?_
  refine z_callVv (As := [.int (zI (r : Int))]) (st := []) (wc := [oM mo th mw (nv : Int) mg ma mb (ns : Int) mlo mhi (nw : Int) mwe mru mrd, aL cL mw 160 (wkA rr)]) (wr := []) S hGok hK hg hA (s_M_clear l dC dI cI cL qT mo mw nv ma mb ns mlo mhi nw mwe mru mrd th mg rr r (by omega)) (zcwV S (List.mem_cons_of_mem _ k_M_48) mV_M_clear k_M_48 hd_M_clear rfl rfl ⟨Nat.le_of_ble_eq_true rfl, Nat.le_of_ble_eq_true rfl⟩) rfl (Nat.le_of_ble_eq_true rfl) d_M_set_2 ⟨Nat.le_of_ble_eq_true rfl, Nat.le_of_ble_eq_true rfl⟩ rfl [0, 1] [] 0 rfl rfl rfl (by decide) rfl rfl rfl (by decide) (by decide) (fun w hp => ?_)
  subst hp
  show ZZ _ _ _ _ _ _ _ _ _ _ _ _ _ _ _ _ _ _ 5 [(0, .ref mo), (1, .int (zI (r : Int))), (2, .long (zL (N : Int)))] [] [oM mo th mw (nv : Int) mg ma mb (ns : Int) mlo mhi (nw : Int) mwe mru mrd, aL cL mw 160 (wkA (un rr r 0))]
  refine z_lload_n S d_M_set_5 2 rfl ?_
  refine z_lstore (lv' := [(4, .long (zL (N : Int))), (0, .ref mo), (1, .int (zI (r : Int))), (2, .long (zL (N : Int)))]) S d_M_set_6 (by decide) rfl ?_
  refine z_lload S d_M_set_8 0 rfl ?_
  refine z_lconst (z := 0) S d_M_set_10 rfl ?_
  refine z_lcmp_ge (tgt := 19) S d_M_set_11 d_M_set_12 (by decide) (by omega) (by omega) (fun c1 => ?_) (fun c1 => ?_)
  · skip
    refine z_iconst S d_M_set_19 ?_
    refine z_istore (lv' := [(6, .int (zI 0)), (4, .long (zL (N : Int))), (0, .ref mo), (1, .int (zI (r : Int))), (2, .long (zL (N : Int)))]) S d_M_set_20 (by decide) rfl ?_
    refine z_iload S d_M_set_22 0 rfl ?_
    refine z_if_eq (tgt := 32) S d_M_set_24 (by decide) (by omega) (fun c2 => ?_) (fun c2 => ?_)
    · skip
      refine z_iconst S d_M_set_32 ?_
      refine z_istore (lv' := [(7, .int (zI 0)), (6, .int (zI 0)), (4, .long (zL (N : Int))), (0, .ref mo), (1, .int (zI (r : Int))), (2, .long (zL (N : Int)))]) S d_M_set_33 (by decide) rfl ?_
      refine z_lv (lv' := [(0, .ref mo), (1, .int (zI (r : Int))), (4, .long (zL (N : Int))), (6, .int (zI 0)), (7, .int (zI 0))]) [3, 4, 2, 1, 0] rfl ?_
      refine z_wq (ws' := [oM mo th mw (nv : Int) mg ma mb (ns : Int) mlo mhi (nw : Int) mwe mru mrd, aL cL mw 160 (wkR rr r (mx (dg 1000000 N) (dg 1000000 0) 0))]) (by rw [mx_0, ← wkR_un]) ?_
      refine z_lq (lv' := [(0, .ref mo), (1, .int (zI (r : Int))), (4, .long (zL (N : Int))), (6, .int (zI 0)), (7, .int (zI ((0 : Nat) : Int)))]) (congrArg (fun zzz : Int => ([(0, .ref mo), (1, .int (zI (r : Int))), (4, .long (zL (N : Int))), (6, .int (zI 0)), (7, .int (zI zzz))] : List (Nat × Value))) (show (0 : Int) = ((0 : Nat) : Int) by omega)) ?_
      refine z_loop (I := fun (zz : Nat × Nat) => match zz with | (i, a) => (i ≤ 20) ∧ (a = N / 1000000 ^ i)) (μ := fun (zz : Nat × Nat) => match zz with | (i, a) => a) (LV := fun (zz : Nat × Nat) => match zz with | (i, a) => [(0, .ref mo), (1, .int (zI (r : Int))), (4, .long (zL (a : Int))), (6, .int (zI 0)), (7, .int (zI (i : Int)))]) (WS := fun (zz : Nat × Nat) => match zz with | (i, a) => [oM mo th mw (nv : Int) mg ma mb (ns : Int) mlo mhi (nw : Int) mwe mru mrd, aL cL mw 160 (wkR rr r (mx (dg 1000000 N) (dg 1000000 0) i))]) (a := (0, N)) ?_ ?_
      · exact (show (0 ≤ 20) ∧ (N = N / 1000000 ^ 0) from ⟨by omega, by rw [dv_0]⟩)
      · intro ⟨i, a⟩ hI ih35
        obtain ⟨hi, ha⟩ : (i ≤ 20) ∧ (a = N / 1000000 ^ i) := hI
        show ZZ _ _ _ _ _ _ _ _ _ _ _ _ _ _ _ _ _ _ 35 [(0, .ref mo), (1, .int (zI (r : Int))), (4, .long (zL (a : Int))), (6, .int (zI 0)), (7, .int (zI (i : Int)))] [] [oM mo th mw (nv : Int) mg ma mb (ns : Int) mlo mhi (nw : Int) mwe mru mrd, aL cL mw 160 (wkR rr r (mx (dg 1000000 N) (dg 1000000 0) i))]
        have hal : a ≤ N := by rw [ha]; exact Nat.div_le_self _ _
        have hd : dg 1000000 N i = a % 1000000 := by rw [ha]; rfl
        refine z_lload S d_M_set_35 2 rfl ?_
        refine z_lconst (z := 0) S d_M_set_37 rfl ?_
        refine z_lcmp_le (tgt := 74) S d_M_set_38 d_M_set_39 (by decide) (by omega) (by omega) (fun c3 => ?_) (fun c3 => ?_)
        · skip
          have hz2 : N / 1000000 ^ i = 0 / 1000000 ^ i := by rw [← ha, Nat.zero_div]; omega
          refine z_wq (ws' := [oM mo th mw (nv : Int) mg ma mb (ns : Int) mlo mhi (nw : Int) mwe mru mrd, aL cL mw 160 (wkA (un rr r N))]) (by rw [mx_e2 hz2, wkR_un]) ?_
          refine z_iload S d_M_set_74 3 rfl ?_
          refine z_if_eq (tgt := 92) S d_M_set_76 (by decide) (by omega) (fun c4 => ?_) (fun c4 => ?_)
          · skip
            exact z_vret (w := [oM mo th mw (nv : Int) mg ma mb (ns : Int) mlo mhi (nw : Int) mwe mru mrd, aL cL mw 160 (wkA (un rr r N))]) S hr hlo hAe d_M_set_92 [0, 1] (by decide) rfl rfl ⟨Nat.le_refl _, Nat.le_refl _⟩ (rfl)
          · skip
            exact absurd c4 (by omega)
        · skip
          have hi4 : i < 4 := by
            rcases Nat.lt_or_ge i 4 with z | z
            · exact z
            · have h4 : N / 1000000 ^ i = 0 := dv_hi (n := 4) (by decide) (Nat.lt_of_lt_of_le (show N < 9223372036854775808 by omega) (by decide)) z
              omega
          refine z_aload_n S d_M_set_42 0 rfl ?_
          refine z_get S hK la_M 0 rfl rfl 1 (by decide) k_M_7 rfl d_M_set_43 ?_
          refine z_iload_n S d_M_set_46 1 rfl ?_
          refine z_bipush S d_M_set_47 rfl ?_
          refine z_imul S d_M_set_49 ?_
          refine z_iload S d_M_set_50 4 rfl ?_
          refine z_iadd S d_M_set_52 ?_
          refine z_lload S d_M_set_53 2 rfl ?_
          refine z_ldc2 (v := 1000000) (z := 1000000) S k_M_54 d_M_set_55 (by decide) ?_
          refine z_lrem S d_M_set_58 (by omega) (by omega) ?_
          refine z_topl (fun x5 ex5 => ?_)
          refine z_last (f' := wkR rr r (mx (dg 1000000 N) (dg 1000000 0) (i + 1))) (ws' := [oM mo th mw (nv : Int) mg ma mb (ns : Int) mlo mhi (nw : Int) mwe mru mrd, aL cL mw 160 (wkR rr r (mx (dg 1000000 N) (dg 1000000 0) (i + 1)))]) S hK 1 1 rfl rfl (r * 20 + i) (by omega) (by omega) (by decide) (wkR_mx (by omega) (zL_c (by omega))) rfl d_M_set_59 ?_
          refine z_lload S d_M_set_60 2 rfl ?_
          refine z_ldc2 (v := 1000000) (z := 1000000) S k_M_54 d_M_set_62 (by decide) ?_
          refine z_ldiv S d_M_set_65 (by omega) (by omega) ?_
          refine z_topl (fun x6 ex6 => ?_)
          refine z_lstore (lv' := [(4, .long (zL x6)), (0, .ref mo), (1, .int (zI (r : Int))), (6, .int (zI 0)), (7, .int (zI (i : Int)))]) S d_M_set_66 (by decide) rfl ?_
          refine z_iinc (y := ((i + 1 : Nat) : Int)) (lv' := [(7, .int (zI ((i + 1 : Nat) : Int))), (4, .long (zL x6)), (0, .ref mo), (1, .int (zI (r : Int))), (6, .int (zI 0))]) S d_M_set_68 4 rfl (by omega) (by decide) rfl ?_
          refine z_goto (tgt := 35) S d_M_set_71 (by decide) ?_
          refine z_lv (lv' := [(0, .ref mo), (1, .int (zI (r : Int))), (4, .long (zL x6)), (6, .int (zI 0)), (7, .int (zI ((i + 1 : Nat) : Int)))]) [2, 3, 1, 4, 0] rfl ?_
          refine z_lq (lv' := [(0, .ref mo), (1, .int (zI (r : Int))), (4, .long (zL ((a / 1000000 : Nat) : Int))), (6, .int (zI 0)), (7, .int (zI ((i + 1 : Nat) : Int)))]) (congrArg (fun zzz : Int => ([(0, .ref mo), (1, .int (zI (r : Int))), (4, .long (zL zzz)), (6, .int (zI 0)), (7, .int (zI ((i + 1 : Nat) : Int)))] : List (Nat × Value))) (show (x6 : Int) = ((a / 1000000 : Nat) : Int) by omega)) ?_
          exact ih35 ((i + 1), (a / 1000000)) (show ((i + 1) ≤ 20) ∧ ((a / 1000000) = N / 1000000 ^ (i + 1)) from ⟨by omega, by rw [dv_s, ← ha]⟩) (show (a / 1000000) < a from by omega)
    · skip
      exact absurd c2 (by omega)
  · skip
    omega
set_option maxHeartbeats 4000000 in
set_option maxRecDepth 100000 in
theorem s_M_setMin (l : Launch) (dC : Nat → ClassId) (dI : Nat → Nat → Nat) (cI cL : ClassId) (qT : Nat) (mo : Nat) (mw : Nat) (nv : Nat) (ma : Nat) (mb : Nat) (ns : Nat) (mlo : Nat) (mhi : Nat) (nw : Nat) (mwe : Nat) (mru : Nat) (mrd : Nat) (th : Int) (mg : Nat) (rr : Nat → Nat) (r : Nat) (hr8 : r < 8) : Cv l y_M_set (Cond.code y_M_set c_M_set 8 none :: zB) { frames := 1, cells := 0, slots := 0, locals := 22 } (dC, dI) zcl [(cI, .int), (cL, .long)] (zG cI cL qT) [.ref mo, .int (zI (r : Int)), .long (zL (-9223372036854775808))] [oM mo th mw (nv : Int) mg ma mb (ns : Int) mlo mhi (nw : Int) mwe mru mrd, aL cL mw 160 (wkA rr)] (fun wv => wv = [oM mo th mw (nv : Int) mg ma mb (ns : Int) mlo mhi (nw : Int) mwe mru mrd, aL cL mw 160 (wkA (un rr r 9223372036854775808))]) 0 0 := by
  refine Cm.ofZ (cc := c_M_set) (maxL := 8) (ret := none) (by decide) rfl (Nat.le_of_ble_eq_true rfl) rfl ?_
  intro p e s m below meth c A S hr hlo hnm hK hg hA hAe
  have hGok := zG_ok cI cL qT
  show ZZ _ _ _ _ _ _ _ _ _ _ _ _ _ _ _ _ _ _ 0 [(0, .ref mo), (1, .int (zI (r : Int))), (2, .long (zL (-9223372036854775808)))] [] [oM mo th mw (nv : Int) mg ma mb (ns : Int) mlo mhi (nw : Int) mwe mru mrd, aL cL mw 160 (wkA rr)]
  refine z_aload_n S d_M_set_0 0 rfl ?_
  refine z_iload_n S d_M_set_1 1 rfl ?_
  refine z_callVv (As := [.int (zI (r : Int))]) (st := []) (wc := [oM mo th mw (nv : Int) mg ma mb (ns : Int) mlo mhi (nw : Int) mwe mru mrd, aL cL mw 160 (wkA rr)]) (wr := []) S hGok hK hg hA (s_M_clear l dC dI cI cL qT mo mw nv ma mb ns mlo mhi nw mwe mru mrd th mg rr r (by omega)) (zcwV S (List.mem_cons_of_mem _ k_M_48) mV_M_clear k_M_48 hd_M_clear rfl rfl ⟨Nat.le_of_ble_eq_true rfl, Nat.le_of_ble_eq_true rfl⟩) rfl (Nat.le_of_ble_eq_true rfl) d_M_set_2 ⟨Nat.le_of_ble_eq_true rfl, Nat.le_of_ble_eq_true rfl⟩ rfl [0, 1] [] 0 rfl rfl rfl (by decide) rfl rfl rfl (by decide) (by decide) (fun w hp => ?_)
  subst hp
  show ZZ _ _ _ _ _ _ _ _ _ _ _ _ _ _ _ _ _ _ 5 [(0, .ref mo), (1, .int (zI (r : Int))), (2, .long (zL (-9223372036854775808)))] [] [oM mo th mw (nv : Int) mg ma mb (ns : Int) mlo mhi (nw : Int) mwe mru mrd, aL cL mw 160 (wkA (un rr r 0))]
  refine z_lload_n S d_M_set_5 2 rfl ?_
  refine z_lstore (lv' := [(4, .long (zL (-9223372036854775808))), (0, .ref mo), (1, .int (zI (r : Int))), (2, .long (zL (-9223372036854775808)))]) S d_M_set_6 (by decide) rfl ?_
  refine z_lload S d_M_set_8 0 rfl ?_
  refine z_lconst (z := 0) S d_M_set_10 rfl ?_
  refine z_lcmp_ge (tgt := 19) S d_M_set_11 d_M_set_12 (by decide) (by omega) (by omega) (fun c1 => ?_) (fun c1 => ?_)
  · skip
    omega
  · skip
    refine z_iconst S d_M_set_15 ?_
    refine z_goto (tgt := 20) S d_M_set_16 (by decide) ?_
    refine z_istore (lv' := [(6, .int (zI 1)), (4, .long (zL (-9223372036854775808))), (0, .ref mo), (1, .int (zI (r : Int))), (2, .long (zL (-9223372036854775808)))]) S d_M_set_20 (by decide) rfl ?_
    refine z_iload S d_M_set_22 0 rfl ?_
    refine z_if_eq (tgt := 32) S d_M_set_24 (by decide) (by omega) (fun c2 => ?_) (fun c2 => ?_)
    · skip
      exact absurd c2 (by omega)
    · skip
      refine z_ldc2 (v := 9223372036854775807) (z := 9223372036854775807) S k_M_52 d_M_set_27 (by decide) ?_
      refine z_lstore (lv' := [(4, .long (zL 9223372036854775807)), (6, .int (zI 1)), (0, .ref mo), (1, .int (zI (r : Int))), (2, .long (zL (-9223372036854775808)))]) S d_M_set_30 (by decide) rfl ?_
      refine z_iconst S d_M_set_32 ?_
      refine z_istore (lv' := [(7, .int (zI 0)), (4, .long (zL 9223372036854775807)), (6, .int (zI 1)), (0, .ref mo), (1, .int (zI (r : Int))), (2, .long (zL (-9223372036854775808)))]) S d_M_set_33 (by decide) rfl ?_
      refine z_lv (lv' := [(0, .ref mo), (1, .int (zI (r : Int))), (4, .long (zL 9223372036854775807)), (6, .int (zI 1)), (7, .int (zI 0))]) [3, 4, 1, 2, 0] rfl ?_
      refine z_wq (ws' := [oM mo th mw (nv : Int) mg ma mb (ns : Int) mlo mhi (nw : Int) mwe mru mrd, aL cL mw 160 (wkR rr r (mx (dg 1000000 9223372036854775807) (dg 1000000 0) 0))]) (by rw [mx_0, ← wkR_un]) ?_
      refine z_lq (lv' := [(0, .ref mo), (1, .int (zI (r : Int))), (4, .long (zL ((9223372036854775807 : Nat) : Int))), (6, .int (zI 1)), (7, .int (zI ((0 : Nat) : Int)))]) (Eq.trans ((congrArg (fun zzz : Int => ([(0, .ref mo), (1, .int (zI (r : Int))), (4, .long (zL zzz)), (6, .int (zI 1)), (7, .int (zI 0))] : List (Nat × Value))) (show (9223372036854775807 : Int) = ((9223372036854775807 : Nat) : Int) by omega))) (congrArg (fun zzz : Int => ([(0, .ref mo), (1, .int (zI (r : Int))), (4, .long (zL ((9223372036854775807 : Nat) : Int))), (6, .int (zI 1)), (7, .int (zI zzz))] : List (Nat × Value))) (show (0 : Int) = ((0 : Nat) : Int) by omega))) ?_
      refine z_loop (I := fun (zz : Nat × Nat) => match zz with | (i, a) => (i ≤ 20) ∧ (a = 9223372036854775807 / 1000000 ^ i)) (μ := fun (zz : Nat × Nat) => match zz with | (i, a) => a) (LV := fun (zz : Nat × Nat) => match zz with | (i, a) => [(0, .ref mo), (1, .int (zI (r : Int))), (4, .long (zL (a : Int))), (6, .int (zI 1)), (7, .int (zI (i : Int)))]) (WS := fun (zz : Nat × Nat) => match zz with | (i, a) => [oM mo th mw (nv : Int) mg ma mb (ns : Int) mlo mhi (nw : Int) mwe mru mrd, aL cL mw 160 (wkR rr r (mx (dg 1000000 9223372036854775807) (dg 1000000 0) i))]) (a := (0, 9223372036854775807)) ?_ ?_
      · exact (show (0 ≤ 20) ∧ (9223372036854775807 = 9223372036854775807 / 1000000 ^ 0) from ⟨by omega, by rw [dv_0]⟩)
      · intro ⟨i, a⟩ hI ih35
        obtain ⟨hi, ha⟩ : (i ≤ 20) ∧ (a = 9223372036854775807 / 1000000 ^ i) := hI
        show ZZ _ _ _ _ _ _ _ _ _ _ _ _ _ _ _ _ _ _ 35 [(0, .ref mo), (1, .int (zI (r : Int))), (4, .long (zL (a : Int))), (6, .int (zI 1)), (7, .int (zI (i : Int)))] [] [oM mo th mw (nv : Int) mg ma mb (ns : Int) mlo mhi (nw : Int) mwe mru mrd, aL cL mw 160 (wkR rr r (mx (dg 1000000 9223372036854775807) (dg 1000000 0) i))]
        have hal : a ≤ 9223372036854775807 := by rw [ha]; exact Nat.div_le_self _ _
        have hd : dg 1000000 9223372036854775807 i = a % 1000000 := by rw [ha]; rfl
        refine z_lload S d_M_set_35 2 rfl ?_
        refine z_lconst (z := 0) S d_M_set_37 rfl ?_
        refine z_lcmp_le (tgt := 74) S d_M_set_38 d_M_set_39 (by decide) (by omega) (by omega) (fun c3 => ?_) (fun c3 => ?_)
        · skip
          have hz2 : 9223372036854775807 / 1000000 ^ i = 0 / 1000000 ^ i := by rw [← ha, Nat.zero_div]; omega
          refine z_wq (ws' := [oM mo th mw (nv : Int) mg ma mb (ns : Int) mlo mhi (nw : Int) mwe mru mrd, aL cL mw 160 (wkA (un rr r 9223372036854775807))]) (by rw [mx_e2 hz2, wkR_un]) ?_
          refine z_iload S d_M_set_74 3 rfl ?_
          refine z_if_eq (tgt := 92) S d_M_set_76 (by decide) (by omega) (fun c4 => ?_) (fun c4 => ?_)
          · skip
            exact absurd c4 (by omega)
          · skip
            refine z_aload_n S d_M_set_79 0 rfl ?_
            refine z_get S hK la_M 0 rfl rfl 1 (by decide) k_M_7 rfl d_M_set_80 ?_
            refine z_iload_n S d_M_set_83 1 rfl ?_
            refine z_bipush S d_M_set_84 rfl ?_
            refine z_imul S d_M_set_86 ?_
            refine z_dup2 S d_M_set_87 rfl rfl ?_
            refine z_lald (x := 775807) S hK 1 1 rfl rfl (r * 20 + 0) (by omega) (by omega) (by decide) ((wkA_at _ (by decide)).trans (by rw [un_s]; rfl)) d_M_set_88 ?_
            refine z_lconst (z := 1) S d_M_set_89 rfl ?_
            refine z_ladd S d_M_set_90 ?_
            refine z_topl (fun x5 ex5 => ?_)
            refine z_last (f' := wkA (un rr r 9223372036854775808)) (ws' := [oM mo th mw (nv : Int) mg ma mb (ns : Int) mlo mhi (nw : Int) mwe mru mrd, aL cL mw 160 (wkA (un rr r 9223372036854775808))]) S hK 1 1 rfl rfl (r * 20 + 0) (by omega) (by omega) (by decide) ((wkA_up (v := 9223372036854775808) (d := 775808) (by decide) (zL_c (by omega)) (fun j hj => by rw [un_s]; exact dg_ad (b := 1000000) (v := 9223372036854775807) (k := 0) (q := 1) (by decide) (by decide))).trans (by rw [un_un])) rfl d_M_set_91 ?_
            exact z_vret (w := [oM mo th mw (nv : Int) mg ma mb (ns : Int) mlo mhi (nw : Int) mwe mru mrd, aL cL mw 160 (wkA (un rr r 9223372036854775808))]) S hr hlo hAe d_M_set_92 [0, 1] (by decide) rfl rfl ⟨Nat.le_refl _, Nat.le_refl _⟩ (rfl)
        · skip
          have hi4 : i < 4 := by
            rcases Nat.lt_or_ge i 4 with z | z
            · exact z
            · have h4 : 9223372036854775807 / 1000000 ^ i = 0 := dv_hi (n := 4) (by decide) (Nat.lt_of_lt_of_le (show 9223372036854775807 < 9223372036854775808 by omega) (by decide)) z
              omega
          refine z_aload_n S d_M_set_42 0 rfl ?_
          refine z_get S hK la_M 0 rfl rfl 1 (by decide) k_M_7 rfl d_M_set_43 ?_
          refine z_iload_n S d_M_set_46 1 rfl ?_
          refine z_bipush S d_M_set_47 rfl ?_
          refine z_imul S d_M_set_49 ?_
          refine z_iload S d_M_set_50 4 rfl ?_
          refine z_iadd S d_M_set_52 ?_
          refine z_lload S d_M_set_53 2 rfl ?_
          refine z_ldc2 (v := 1000000) (z := 1000000) S k_M_54 d_M_set_55 (by decide) ?_
          refine z_lrem S d_M_set_58 (by omega) (by omega) ?_
          refine z_topl (fun x6 ex6 => ?_)
          refine z_last (f' := wkR rr r (mx (dg 1000000 9223372036854775807) (dg 1000000 0) (i + 1))) (ws' := [oM mo th mw (nv : Int) mg ma mb (ns : Int) mlo mhi (nw : Int) mwe mru mrd, aL cL mw 160 (wkR rr r (mx (dg 1000000 9223372036854775807) (dg 1000000 0) (i + 1)))]) S hK 1 1 rfl rfl (r * 20 + i) (by omega) (by omega) (by decide) (wkR_mx (by omega) (zL_c (by omega))) rfl d_M_set_59 ?_
          refine z_lload S d_M_set_60 2 rfl ?_
          refine z_ldc2 (v := 1000000) (z := 1000000) S k_M_54 d_M_set_62 (by decide) ?_
          refine z_ldiv S d_M_set_65 (by omega) (by omega) ?_
          refine z_topl (fun x7 ex7 => ?_)
          refine z_lstore (lv' := [(4, .long (zL x7)), (0, .ref mo), (1, .int (zI (r : Int))), (6, .int (zI 1)), (7, .int (zI (i : Int)))]) S d_M_set_66 (by decide) rfl ?_
          refine z_iinc (y := ((i + 1 : Nat) : Int)) (lv' := [(7, .int (zI ((i + 1 : Nat) : Int))), (4, .long (zL x7)), (0, .ref mo), (1, .int (zI (r : Int))), (6, .int (zI 1))]) S d_M_set_68 4 rfl (by omega) (by decide) rfl ?_
          refine z_goto (tgt := 35) S d_M_set_71 (by decide) ?_
          refine z_lv (lv' := [(0, .ref mo), (1, .int (zI (r : Int))), (4, .long (zL x7)), (6, .int (zI 1)), (7, .int (zI ((i + 1 : Nat) : Int)))]) [2, 3, 1, 4, 0] rfl ?_
          refine z_lq (lv' := [(0, .ref mo), (1, .int (zI (r : Int))), (4, .long (zL ((a / 1000000 : Nat) : Int))), (6, .int (zI 1)), (7, .int (zI ((i + 1 : Nat) : Int)))]) (congrArg (fun zzz : Int => ([(0, .ref mo), (1, .int (zI (r : Int))), (4, .long (zL zzz)), (6, .int (zI 1)), (7, .int (zI ((i + 1 : Nat) : Int)))] : List (Nat × Value))) (show (x7 : Int) = ((a / 1000000 : Nat) : Int) by omega)) ?_
          exact ih35 ((i + 1), (a / 1000000)) (show ((i + 1) ≤ 20) ∧ ((a / 1000000) = 9223372036854775807 / 1000000 ^ (i + 1)) from ⟨by omega, by rw [dv_s, ← ha]⟩) (show (a / 1000000) < a from by omega)
