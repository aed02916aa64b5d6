set_option maxHeartbeats 4000000 in
set_option maxRecDepth 100000 in
theorem s_M_multiply (l : Launch) (dC : Nat → ClassId) (dI : Nat → Nat → Nat) (cI cL : ClassId) (qT : Nat) (mo : Nat) (mw : Nat) (nv : Nat) (ma : Nat) (mb : Nat) (ns : Nat) (mlo : Nat) (mhi : Nat) (nw : Nat) (mwe : Nat) (mru : Nat) (mrd : Nat) (th : Int) (mg : Nat) (rr : Nat → Nat) (q : Nat) (r : Nat) (t : Nat) (hq8 : q < 8) (hr8 : r < 8) (ht8 : t < 8) (hqt : q ≠ t) (hrt : r ≠ t) (hq : rr q < 1000000 ^ 20) (hrr : rr r < 1000000 ^ 20) (hxy : rr q * rr r < 1000000 ^ 20) : Cv l y_M_multiply (Cond.code y_M_multiply c_M_multiply 12 none :: zB) { frames := 1, cells := 0, slots := 0, locals := 22 } (dC, dI) zcl [(cI, .int), (cL, .long)] (zG cI cL qT) [.ref mo, .int (zI (q : Int)), .int (zI (r : Int)), .int (zI (t : Int))] [oM mo th mw (nv : Int) mg ma mb (ns : Int) mlo mhi (nw : Int) mwe mru mrd, aL cL mw 160 (wkA rr)] (fun wv => wv = [oM mo th mw (nv : Int) mg ma mb (ns : Int) mlo mhi (nw : Int) mwe mru mrd, aL cL mw 160 (wkA (un rr t (rr q * rr r)))]) 0 0 := by
  refine Cm.ofZ (cc := c_M_multiply) (maxL := 12) (ret := none) (by decide) rfl (Nat.le_of_ble_eq_true rfl) rfl ?_
  intro p e s m below meth c A S hr hlo hnm hK hg hA hAe
  have hGok := zG_ok cI cL qT
  show ZZ _ _ _ _ _ _ _ _ _ _ _ _ _ _ _ _ _ _ 0 [(0, .ref mo), (1, .int (zI (q : Int))), (2, .int (zI (r : Int))), (3, .int (zI (t : Int)))] [] [oM mo th mw (nv : Int) mg ma mb (ns : Int) mlo mhi (nw : Int) mwe mru mrd, aL cL mw 160 (wkA rr)]
  have hu1 := tp_le (rr q)
  have hu2 := tp_le (rr r)
  refine z_aload_n S d_M_multiply_0 0 rfl ?_
  refine z_iload_n S d_M_multiply_1 3 rfl ?_
  refine z_callVv (As := [.int (zI (t : Int))]) (st := []) (wc := [oM mo th mw (nv : Int) mg ma mb (ns : Int) mlo mhi (nw : Int) mwe mru mrd, aL cL mw 160 (wkA rr)]) (wr := []) S hGok hK hg hA (s_M_clear l dC dI cI cL qT mo mw nv ma mb ns mlo mhi nw mwe mru mrd th mg rr t (by omega)) (zcwV S (List.mem_cons_of_mem _ k_M_48) mV_M_clear k_M_48 hd_M_clear rfl rfl ⟨Nat.le_of_ble_eq_true rfl, Nat.le_of_ble_eq_true rfl⟩) rfl (Nat.le_of_ble_eq_true rfl) d_M_multiply_2 ⟨Nat.le_of_ble_eq_true rfl, Nat.le_of_ble_eq_true rfl⟩ rfl [0, 1] [] 0 rfl rfl rfl (by decide) rfl rfl rfl (by decide) (by decide) (fun w hp => ?_)
  subst hp
  show ZZ _ _ _ _ _ _ _ _ _ _ _ _ _ _ _ _ _ _ 5 [(0, .ref mo), (1, .int (zI (q : Int))), (2, .int (zI (r : Int))), (3, .int (zI (t : Int)))] [] [oM mo th mw (nv : Int) mg ma mb (ns : Int) mlo mhi (nw : Int) mwe mru mrd, aL cL mw 160 (wkA (un rr t 0))]
  refine z_aload_n S d_M_multiply_5 0 rfl ?_
  refine z_iload_n S d_M_multiply_6 1 rfl ?_
  refine z_callVa (As := [.int (zI (q : Int))]) (st := []) (wc := [oM mo th mw (nv : Int) mg ma mb (ns : Int) mlo mhi (nw : Int) mwe mru mrd, aL cL mw 160 (wkA (un rr t 0))]) (wr := []) S hGok hK hg hA (s_M_top l dC dI cI cL qT mo mw nv ma mb ns mlo mhi nw mwe mru mrd th mg (un rr t 0) q (by omega)) (zcwV S (List.mem_cons_of_mem _ k_M_56) mV_M_top k_M_56 hd_M_top rfl rfl ⟨Nat.le_of_ble_eq_true rfl, Nat.le_of_ble_eq_true rfl⟩) rfl (Nat.le_of_ble_eq_true rfl) d_M_multiply_7 ⟨Nat.le_of_ble_eq_true rfl, Nat.le_of_ble_eq_true rfl⟩ rfl [0, 1] [] 0 rfl rfl rfl (by decide) rfl rfl rfl (by decide) (by decide) (fun x w hp => ?_)
  obtain ⟨rfl, rfl⟩ := hp
  show ZZ _ _ _ _ _ _ _ _ _ _ _ _ _ _ _ _ _ _ 10 [(0, .ref mo), (1, .int (zI (q : Int))), (2, .int (zI (r : Int))), (3, .int (zI (t : Int)))] [.int (zI (((tp ((un rr t 0) q) : Nat) : Int) - 1))] [oM mo th mw (nv : Int) mg ma mb (ns : Int) mlo mhi (nw : Int) mwe mru mrd, aL cL mw 160 (wkA (un rr t 0))]
  refine z_toi (a := ((tp (rr q) : Nat) : Int) - 1) (zI_c (by rw [un_n hqt])) ?_
  refine z_topi (fun x1 ex1 => ?_)
  refine z_istore (lv' := [(4, .int (zI x1)), (0, .ref mo), (1, .int (zI (q : Int))), (2, .int (zI (r : Int))), (3, .int (zI (t : Int)))]) S d_M_multiply_10 (by decide) rfl ?_
  refine z_aload_n S d_M_multiply_12 1 rfl ?_
  refine z_iload_n S d_M_multiply_13 3 rfl ?_
  refine z_callVa (As := [.int (zI (r : Int))]) (st := []) (wc := [oM mo th mw (nv : Int) mg ma mb (ns : Int) mlo mhi (nw : Int) mwe mru mrd, aL cL mw 160 (wkA (un rr t 0))]) (wr := []) S hGok hK hg hA (s_M_top l dC dI cI cL qT mo mw nv ma mb ns mlo mhi nw mwe mru mrd th mg (un rr t 0) r (by omega)) (zcwV S (List.mem_cons_of_mem _ k_M_56) mV_M_top k_M_56 hd_M_top rfl rfl ⟨Nat.le_of_ble_eq_true rfl, Nat.le_of_ble_eq_true rfl⟩) rfl (Nat.le_of_ble_eq_true rfl) d_M_multiply_14 ⟨Nat.le_of_ble_eq_true rfl, Nat.le_of_ble_eq_true rfl⟩ rfl [0, 1] [] 0 rfl rfl rfl (by decide) rfl rfl rfl (by decide) (by decide) (fun x w hp => ?_)
  obtain ⟨rfl, rfl⟩ := hp
  show ZZ _ _ _ _ _ _ _ _ _ _ _ _ _ _ _ _ _ _ 17 [(4, .int (zI x1)), (0, .ref mo), (1, .int (zI (q : Int))), (2, .int (zI (r : Int))), (3, .int (zI (t : Int)))] [.int (zI (((tp ((un rr t 0) r) : Nat) : Int) - 1))] [oM mo th mw (nv : Int) mg ma mb (ns : Int) mlo mhi (nw : Int) mwe mru mrd, aL cL mw 160 (wkA (un rr t 0))]
  refine z_toi (a := ((tp (rr r) : Nat) : Int) - 1) (zI_c (by rw [un_n hrt])) ?_
  refine z_topi (fun x2 ex2 => ?_)
  refine z_istore (lv' := [(5, .int (zI x2)), (4, .int (zI x1)), (0, .ref mo), (1, .int (zI (q : Int))), (2, .int (zI (r : Int))), (3, .int (zI (t : Int)))]) S d_M_multiply_17 (by decide) rfl ?_
  refine z_iconst S d_M_multiply_19 ?_
  refine z_istore (lv' := [(6, .int (zI 0)), (5, .int (zI x2)), (4, .int (zI x1)), (0, .ref mo), (1, .int (zI (q : Int))), (2, .int (zI (r : Int))), (3, .int (zI (t : Int)))]) S d_M_multiply_20 (by decide) rfl ?_
  refine z_lv (lv' := [(0, .ref mo), (1, .int (zI (q : Int))), (2, .int (zI (r : Int))), (3, .int (zI (t : Int))), (4, .int (zI x1)), (5, .int (zI x2)), (6, .int (zI 0))]) [3, 4, 5, 6, 2, 1, 0] rfl ?_
  refine z_wq (ws' := [oM mo th mw (nv : Int) mg ma mb (ns : Int) mlo mhi (nw : Int) mwe mru mrd, aL cL mw 160 (wkA (un rr t (rr q % 1000000 ^ 0 * rr r)))]) (by rw [show rr q % 1000000 ^ 0 * rr r = 0 by rw [Nat.pow_zero, Nat.mod_one, Nat.zero_mul]]) ?_
  refine z_lq (lv' := [(0, .ref mo), (1, .int (zI (q : Int))), (2, .int (zI (r : Int))), (3, .int (zI (t : Int))), (4, .int (zI (((tp (rr q) : Nat) : Int) - 1))), (5, .int (zI (((tp (rr r) : Nat) : Int) - 1))), (6, .int (zI ((0 : Nat) : Int)))]) (Eq.trans (Eq.trans ((congrArg (fun zzz : Int => ([(0, .ref mo), (1, .int (zI (q : Int))), (2, .int (zI (r : Int))), (3, .int (zI (t : Int))), (4, .int (zI zzz)), (5, .int (zI x2)), (6, .int (zI 0))] : List (Nat × Value))) (show (x1 : Int) = ((tp (rr q) : Nat) : Int) - 1 by omega))) (congrArg (fun zzz : Int => ([(0, .ref mo), (1, .int (zI (q : Int))), (2, .int (zI (r : Int))), (3, .int (zI (t : Int))), (4, .int (zI (((tp (rr q) : Nat) : Int) - 1))), (5, .int (zI zzz)), (6, .int (zI 0))] : List (Nat × Value))) (show (x2 : Int) = ((tp (rr r) : Nat) : Int) - 1 by omega))) (congrArg (fun zzz : Int => ([(0, .ref mo), (1, .int (zI (q : Int))), (2, .int (zI (r : Int))), (3, .int (zI (t : Int))), (4, .int (zI (((tp (rr q) : Nat) : Int) - 1))), (5, .int (zI (((tp (rr r) : Nat) : Int) - 1))), (6, .int (zI zzz))] : List (Nat × Value))) (show (0 : Int) = ((0 : Nat) : Int) by omega))) ?_
  refine z_loop (I := fun (i : Nat) => (i ≤ tp (rr q))) (μ := fun (i : Nat) => 20 - i) (LV := fun (i : Nat) => [(0, .ref mo), (1, .int (zI (q : Int))), (2, .int (zI (r : Int))), (3, .int (zI (t : Int))), (4, .int (zI (((tp (rr q) : Nat) : Int) - 1))), (5, .int (zI (((tp (rr r) : Nat) : Int) - 1))), (6, .int (zI (i : Int)))]) (WS := fun (i : Nat) => [oM mo th mw (nv : Int) mg ma mb (ns : Int) mlo mhi (nw : Int) mwe mru mrd, aL cL mw 160 (wkA (un rr t (rr q % 1000000 ^ i * rr r)))]) (a := 0) ?_ ?_
  · exact (show (0 ≤ tp (rr q)) from by omega)
  · intro i hI ih22
    have hi : i ≤ tp (rr q) := hI
    show ZZ _ _ _ _ _ _ _ _ _ _ _ _ _ _ _ _ _ _ 22 [(0, .ref mo), (1, .int (zI (q : Int))), (2, .int (zI (r : Int))), (3, .int (zI (t : Int))), (4, .int (zI (((tp (rr q) : Nat) : Int) - 1))), (5, .int (zI (((tp (rr r) : Nat) : Int) - 1))), (6, .int (zI (i : Int)))] [] [oM mo th mw (nv : Int) mg ma mb (ns : Int) mlo mhi (nw : Int) mwe mru mrd, aL cL mw 160 (wkA (un rr t (rr q % 1000000 ^ i * rr r)))]
    have hZP : rr q % 1000000 ^ (i + 1) * rr r = rr q % 1000000 ^ i * rr r + dg 1000000 (rr q) i * rr r * 1000000 ^ i := md_y 1000000 (rr q) (rr r) i
    have hZl : rr q % 1000000 ^ (i + 1) * rr r < 1000000 ^ 20 := md_le hxy
    have hPl : rr q % 1000000 ^ i * rr r < 1000000 ^ 20 := md_le hxy
    have ld := dg_lt (b := 1000000) (by decide) (rr q) (i)
    refine z_iload S d_M_multiply_22 6 rfl ?_
    refine z_iload S d_M_multiply_24 4 rfl ?_
    refine z_icmp_gt (tgt := 147) S d_M_multiply_26 (by decide) (by omega) (by omega) (fun c3 => ?_) (fun c3 => ?_)
    · skip
      refine z_wq (ws' := [oM mo th mw (nv : Int) mg ma mb (ns : Int) mlo mhi (nw : Int) mwe mru mrd, aL cL mw 160 (wkA (un rr t (rr q * rr r)))]) (by rw [md_top6 hq (by omega)]) ?_
      exact z_vret (w := [oM mo th mw (nv : Int) mg ma mb (ns : Int) mlo mhi (nw : Int) mwe mru mrd, aL cL mw 160 (wkA (un rr t (rr q * rr r)))]) S hr hlo hAe d_M_multiply_147 [0, 1] (by decide) rfl rfl ⟨Nat.le_refl _, Nat.le_refl _⟩ (rfl)
    · skip
      refine z_lconst (z := 0) S d_M_multiply_29 rfl ?_
      refine z_lstore (lv' := [(7, .long (zL 0)), (0, .ref mo), (1, .int (zI (q : Int))), (2, .int (zI (r : Int))), (3, .int (zI (t : Int))), (4, .int (zI (((tp (rr q) : Nat) : Int) - 1))), (5, .int (zI (((tp (rr r) : Nat) : Int) - 1))), (6, .int (zI (i : Int)))]) S d_M_multiply_30 (by decide) rfl ?_
      refine z_iconst S d_M_multiply_32 ?_
      refine z_istore (lv' := [(9, .int (zI 0)), (7, .long (zL 0)), (0, .ref mo), (1, .int (zI (q : Int))), (2, .int (zI (r : Int))), (3, .int (zI (t : Int))), (4, .int (zI (((tp (rr q) : Nat) : Int) - 1))), (5, .int (zI (((tp (rr r) : Nat) : Int) - 1))), (6, .int (zI (i : Int)))]) S d_M_multiply_33 (by decide) rfl ?_
      refine z_lv (lv' := [(0, .ref mo), (1, .int (zI (q : Int))), (2, .int (zI (r : Int))), (3, .int (zI (t : Int))), (4, .int (zI (((tp (rr q) : Nat) : Int) - 1))), (5, .int (zI (((tp (rr r) : Nat) : Int) - 1))), (6, .int (zI (i : Int))), (7, .long (zL 0)), (9, .int (zI 0))]) [2, 3, 4, 5, 6, 7, 8, 1, 0] rfl ?_
      refine z_wq (ws' := [oM mo th mw (nv : Int) mg ma mb (ns : Int) mlo mhi (nw : Int) mwe mru mrd, aL cL mw 160 (wkR rr t (mx (dg 1000000 (rr q % 1000000 ^ (i + 1) * rr r)) (dg 1000000 (rr q % 1000000 ^ i * rr r)) (i + 0)))]) (by rw [show i + 0 = i from rfl, mx_s2 (fun j hj => by rw [hZP, dg_low (by decide) hj]), wkR_un]) ?_
      refine z_lq (lv' := [(0, .ref mo), (1, .int (zI (q : Int))), (2, .int (zI (r : Int))), (3, .int (zI (t : Int))), (4, .int (zI (((tp (rr q) : Nat) : Int) - 1))), (5, .int (zI (((tp (rr r) : Nat) : Int) - 1))), (6, .int (zI (i : Int))), (7, .long (zL ((0 : Nat) : Int))), (9, .int (zI ((0 : Nat) : Int)))]) (Eq.trans ((congrArg (fun zzz : Int => ([(0, .ref mo), (1, .int (zI (q : Int))), (2, .int (zI (r : Int))), (3, .int (zI (t : Int))), (4, .int (zI (((tp (rr q) : Nat) : Int) - 1))), (5, .int (zI (((tp (rr r) : Nat) : Int) - 1))), (6, .int (zI (i : Int))), (7, .long (zL zzz)), (9, .int (zI 0))] : List (Nat × Value))) (show (0 : Int) = ((0 : Nat) : Int) by omega))) (congrArg (fun zzz : Int => ([(0, .ref mo), (1, .int (zI (q : Int))), (2, .int (zI (r : Int))), (3, .int (zI (t : Int))), (4, .int (zI (((tp (rr q) : Nat) : Int) - 1))), (5, .int (zI (((tp (rr r) : Nat) : Int) - 1))), (6, .int (zI (i : Int))), (7, .long (zL ((0 : Nat) : Int))), (9, .int (zI zzz))] : List (Nat × Value))) (show (0 : Int) = ((0 : Nat) : Int) by omega))) ?_
      refine z_loop (I := fun (zz : Nat × Nat) => match zz with | (j, cy) => (i + j ≤ 20) ∧ (cy < 1000000) ∧ ((rr q % 1000000 ^ (i + 1) * rr r) / 1000000 ^ i / 1000000 ^ j = (rr q % 1000000 ^ i * rr r) / 1000000 ^ i / 1000000 ^ j + dg 1000000 (rr q) i * (rr r / 1000000 ^ j) + cy)) (μ := fun (zz : Nat × Nat) => match zz with | (j, cy) => 20 - j) (LV := fun (zz : Nat × Nat) => match zz with | (j, cy) => [(0, .ref mo), (1, .int (zI (q : Int))), (2, .int (zI (r : Int))), (3, .int (zI (t : Int))), (4, .int (zI (((tp (rr q) : Nat) : Int) - 1))), (5, .int (zI (((tp (rr r) : Nat) : Int) - 1))), (6, .int (zI (i : Int))), (7, .long (zL (cy : Int))), (9, .int (zI (j : Int)))]) (WS := fun (zz : Nat × Nat) => match zz with | (j, cy) => [oM mo th mw (nv : Int) mg ma mb (ns : Int) mlo mhi (nw : Int) mwe mru mrd, aL cL mw 160 (wkR rr t (mx (dg 1000000 (rr q % 1000000 ^ (i + 1) * rr r)) (dg 1000000 (rr q % 1000000 ^ i * rr r)) (i + j)))]) (a := (0, 0)) ?_ ?_
      · exact (show (i + 0 ≤ 20) ∧ (0 < 1000000) ∧ ((rr q % 1000000 ^ (i + 1) * rr r) / 1000000 ^ i / 1000000 ^ 0 = (rr q % 1000000 ^ i * rr r) / 1000000 ^ i / 1000000 ^ 0 + dg 1000000 (rr q) i * (rr r / 1000000 ^ 0) + 0) from ⟨by omega, by omega, by rw [dv_0, dv_0, dv_0, hZP, dv_up (by decide), Nat.add_zero]⟩)
      · intro ⟨j, cy⟩ hI ih35
        obtain ⟨hj, hcy, hz⟩ : (i + j ≤ 20) ∧ (cy < 1000000) ∧ ((rr q % 1000000 ^ (i + 1) * rr r) / 1000000 ^ i / 1000000 ^ j = (rr q % 1000000 ^ i * rr r) / 1000000 ^ i / 1000000 ^ j + dg 1000000 (rr q) i * (rr r / 1000000 ^ j) + cy) := hI
        show ZZ _ _ _ _ _ _ _ _ _ _ _ _ _ _ _ _ _ _ 35 [(0, .ref mo), (1, .int (zI (q : Int))), (2, .int (zI (r : Int))), (3, .int (zI (t : Int))), (4, .int (zI (((tp (rr q) : Nat) : Int) - 1))), (5, .int (zI (((tp (rr r) : Nat) : Int) - 1))), (6, .int (zI (i : Int))), (7, .long (zL (cy : Int))), (9, .int (zI (j : Int)))] [] [oM mo th mw (nv : Int) mg ma mb (ns : Int) mlo mhi (nw : Int) mwe mru mrd, aL cL mw 160 (wkR rr t (mx (dg 1000000 (rr q % 1000000 ^ (i + 1) * rr r)) (dg 1000000 (rr q % 1000000 ^ i * rr r)) (i + j)))]
        refine z_iload S d_M_multiply_35 8 rfl ?_
        refine z_iload S d_M_multiply_37 5 rfl ?_
        refine z_icmp_le (tgt := 49) S d_M_multiply_39 (by decide) (by omega) (by omega) (fun c4 => ?_) (fun c4 => ?_)
        · skip
          have hij : i + j < 20 := by
            have := mul_tp hq hrr hxy (by omega) (by omega)
            omega
          have l2 := dg_lt (b := 1000000) (by decide) ((rr q % 1000000 ^ i * rr r) / 1000000 ^ i) j
          have l3 := dg_lt (b := 1000000) (by decide) (rr r) (j)
          have hp := pr_le6 ld l3
          refine z_aload_n S d_M_multiply_49 0 rfl ?_
          refine z_get S hK la_M 0 rfl rfl 1 (by decide) k_M_7 rfl d_M_multiply_50 ?_
          refine z_iload_n S d_M_multiply_53 3 rfl ?_
          refine z_bipush S d_M_multiply_54 rfl ?_
          refine z_imul S d_M_multiply_56 ?_
          refine z_iload S d_M_multiply_57 6 rfl ?_
          refine z_iadd S d_M_multiply_59 ?_
          refine z_iload S d_M_multiply_60 8 rfl ?_
          refine z_iadd S d_M_multiply_62 ?_
          refine z_lald (x := ((dg 1000000 (rr q % 1000000 ^ i * rr r) (i + j) : Nat) : Int)) S hK 1 1 rfl rfl (t * 20 + (i + j)) (by omega) (by omega) (by decide) ((wkR_at (by omega)).trans (by rw [mx_hi (Nat.le_refl _)])) d_M_multiply_63 ?_
          refine z_lload S d_M_multiply_64 7 rfl ?_
          refine z_ladd S d_M_multiply_66 ?_
          refine z_iload S d_M_multiply_67 8 rfl ?_
          refine z_iload S d_M_multiply_69 5 rfl ?_
          refine z_icmp_gt (tgt := 102) S d_M_multiply_71 (by decide) (by omega) (by omega) (fun c5 => ?_) (fun c5 => ?_)
          · skip
            refine z_lconst (z := 0) S d_M_multiply_102 rfl ?_
            refine z_ladd S d_M_multiply_103 ?_
            refine z_topl (fun x6 ex6 => ?_)
            refine z_lstore (lv' := [(10, .long (zL x6)), (0, .ref mo), (1, .int (zI (q : Int))), (2, .int (zI (r : Int))), (3, .int (zI (t : Int))), (4, .int (zI (((tp (rr q) : Nat) : Int) - 1))), (5, .int (zI (((tp (rr r) : Nat) : Int) - 1))), (6, .int (zI (i : Int))), (7, .long (zL (cy : Int))), (9, .int (zI (j : Int)))]) S d_M_multiply_104 (by decide) rfl ?_
            obtain ⟨k, hk⟩ : ∃ k : Nat, k = cy + (dg 1000000 ((rr q % 1000000 ^ i * rr r) / 1000000 ^ i) j + dg 1000000 (rr q) i * dg 1000000 (rr r) j) := ⟨_, rfl⟩
            have hx1 : x6 = (k : Int) := by rw [ex6, dg_sh', hk]; push_cast; omega
            have hkb : k < 1000000000000 := by omega
            have hdz := dg_sh' 1000000 (rr q % 1000000 ^ (i + 1) * rr r) i j
            obtain ⟨g1, g2⟩ := st_mul6 hz
            rw [← hk] at g1 g2
            refine z_aload_n S d_M_multiply_106 1 rfl ?_
            refine z_get S hK la_M 0 rfl rfl 1 (by decide) k_M_7 rfl d_M_multiply_107 ?_
            refine z_iload_n S d_M_multiply_110 4 rfl ?_
            refine z_bipush S d_M_multiply_111 rfl ?_
            refine z_imul S d_M_multiply_113 ?_
            refine z_iload S d_M_multiply_114 7 rfl ?_
            refine z_iadd S d_M_multiply_116 ?_
            refine z_iload S d_M_multiply_117 9 rfl ?_
            refine z_iadd S d_M_multiply_119 ?_
            refine z_lload S d_M_multiply_120 0 rfl ?_
            refine z_ldc2 (v := 1000000) (z := 1000000) S k_M_54 d_M_multiply_122 (by decide) ?_
            refine z_lrem S d_M_multiply_125 (by omega) (by omega) ?_
            refine z_topl (fun x7 ex7 => ?_)
            refine z_last (f' := wkR rr t (mx (dg 1000000 (rr q % 1000000 ^ (i + 1) * rr r)) (dg 1000000 (rr q % 1000000 ^ i * rr r)) (i + (j + 1)))) (ws' := [oM mo th mw (nv : Int) mg ma mb (ns : Int) mlo mhi (nw : Int) mwe mru mrd, aL cL mw 160 (wkR rr t (mx (dg 1000000 (rr q % 1000000 ^ (i + 1) * rr r)) (dg 1000000 (rr q % 1000000 ^ i * rr r)) (i + (j + 1))))]) S hK 1 1 rfl rfl (t * 20 + (i + j)) (by omega) (by omega) (by decide) (wkR_mx (by omega) (zL_c (by omega))) rfl d_M_multiply_126 ?_
            refine z_lload S d_M_multiply_127 0 rfl ?_
            refine z_ldc2 (v := 1000000) (z := 1000000) S k_M_54 d_M_multiply_129 (by decide) ?_
            refine z_ldiv S d_M_multiply_132 (by omega) (by omega) ?_
            refine z_topl (fun x8 ex8 => ?_)
            refine z_lstore (lv' := [(7, .long (zL x8)), (10, .long (zL x6)), (0, .ref mo), (1, .int (zI (q : Int))), (2, .int (zI (r : Int))), (3, .int (zI (t : Int))), (4, .int (zI (((tp (rr q) : Nat) : Int) - 1))), (5, .int (zI (((tp (rr r) : Nat) : Int) - 1))), (6, .int (zI (i : Int))), (9, .int (zI (j : Int)))]) S d_M_multiply_133 (by decide) rfl ?_
            refine z_iinc (y := ((j + 1 : Nat) : Int)) (lv' := [(9, .int (zI ((j + 1 : Nat) : Int))), (7, .long (zL x8)), (10, .long (zL x6)), (0, .ref mo), (1, .int (zI (q : Int))), (2, .int (zI (r : Int))), (3, .int (zI (t : Int))), (4, .int (zI (((tp (rr q) : Nat) : Int) - 1))), (5, .int (zI (((tp (rr r) : Nat) : Int) - 1))), (6, .int (zI (i : Int)))]) S d_M_multiply_135 9 rfl (by omega) (by decide) rfl ?_
            refine z_goto (tgt := 35) S d_M_multiply_138 (by decide) ?_
            refine z_lv (lv' := [(0, .ref mo), (1, .int (zI (q : Int))), (2, .int (zI (r : Int))), (3, .int (zI (t : Int))), (4, .int (zI (((tp (rr q) : Nat) : Int) - 1))), (5, .int (zI (((tp (rr r) : Nat) : Int) - 1))), (6, .int (zI (i : Int))), (7, .long (zL x8)), (9, .int (zI ((j + 1 : Nat) : Int)))]) [3, 4, 5, 6, 7, 8, 9, 1, 0] rfl ?_
            refine z_lq (lv' := [(0, .ref mo), (1, .int (zI (q : Int))), (2, .int (zI (r : Int))), (3, .int (zI (t : Int))), (4, .int (zI (((tp (rr q) : Nat) : Int) - 1))), (5, .int (zI (((tp (rr r) : Nat) : Int) - 1))), (6, .int (zI (i : Int))), (7, .long (zL ((k / 1000000 : Nat) : Int))), (9, .int (zI ((j + 1 : Nat) : Int)))]) (congrArg (fun zzz : Int => ([(0, .ref mo), (1, .int (zI (q : Int))), (2, .int (zI (r : Int))), (3, .int (zI (t : Int))), (4, .int (zI (((tp (rr q) : Nat) : Int) - 1))), (5, .int (zI (((tp (rr r) : Nat) : Int) - 1))), (6, .int (zI (i : Int))), (7, .long (zL zzz)), (9, .int (zI ((j + 1 : Nat) : Int)))] : List (Nat × Value))) (show (x8 : Int) = ((k / 1000000 : Nat) : Int) by omega)) ?_
            exact ih35 ((j + 1), (k / 1000000)) (show (i + (j + 1) ≤ 20) ∧ ((k / 1000000) < 1000000) ∧ ((rr q % 1000000 ^ (i + 1) * rr r) / 1000000 ^ i / 1000000 ^ (j + 1) = (rr q % 1000000 ^ i * rr r) / 1000000 ^ i / 1000000 ^ (j + 1) + dg 1000000 (rr q) i * (rr r / 1000000 ^ (j + 1)) + (k / 1000000)) from ⟨by omega, by omega, g2⟩) (show 20 - (j + 1) < 20 - j from by omega)
          · skip
            refine z_aload_n S d_M_multiply_74 0 rfl ?_
            refine z_get S hK la_M 0 rfl rfl 1 (by decide) k_M_7 rfl d_M_multiply_75 ?_
            refine z_iload_n S d_M_multiply_78 1 rfl ?_
            refine z_bipush S d_M_multiply_79 rfl ?_
            refine z_imul S d_M_multiply_81 ?_
            refine z_iload S d_M_multiply_82 6 rfl ?_
            refine z_iadd S d_M_multiply_84 ?_
            refine z_lald (x := ((dg 1000000 (rr q) i : Nat) : Int)) S hK 1 1 rfl rfl (q * 20 + i) (by omega) (by omega) (by decide) (wkR_ne (by omega) hqt) d_M_multiply_85 ?_
            refine z_aload_n S d_M_multiply_86 0 rfl ?_
            refine z_get S hK la_M 0 rfl rfl 1 (by decide) k_M_7 rfl d_M_multiply_87 ?_
            refine z_iload_n S d_M_multiply_90 2 rfl ?_
            refine z_bipush S d_M_multiply_91 rfl ?_
            refine z_imul S d_M_multiply_93 ?_
            refine z_iload S d_M_multiply_94 8 rfl ?_
            refine z_iadd S d_M_multiply_96 ?_
            refine z_lald (x := ((dg 1000000 (rr r) j : Nat) : Int)) S hK 1 1 rfl rfl (r * 20 + j) (by omega) (by omega) (by decide) (wkR_ne (by omega) hrt) d_M_multiply_97 ?_
            refine z_lmul S d_M_multiply_98 ?_
            refine z_goto (tgt := 103) S d_M_multiply_99 (by decide) ?_
            refine z_ladd S d_M_multiply_103 ?_
            refine z_topl (fun x9 ex9 => ?_)
            refine z_lstore (lv' := [(10, .long (zL x9)), (0, .ref mo), (1, .int (zI (q : Int))), (2, .int (zI (r : Int))), (3, .int (zI (t : Int))), (4, .int (zI (((tp (rr q) : Nat) : Int) - 1))), (5, .int (zI (((tp (rr r) : Nat) : Int) - 1))), (6, .int (zI (i : Int))), (7, .long (zL (cy : Int))), (9, .int (zI (j : Int)))]) S d_M_multiply_104 (by decide) rfl ?_
            obtain ⟨k, hk⟩ : ∃ k : Nat, k = cy + (dg 1000000 ((rr q % 1000000 ^ i * rr r) / 1000000 ^ i) j + dg 1000000 (rr q) i * dg 1000000 (rr r) j) := ⟨_, rfl⟩
            have hx1 : x9 = (k : Int) := by rw [ex9, dg_sh', hk]; push_cast; omega
            have hkb : k < 1000000000000 := by omega
            have hdz := dg_sh' 1000000 (rr q % 1000000 ^ (i + 1) * rr r) i j
            obtain ⟨g1, g2⟩ := st_mul6 hz
            rw [← hk] at g1 g2
            refine z_aload_n S d_M_multiply_106 1 rfl ?_
            refine z_get S hK la_M 0 rfl rfl 1 (by decide) k_M_7 rfl d_M_multiply_107 ?_
            refine z_iload_n S d_M_multiply_110 4 rfl ?_
            refine z_bipush S d_M_multiply_111 rfl ?_
            refine z_imul S d_M_multiply_113 ?_
            refine z_iload S d_M_multiply_114 7 rfl ?_
            refine z_iadd S d_M_multiply_116 ?_
            refine z_iload S d_M_multiply_117 9 rfl ?_
            refine z_iadd S d_M_multiply_119 ?_
            refine z_lload S d_M_multiply_120 0 rfl ?_
            refine z_ldc2 (v := 1000000) (z := 1000000) S k_M_54 d_M_multiply_122 (by decide) ?_
            refine z_lrem S d_M_multiply_125 (by omega) (by omega) ?_
            refine z_topl (fun x10 ex10 => ?_)
            refine z_last (f' := wkR rr t (mx (dg 1000000 (rr q % 1000000 ^ (i + 1) * rr r)) (dg 1000000 (rr q % 1000000 ^ i * rr r)) (i + (j + 1)))) (ws' := [oM mo th mw (nv : Int) mg ma mb (ns : Int) mlo mhi (nw : Int) mwe mru mrd, aL cL mw 160 (wkR rr t (mx (dg 1000000 (rr q % 1000000 ^ (i + 1) * rr r)) (dg 1000000 (rr q % 1000000 ^ i * rr r)) (i + (j + 1))))]) S hK 1 1 rfl rfl (t * 20 + (i + j)) (by omega) (by omega) (by decide) (wkR_mx (by omega) (zL_c (by omega))) rfl d_M_multiply_126 ?_
            refine z_lload S d_M_multiply_127 0 rfl ?_
            refine z_ldc2 (v := 1000000) (z := 1000000) S k_M_54 d_M_multiply_129 (by decide) ?_
            refine z_ldiv S d_M_multiply_132 (by omega) (by omega) ?_
            refine z_topl (fun x11 ex11 => ?_)
            refine z_lstore (lv' := [(7, .long (zL x11)), (10, .long (zL x9)), (0, .ref mo), (1, .int (zI (q : Int))), (2, .int (zI (r : Int))), (3, .int (zI (t : Int))), (4, .int (zI (((tp (rr q) : Nat) : Int) - 1))), (5, .int (zI (((tp (rr r) : Nat) : Int) - 1))), (6, .int (zI (i : Int))), (9, .int (zI (j : Int)))]) S d_M_multiply_133 (by decide) rfl ?_
            refine z_iinc (y := ((j + 1 : Nat) : Int)) (lv' := [(9, .int (zI ((j + 1 : Nat) : Int))), (7, .long (zL x11)), (10, .long (zL x9)), (0, .ref mo), (1, .int (zI (q : Int))), (2, .int (zI (r : Int))), (3, .int (zI (t : Int))), (4, .int (zI (((tp (rr q) : Nat) : Int) - 1))), (5, .int (zI (((tp (rr r) : Nat) : Int) - 1))), (6, .int (zI (i : Int)))]) S d_M_multiply_135 9 rfl (by omega) (by decide) rfl ?_
            refine z_goto (tgt := 35) S d_M_multiply_138 (by decide) ?_
            refine z_lv (lv' := [(0, .ref mo), (1, .int (zI (q : Int))), (2, .int (zI (r : Int))), (3, .int (zI (t : Int))), (4, .int (zI (((tp (rr q) : Nat) : Int) - 1))), (5, .int (zI (((tp (rr r) : Nat) : Int) - 1))), (6, .int (zI (i : Int))), (7, .long (zL x11)), (9, .int (zI ((j + 1 : Nat) : Int)))]) [3, 4, 5, 6, 7, 8, 9, 1, 0] rfl ?_
            refine z_lq (lv' := [(0, .ref mo), (1, .int (zI (q : Int))), (2, .int (zI (r : Int))), (3, .int (zI (t : Int))), (4, .int (zI (((tp (rr q) : Nat) : Int) - 1))), (5, .int (zI (((tp (rr r) : Nat) : Int) - 1))), (6, .int (zI (i : Int))), (7, .long (zL ((k / 1000000 : Nat) : Int))), (9, .int (zI ((j + 1 : Nat) : Int)))]) (congrArg (fun zzz : Int => ([(0, .ref mo), (1, .int (zI (q : Int))), (2, .int (zI (r : Int))), (3, .int (zI (t : Int))), (4, .int (zI (((tp (rr q) : Nat) : Int) - 1))), (5, .int (zI (((tp (rr r) : Nat) : Int) - 1))), (6, .int (zI (i : Int))), (7, .long (zL zzz)), (9, .int (zI ((j + 1 : Nat) : Int)))] : List (Nat × Value))) (show (x11 : Int) = ((k / 1000000 : Nat) : Int) by omega)) ?_
            exact ih35 ((j + 1), (k / 1000000)) (show (i + (j + 1) ≤ 20) ∧ ((k / 1000000) < 1000000) ∧ ((rr q % 1000000 ^ (i + 1) * rr r) / 1000000 ^ i / 1000000 ^ (j + 1) = (rr q % 1000000 ^ i * rr r) / 1000000 ^ i / 1000000 ^ (j + 1) + dg 1000000 (rr q) i * (rr r / 1000000 ^ (j + 1)) + (k / 1000000)) from ⟨by omega, by omega, g2⟩) (show 20 - (j + 1) < 20 - j from by omega)
        · skip
          refine z_lload S d_M_multiply_42 7 rfl ?_
          refine z_lconst (z := 0) S d_M_multiply_44 rfl ?_
          refine z_lcmp_le (tgt := 141) S d_M_multiply_45 d_M_multiply_46 (by decide) (by omega) (by omega) (fun c12 => ?_) (fun c12 => ?_)
          · skip
            have hz2 : (rr q % 1000000 ^ (i + 1) * rr r) / 1000000 ^ (i + j) = (rr q % 1000000 ^ i * rr r) / 1000000 ^ (i + j) := by
              rw [dv_hi (by decide) (tp_lt hrr) (show tp (rr r) ≤ j by omega), Nat.mul_zero, dv_dv, dv_dv] at hz
              omega
            refine z_wq (ws' := [oM mo th mw (nv : Int) mg ma mb (ns : Int) mlo mhi (nw : Int) mwe mru mrd, aL cL mw 160 (wkA (un rr t (rr q % 1000000 ^ (i + 1) * rr r)))]) (by rw [mx_e2 hz2, wkR_un]) ?_
            refine z_iinc (y := ((i + 1 : Nat) : Int)) (lv' := [(6, .int (zI ((i + 1 : Nat) : Int))), (0, .ref mo), (1, .int (zI (q : Int))), (2, .int (zI (r : Int))), (3, .int (zI (t : Int))), (4, .int (zI (((tp (rr q) : Nat) : Int) - 1))), (5, .int (zI (((tp (rr r) : Nat) : Int) - 1))), (7, .long (zL (cy : Int))), (9, .int (zI (j : Int)))]) S d_M_multiply_141 6 rfl (by omega) (by decide) rfl ?_
            refine z_goto (tgt := 22) S d_M_multiply_144 (by decide) ?_
            refine z_lv (lv' := [(0, .ref mo), (1, .int (zI (q : Int))), (2, .int (zI (r : Int))), (3, .int (zI (t : Int))), (4, .int (zI (((tp (rr q) : Nat) : Int) - 1))), (5, .int (zI (((tp (rr r) : Nat) : Int) - 1))), (6, .int (zI ((i + 1 : Nat) : Int)))]) [1, 2, 3, 4, 5, 6, 0] rfl ?_
            exact ih22 (i + 1) (show ((i + 1) ≤ tp (rr q)) from by omega) (show 20 - (i + 1) < 20 - i from by omega)
          · skip
            have hij : i + j < 20 := by
              rcases Nat.lt_or_ge (i + j) 20 with z | z
              · exact z
              · have e0 : (rr q % 1000000 ^ (i + 1) * rr r) / 1000000 ^ i / 1000000 ^ j = 0 := by rw [dv_dv]; exact dv_hi (n := 20) (by decide) hZl z
                rw [e0] at hz
                generalize (rr q % 1000000 ^ i * rr r) / 1000000 ^ i / 1000000 ^ j = z1 at hz
                generalize dg 1000000 (rr q) i * (rr r / 1000000 ^ j) = z2 at hz
                omega
            have hb0 : dg 1000000 (rr r) j = 0 := dg_hi (by decide) (tp_lt hrr) (by omega)
            have l2 := dg_lt (b := 1000000) (by decide) ((rr q % 1000000 ^ i * rr r) / 1000000 ^ i) j
            have l3 := dg_lt (b := 1000000) (by decide) (rr r) (j)
            have hp := pr_le6 ld l3
            refine z_aload_n S d_M_multiply_49 0 rfl ?_
            refine z_get S hK la_M 0 rfl rfl 1 (by decide) k_M_7 rfl d_M_multiply_50 ?_
            refine z_iload_n S d_M_multiply_53 3 rfl ?_
            refine z_bipush S d_M_multiply_54 rfl ?_
            refine z_imul S d_M_multiply_56 ?_
            refine z_iload S d_M_multiply_57 6 rfl ?_
            refine z_iadd S d_M_multiply_59 ?_
            refine z_iload S d_M_multiply_60 8 rfl ?_
            refine z_iadd S d_M_multiply_62 ?_
            refine z_lald (x := ((dg 1000000 (rr q % 1000000 ^ i * rr r) (i + j) : Nat) : Int)) S hK 1 1 rfl rfl (t * 20 + (i + j)) (by omega) (by omega) (by decide) ((wkR_at (by omega)).trans (by rw [mx_hi (Nat.le_refl _)])) d_M_multiply_63 ?_
            refine z_lload S d_M_multiply_64 7 rfl ?_
            refine z_ladd S d_M_multiply_66 ?_
            refine z_iload S d_M_multiply_67 8 rfl ?_
            refine z_iload S d_M_multiply_69 5 rfl ?_
            refine z_icmp_gt (tgt := 102) S d_M_multiply_71 (by decide) (by omega) (by omega) (fun c13 => ?_) (fun c13 => ?_)
            · skip
              refine z_lconst (z := 0) S d_M_multiply_102 rfl ?_
              refine z_ladd S d_M_multiply_103 ?_
              refine z_topl (fun x14 ex14 => ?_)
              refine z_lstore (lv' := [(10, .long (zL x14)), (0, .ref mo), (1, .int (zI (q : Int))), (2, .int (zI (r : Int))), (3, .int (zI (t : Int))), (4, .int (zI (((tp (rr q) : Nat) : Int) - 1))), (5, .int (zI (((tp (rr r) : Nat) : Int) - 1))), (6, .int (zI (i : Int))), (7, .long (zL (cy : Int))), (9, .int (zI (j : Int)))]) S d_M_multiply_104 (by decide) rfl ?_
              obtain ⟨k, hk⟩ : ∃ k : Nat, k = cy + (dg 1000000 ((rr q % 1000000 ^ i * rr r) / 1000000 ^ i) j + dg 1000000 (rr q) i * dg 1000000 (rr r) j) := ⟨_, rfl⟩
              have hx1 : x14 = (k : Int) := by rw [ex14, dg_sh', hk, hb0, Nat.mul_zero]; push_cast; omega
              have hkb : k < 1000000000000 := by omega
              have hdz := dg_sh' 1000000 (rr q % 1000000 ^ (i + 1) * rr r) i j
              obtain ⟨g1, g2⟩ := st_mul6 hz
              rw [← hk] at g1 g2
              refine z_aload_n S d_M_multiply_106 1 rfl ?_
              refine z_get S hK la_M 0 rfl rfl 1 (by decide) k_M_7 rfl d_M_multiply_107 ?_
              refine z_iload_n S d_M_multiply_110 4 rfl ?_
              refine z_bipush S d_M_multiply_111 rfl ?_
              refine z_imul S d_M_multiply_113 ?_
              refine z_iload S d_M_multiply_114 7 rfl ?_
              refine z_iadd S d_M_multiply_116 ?_
              refine z_iload S d_M_multiply_117 9 rfl ?_
              refine z_iadd S d_M_multiply_119 ?_
              refine z_lload S d_M_multiply_120 0 rfl ?_
              refine z_ldc2 (v := 1000000) (z := 1000000) S k_M_54 d_M_multiply_122 (by decide) ?_
              refine z_lrem S d_M_multiply_125 (by omega) (by omega) ?_
              refine z_topl (fun x15 ex15 => ?_)
              refine z_last (f' := wkR rr t (mx (dg 1000000 (rr q % 1000000 ^ (i + 1) * rr r)) (dg 1000000 (rr q % 1000000 ^ i * rr r)) (i + (j + 1)))) (ws' := [oM mo th mw (nv : Int) mg ma mb (ns : Int) mlo mhi (nw : Int) mwe mru mrd, aL cL mw 160 (wkR rr t (mx (dg 1000000 (rr q % 1000000 ^ (i + 1) * rr r)) (dg 1000000 (rr q % 1000000 ^ i * rr r)) (i + (j + 1))))]) S hK 1 1 rfl rfl (t * 20 + (i + j)) (by omega) (by omega) (by decide) (wkR_mx (by omega) (zL_c (by omega))) rfl d_M_multiply_126 ?_
              refine z_lload S d_M_multiply_127 0 rfl ?_
              refine z_ldc2 (v := 1000000) (z := 1000000) S k_M_54 d_M_multiply_129 (by decide) ?_
              refine z_ldiv S d_M_multiply_132 (by omega) (by omega) ?_
              refine z_topl (fun x16 ex16 => ?_)
              refine z_lstore (lv' := [(7, .long (zL x16)), (10, .long (zL x14)), (0, .ref mo), (1, .int (zI (q : Int))), (2, .int (zI (r : Int))), (3, .int (zI (t : Int))), (4, .int (zI (((tp (rr q) : Nat) : Int) - 1))), (5, .int (zI (((tp (rr r) : Nat) : Int) - 1))), (6, .int (zI (i : Int))), (9, .int (zI (j : Int)))]) S d_M_multiply_133 (by decide) rfl ?_
              refine z_iinc (y := ((j + 1 : Nat) : Int)) (lv' := [(9, .int (zI ((j + 1 : Nat) : Int))), (7, .long (zL x16)), (10, .long (zL x14)), (0, .ref mo), (1, .int (zI (q : Int))), (2, .int (zI (r : Int))), (3, .int (zI (t : Int))), (4, .int (zI (((tp (rr q) : Nat) : Int) - 1))), (5, .int (zI (((tp (rr r) : Nat) : Int) - 1))), (6, .int (zI (i : Int)))]) S d_M_multiply_135 9 rfl (by omega) (by decide) rfl ?_
              refine z_goto (tgt := 35) S d_M_multiply_138 (by decide) ?_
              refine z_lv (lv' := [(0, .ref mo), (1, .int (zI (q : Int))), (2, .int (zI (r : Int))), (3, .int (zI (t : Int))), (4, .int (zI (((tp (rr q) : Nat) : Int) - 1))), (5, .int (zI (((tp (rr r) : Nat) : Int) - 1))), (6, .int (zI (i : Int))), (7, .long (zL x16)), (9, .int (zI ((j + 1 : Nat) : Int)))]) [3, 4, 5, 6, 7, 8, 9, 1, 0] rfl ?_
              refine z_lq (lv' := [(0, .ref mo), (1, .int (zI (q : Int))), (2, .int (zI (r : Int))), (3, .int (zI (t : Int))), (4, .int (zI (((tp (rr q) : Nat) : Int) - 1))), (5, .int (zI (((tp (rr r) : Nat) : Int) - 1))), (6, .int (zI (i : Int))), (7, .long (zL ((k / 1000000 : Nat) : Int))), (9, .int (zI ((j + 1 : Nat) : Int)))]) (congrArg (fun zzz : Int => ([(0, .ref mo), (1, .int (zI (q : Int))), (2, .int (zI (r : Int))), (3, .int (zI (t : Int))), (4, .int (zI (((tp (rr q) : Nat) : Int) - 1))), (5, .int (zI (((tp (rr r) : Nat) : Int) - 1))), (6, .int (zI (i : Int))), (7, .long (zL zzz)), (9, .int (zI ((j + 1 : Nat) : Int)))] : List (Nat × Value))) (show (x16 : Int) = ((k / 1000000 : Nat) : Int) by omega)) ?_
              exact ih35 ((j + 1), (k / 1000000)) (show (i + (j + 1) ≤ 20) ∧ ((k / 1000000) < 1000000) ∧ ((rr q % 1000000 ^ (i + 1) * rr r) / 1000000 ^ i / 1000000 ^ (j + 1) = (rr q % 1000000 ^ i * rr r) / 1000000 ^ i / 1000000 ^ (j + 1) + dg 1000000 (rr q) i * (rr r / 1000000 ^ (j + 1)) + (k / 1000000)) from ⟨by omega, by omega, g2⟩) (show 20 - (j + 1) < 20 - j from by omega)
            · skip
              refine z_aload_n S d_M_multiply_74 0 rfl ?_
              refine z_get S hK la_M 0 rfl rfl 1 (by decide) k_M_7 rfl d_M_multiply_75 ?_
              refine z_iload_n S d_M_multiply_78 1 rfl ?_
              refine z_bipush S d_M_multiply_79 rfl ?_
              refine z_imul S d_M_multiply_81 ?_
              refine z_iload S d_M_multiply_82 6 rfl ?_
              refine z_iadd S d_M_multiply_84 ?_
              refine z_lald (x := ((dg 1000000 (rr q) i : Nat) : Int)) S hK 1 1 rfl rfl (q * 20 + i) (by omega) (by omega) (by decide) (wkR_ne (by omega) hqt) d_M_multiply_85 ?_
              refine z_aload_n S d_M_multiply_86 0 rfl ?_
              refine z_get S hK la_M 0 rfl rfl 1 (by decide) k_M_7 rfl d_M_multiply_87 ?_
              refine z_iload_n S d_M_multiply_90 2 rfl ?_
              refine z_bipush S d_M_multiply_91 rfl ?_
              refine z_imul S d_M_multiply_93 ?_
              refine z_iload S d_M_multiply_94 8 rfl ?_
              refine z_iadd S d_M_multiply_96 ?_
              refine z_lald (x := ((dg 1000000 (rr r) j : Nat) : Int)) S hK 1 1 rfl rfl (r * 20 + j) (by omega) (by omega) (by decide) (wkR_ne (by omega) hrt) d_M_multiply_97 ?_
              refine z_lmul S d_M_multiply_98 ?_
              refine z_goto (tgt := 103) S d_M_multiply_99 (by decide) ?_
              refine z_ladd S d_M_multiply_103 ?_
              refine z_topl (fun x17 ex17 => ?_)
              refine z_lstore (lv' := [(10, .long (zL x17)), (0, .ref mo), (1, .int (zI (q : Int))), (2, .int (zI (r : Int))), (3, .int (zI (t : Int))), (4, .int (zI (((tp (rr q) : Nat) : Int) - 1))), (5, .int (zI (((tp (rr r) : Nat) : Int) - 1))), (6, .int (zI (i : Int))), (7, .long (zL (cy : Int))), (9, .int (zI (j : Int)))]) S d_M_multiply_104 (by decide) rfl ?_
              obtain ⟨k, hk⟩ : ∃ k : Nat, k = cy + (dg 1000000 ((rr q % 1000000 ^ i * rr r) / 1000000 ^ i) j + dg 1000000 (rr q) i * dg 1000000 (rr r) j) := ⟨_, rfl⟩
              have hx1 : x17 = (k : Int) := by rw [ex17, dg_sh', hk, hb0, Nat.mul_zero]; push_cast; omega
              have hkb : k < 1000000000000 := by omega
              have hdz := dg_sh' 1000000 (rr q % 1000000 ^ (i + 1) * rr r) i j
              obtain ⟨g1, g2⟩ := st_mul6 hz
              rw [← hk] at g1 g2
              refine z_aload_n S d_M_multiply_106 1 rfl ?_
              refine z_get S hK la_M 0 rfl rfl 1 (by decide) k_M_7 rfl d_M_multiply_107 ?_
              refine z_iload_n S d_M_multiply_110 4 rfl ?_
              refine z_bipush S d_M_multiply_111 rfl ?_
              refine z_imul S d_M_multiply_113 ?_
              refine z_iload S d_M_multiply_114 7 rfl ?_
              refine z_iadd S d_M_multiply_116 ?_
              refine z_iload S d_M_multiply_117 9 rfl ?_
              refine z_iadd S d_M_multiply_119 ?_
              refine z_lload S d_M_multiply_120 0 rfl ?_
              refine z_ldc2 (v := 1000000) (z := 1000000) S k_M_54 d_M_multiply_122 (by decide) ?_
              refine z_lrem S d_M_multiply_125 (by omega) (by omega) ?_
              refine z_topl (fun x18 ex18 => ?_)
              refine z_last (f' := wkR rr t (mx (dg 1000000 (rr q % 1000000 ^ (i + 1) * rr r)) (dg 1000000 (rr q % 1000000 ^ i * rr r)) (i + (j + 1)))) (ws' := [oM mo th mw (nv : Int) mg ma mb (ns : Int) mlo mhi (nw : Int) mwe mru mrd, aL cL mw 160 (wkR rr t (mx (dg 1000000 (rr q % 1000000 ^ (i + 1) * rr r)) (dg 1000000 (rr q % 1000000 ^ i * rr r)) (i + (j + 1))))]) S hK 1 1 rfl rfl (t * 20 + (i + j)) (by omega) (by omega) (by decide) (wkR_mx (by omega) (zL_c (by omega))) rfl d_M_multiply_126 ?_
              refine z_lload S d_M_multiply_127 0 rfl ?_
              refine z_ldc2 (v := 1000000) (z := 1000000) S k_M_54 d_M_multiply_129 (by decide) ?_
              refine z_ldiv S d_M_multiply_132 (by omega) (by omega) ?_
              refine z_topl (fun x19 ex19 => ?_)
              refine z_lstore (lv' := [(7, .long (zL x19)), (10, .long (zL x17)), (0, .ref mo), (1, .int (zI (q : Int))), (2, .int (zI (r : Int))), (3, .int (zI (t : Int))), (4, .int (zI (((tp (rr q) : Nat) : Int) - 1))), (5, .int (zI (((tp (rr r) : Nat) : Int) - 1))), (6, .int (zI (i : Int))), (9, .int (zI (j : Int)))]) S d_M_multiply_133 (by decide) rfl ?_
              refine z_iinc (y := ((j + 1 : Nat) : Int)) (lv' := [(9, .int (zI ((j + 1 : Nat) : Int))), (7, .long (zL x19)), (10, .long (zL x17)), (0, .ref mo), (1, .int (zI (q : Int))), (2, .int (zI (r : Int))), (3, .int (zI (t : Int))), (4, .int (zI (((tp (rr q) : Nat) : Int) - 1))), (5, .int (zI (((tp (rr r) : Nat) : Int) - 1))), (6, .int (zI (i : Int)))]) S d_M_multiply_135 9 rfl (by omega) (by decide) rfl ?_
              refine z_goto (tgt := 35) S d_M_multiply_138 (by decide) ?_
              refine z_lv (lv' := [(0, .ref mo), (1, .int (zI (q : Int))), (2, .int (zI (r : Int))), (3, .int (zI (t : Int))), (4, .int (zI (((tp (rr q) : Nat) : Int) - 1))), (5, .int (zI (((tp (rr r) : Nat) : Int) - 1))), (6, .int (zI (i : Int))), (7, .long (zL x19)), (9, .int (zI ((j + 1 : Nat) : Int)))]) [3, 4, 5, 6, 7, 8, 9, 1, 0] rfl ?_
              refine z_lq (lv' := [(0, .ref mo), (1, .int (zI (q : Int))), (2, .int (zI (r : Int))), (3, .int (zI (t : Int))), (4, .int (zI (((tp (rr q) : Nat) : Int) - 1))), (5, .int (zI (((tp (rr r) : Nat) : Int) - 1))), (6, .int (zI (i : Int))), (7, .long (zL ((k / 1000000 : Nat) : Int))), (9, .int (zI ((j + 1 : Nat) : Int)))]) (congrArg (fun zzz : Int => ([(0, .ref mo), (1, .int (zI (q : Int))), (2, .int (zI (r : Int))), (3, .int (zI (t : Int))), (4, .int (zI (((tp (rr q) : Nat) : Int) - 1))), (5, .int (zI (((tp (rr r) : Nat) : Int) - 1))), (6, .int (zI (i : Int))), (7, .long (zL zzz)), (9, .int (zI ((j + 1 : Nat) : Int)))] : List (Nat × Value))) (show (x19 : Int) = ((k / 1000000 : Nat) : Int) by omega)) ?_
              exact ih35 ((j + 1), (k / 1000000)) (show (i + (j + 1) ≤ 20) ∧ ((k / 1000000) < 1000000) ∧ ((rr q % 1000000 ^ (i + 1) * rr r) / 1000000 ^ i / 1000000 ^ (j + 1) = (rr q % 1000000 ^ i * rr r) / 1000000 ^ i / 1000000 ^ (j + 1) + dg 1000000 (rr q) i * (rr r / 1000000 ^ (j + 1)) + (k / 1000000)) from ⟨by omega, by omega, g2⟩) (show 20 - (j + 1) < 20 - j from by omega)
set_option maxHeartbeats 4000000 in
set_option maxRecDepth 100000 in
theorem s_M_reaches (l : Launch) (dC : Nat → ClassId) (dI : Nat → Nat → Nat) (cI cL : ClassId) (qT : Nat) (mo : Nat) (mw : Nat) (nv : Nat) (ma : Nat) (mb : Nat) (ns : Nat) (mlo : Nat) (mhi : Nat) (nw : Nat) (mwe : Nat) (mru : Nat) (mrd : Nat) (th : Int) (mg : Nat) (rr : Nat → Nat) (q : Nat) (r : Nat) (sh : Nat) (hq8 : q < 8) (hr8 : r < 8) (hq : rr q < 1000000 ^ 20) (hrr : rr r < 1000000 ^ 20) (hsh : sh ≤ 20) (h0 : 0 < rr r) : Ct l y_M_reaches (Cond.code y_M_reaches c_M_reaches 11 (some .boolean) :: zB) { frames := 1, cells := 0, slots := 0, locals := 22 } (dC, dI) zcl [(cI, .int), (cL, .long)] (zG cI cL qT) [.ref mo, .int (zI (q : Int)), .int (zI (r : Int)), .int (zI (sh : Int))] [oM mo th mw (nv : Int) mg ma mb (ns : Int) mlo mhi (nw : Int) mwe mru mrd, aL cL mw 160 (wkA rr)] (fun rv wv => rv = .int (zI (b2 ((rr r * 1000000 ^ sh) ≤ rr q))) ∧ wv = [oM mo th mw (nv : Int) mg ma mb (ns : Int) mlo mhi (nw : Int) mwe mru mrd, aL cL mw 160 (wkA rr)]) 0 0 := by
  refine Cm.ofZ (cc := c_M_reaches) (maxL := 11) (ret := (some .boolean)) (by decide) rfl (Nat.le_of_ble_eq_true rfl) rfl ?_
  intro p e s m below meth c A S hr hlo hnm hK hg hA hAe
  have hGok := zG_ok cI cL qT
  show ZZ _ _ _ _ _ _ _ _ _ _ _ _ _ _ _ _ _ _ 0 [(0, .ref mo), (1, .int (zI (q : Int))), (2, .int (zI (r : Int))), (3, .int (zI (sh : Int)))] [] [oM mo th mw (nv : Int) mg ma mb (ns : Int) mlo mhi (nw : Int) mwe mru mrd, aL cL mw 160 (wkA rr)]
  have hu1 := tp_le (rr q)
  have hu2 := tp_le (rr r)
  refine z_aload_n S d_M_reaches_0 0 rfl ?_
  refine z_iload_n S d_M_reaches_1 1 rfl ?_
  refine z_callVa (As := [.int (zI (q : Int))]) (st := []) (wc := [oM mo th mw (nv : Int) mg ma mb (ns : Int) mlo mhi (nw : Int) mwe mru mrd, aL cL mw 160 (wkA rr)]) (wr := []) S hGok hK hg hA (s_M_top l dC dI cI cL qT mo mw nv ma mb ns mlo mhi nw mwe mru mrd th mg rr q (by omega)) (zcwV S (List.mem_cons_of_mem _ k_M_56) mV_M_top k_M_56 hd_M_top rfl rfl ⟨Nat.le_of_ble_eq_true rfl, Nat.le_of_ble_eq_true rfl⟩) rfl (Nat.le_of_ble_eq_true rfl) d_M_reaches_2 ⟨Nat.le_of_ble_eq_true rfl, Nat.le_of_ble_eq_true rfl⟩ rfl [0, 1] [] 0 rfl rfl rfl (by decide) rfl rfl rfl (by decide) (by decide) (fun x w hp => ?_)
  obtain ⟨rfl, rfl⟩ := hp
  show ZZ _ _ _ _ _ _ _ _ _ _ _ _ _ _ _ _ _ _ 5 [(0, .ref mo), (1, .int (zI (q : Int))), (2, .int (zI (r : Int))), (3, .int (zI (sh : Int)))] [.int (zI (((tp (rr q) : Nat) : Int) - 1))] [oM mo th mw (nv : Int) mg ma mb (ns : Int) mlo mhi (nw : Int) mwe mru mrd, aL cL mw 160 (wkA rr)]
  refine z_topi (fun x1 ex1 => ?_)
  refine z_istore (lv' := [(4, .int (zI x1)), (0, .ref mo), (1, .int (zI (q : Int))), (2, .int (zI (r : Int))), (3, .int (zI (sh : Int)))]) S d_M_reaches_5 (by decide) rfl ?_
  refine z_aload_n S d_M_reaches_7 1 rfl ?_
  refine z_iload_n S d_M_reaches_8 3 rfl ?_
  refine z_callVa (As := [.int (zI (r : Int))]) (st := []) (wc := [oM mo th mw (nv : Int) mg ma mb (ns : Int) mlo mhi (nw : Int) mwe mru mrd, aL cL mw 160 (wkA rr)]) (wr := []) S hGok hK hg hA (s_M_top l dC dI cI cL qT mo mw nv ma mb ns mlo mhi nw mwe mru mrd th mg rr r (by omega)) (zcwV S (List.mem_cons_of_mem _ k_M_56) mV_M_top k_M_56 hd_M_top rfl rfl ⟨Nat.le_of_ble_eq_true rfl, Nat.le_of_ble_eq_true rfl⟩) rfl (Nat.le_of_ble_eq_true rfl) d_M_reaches_9 ⟨Nat.le_of_ble_eq_true rfl, Nat.le_of_ble_eq_true rfl⟩ rfl [0, 1] [] 0 rfl rfl rfl (by decide) rfl rfl rfl (by decide) (by decide) (fun x w hp => ?_)
  obtain ⟨rfl, rfl⟩ := hp
  show ZZ _ _ _ _ _ _ _ _ _ _ _ _ _ _ _ _ _ _ 12 [(4, .int (zI x1)), (0, .ref mo), (1, .int (zI (q : Int))), (2, .int (zI (r : Int))), (3, .int (zI (sh : Int)))] [.int (zI (((tp (rr r) : Nat) : Int) - 1))] [oM mo th mw (nv : Int) mg ma mb (ns : Int) mlo mhi (nw : Int) mwe mru mrd, aL cL mw 160 (wkA rr)]
  refine z_iload_n S d_M_reaches_12 4 rfl ?_
  refine z_iadd S d_M_reaches_13 ?_
  refine z_topi (fun x2 ex2 => ?_)
  refine z_istore (lv' := [(5, .int (zI x2)), (4, .int (zI x1)), (0, .ref mo), (1, .int (zI (q : Int))), (2, .int (zI (r : Int))), (3, .int (zI (sh : Int)))]) S d_M_reaches_14 (by decide) rfl ?_
  refine z_iload S d_M_reaches_16 1 rfl ?_
  refine z_iload S d_M_reaches_18 0 rfl ?_
  refine z_icmp_eq (tgt := 36) S d_M_reaches_20 (by decide) (by omega) (by omega) (fun c3 => ?_) (fun c3 => ?_)
  · skip
    refine z_iload S d_M_reaches_36 1 rfl ?_
    refine z_istore (lv' := [(6, .int (zI x1)), (5, .int (zI x2)), (4, .int (zI x1)), (0, .ref mo), (1, .int (zI (q : Int))), (2, .int (zI (r : Int))), (3, .int (zI (sh : Int)))]) S d_M_reaches_38 (by decide) rfl ?_
    refine z_lv (lv' := [(0, .ref mo), (1, .int (zI (q : Int))), (2, .int (zI (r : Int))), (3, .int (zI (sh : Int))), (6, .int (zI x1))]) [3, 4, 5, 6, 0] rfl ?_
    refine z_lq (lv' := [(0, .ref mo), (1, .int (zI (q : Int))), (2, .int (zI (r : Int))), (3, .int (zI (sh : Int))), (6, .int (zI (((tp (rr q) : Nat) : Int) - 1)))]) (congrArg (fun zzz : Int => ([(0, .ref mo), (1, .int (zI (q : Int))), (2, .int (zI (r : Int))), (3, .int (zI (sh : Int))), (6, .int (zI zzz))] : List (Nat × Value))) (show (x1 : Int) = ((tp (rr q) : Nat) : Int) - 1 by omega)) ?_
    refine z_loop (I := fun (n : Nat) => (n ≤ 20) ∧ (rr q / 1000000 ^ n = (rr r * 1000000 ^ sh) / 1000000 ^ n)) (μ := fun (n : Nat) => n) (LV := fun (n : Nat) => [(0, .ref mo), (1, .int (zI (q : Int))), (2, .int (zI (r : Int))), (3, .int (zI (sh : Int))), (6, .int (zI ((n : Int) - 1)))]) (WS := fun (n : Nat) => [oM mo th mw (nv : Int) mg ma mb (ns : Int) mlo mhi (nw : Int) mwe mru mrd, aL cL mw 160 (wkA rr)]) (a := (tp (rr q))) ?_ ?_
    · exact (show ((tp (rr q)) ≤ 20) ∧ (rr q / 1000000 ^ (tp (rr q)) = (rr r * 1000000 ^ sh) / 1000000 ^ (tp (rr q))) from ⟨tp_le _, by rw [dv_z (tp_lt hq), show tp (rr q) = tp (rr r) + sh by omega, dv_z (by rw [Nat.pow_add]; exact Nat.mul_lt_mul_of_pos_right (tp_lt hrr) (Nat.pow_pos (by decide)))]⟩)
    · intro n hI ih40
      obtain ⟨hn, he⟩ : (n ≤ 20) ∧ (rr q / 1000000 ^ n = (rr r * 1000000 ^ sh) / 1000000 ^ n) := hI
      show ZZ _ _ _ _ _ _ _ _ _ _ _ _ _ _ _ _ _ _ 40 [(0, .ref mo), (1, .int (zI (q : Int))), (2, .int (zI (r : Int))), (3, .int (zI (sh : Int))), (6, .int (zI ((n : Int) - 1)))] [] [oM mo th mw (nv : Int) mg ma mb (ns : Int) mlo mhi (nw : Int) mwe mru mrd, aL cL mw 160 (wkA rr)]
      have l1 := dg_lt (b := 1000000) (by decide) (rr q) (n - 1)
      have l2 := dg_lt (b := 1000000) (by decide) ((rr r * 1000000 ^ sh)) (n - 1)
      refine z_iload S d_M_reaches_40 4 rfl ?_
      refine z_if_lt (tgt := 113) S d_M_reaches_42 (by decide) (by omega) (fun c4 => ?_) (fun c4 => ?_)
      · skip
        refine z_iconst S d_M_reaches_113 ?_
        have h9 : n = 0 := by omega
        rw [h9, dv_0, dv_0] at he
        exact z_zret (w := [oM mo th mw (nv : Int) mg ma mb (ns : Int) mlo mhi (nw : Int) mwe mru mrd, aL cL mw 160 (wkA rr)]) S hr hlo hAe (by first | exact Or.inl rfl | exact Or.inr rfl) d_M_reaches_114 [0, 1] (by decide) rfl rfl ⟨Nat.le_refl _, Nat.le_refl _⟩ (⟨by rw [b2_t (by omega)], rfl⟩)
      · skip
        refine z_aload_n S d_M_reaches_45 0 rfl ?_
        refine z_get S hK la_M 0 rfl rfl 1 (by decide) k_M_7 rfl d_M_reaches_46 ?_
        refine z_iload_n S d_M_reaches_49 1 rfl ?_
        refine z_bipush S d_M_reaches_50 rfl ?_
        refine z_imul S d_M_reaches_52 ?_
        refine z_iload S d_M_reaches_53 4 rfl ?_
        refine z_iadd S d_M_reaches_55 ?_
        refine z_lald (x := ((dg 1000000 (rr q) (n - 1) : Nat) : Int)) S hK 1 1 rfl rfl (q * 20 + (n - 1)) (by omega) (by omega) (by decide) (wkA_at rr (by omega)) d_M_reaches_56 ?_
        refine z_lstore (lv' := [(7, .long (zL ((dg 1000000 (rr q) (n - 1) : Nat) : Int))), (0, .ref mo), (1, .int (zI (q : Int))), (2, .int (zI (r : Int))), (3, .int (zI (sh : Int))), (6, .int (zI ((n : Int) - 1)))]) S d_M_reaches_57 (by decide) rfl ?_
        refine z_iload S d_M_reaches_59 5 rfl ?_
        refine z_iload_n S d_M_reaches_61 4 rfl ?_
        refine z_icmp_lt (tgt := 82) S d_M_reaches_62 (by decide) (by omega) (by omega) (fun c5 => ?_) (fun c5 => ?_)
        · skip
          refine z_lconst (z := 0) S d_M_reaches_82 rfl ?_
          refine z_tol (a := ((dg 1000000 (rr r * 1000000 ^ sh) (n - 1) : Nat) : Int)) (zL_c (by rw [dg_up (by decide), if_neg (by omega)]; rfl)) ?_
          refine z_lstore (lv' := [(9, .long (zL ((dg 1000000 (rr r * 1000000 ^ sh) (n - 1) : Nat) : Int))), (7, .long (zL ((dg 1000000 (rr q) (n - 1) : Nat) : Int))), (0, .ref mo), (1, .int (zI (q : Int))), (2, .int (zI (r : Int))), (3, .int (zI (sh : Int))), (6, .int (zI ((n : Int) - 1)))]) S d_M_reaches_83 (by decide) rfl ?_
          refine z_lload S d_M_reaches_85 1 rfl ?_
          refine z_lload S d_M_reaches_87 0 rfl ?_
          refine z_lcmp_eq (tgt := 107) S d_M_reaches_89 d_M_reaches_90 (by decide) (by omega) (by omega) (fun c6 => ?_) (fun c6 => ?_)
          · skip
            refine z_iinc (y := (n : Int) - 1 - 1) (lv' := [(6, .int (zI ((n : Int) - 1 - 1))), (9, .long (zL ((dg 1000000 (rr r * 1000000 ^ sh) (n - 1) : Nat) : Int))), (7, .long (zL ((dg 1000000 (rr q) (n - 1) : Nat) : Int))), (0, .ref mo), (1, .int (zI (q : Int))), (2, .int (zI (r : Int))), (3, .int (zI (sh : Int)))]) S d_M_reaches_107 6 rfl (by omega) (by decide) rfl ?_
            refine z_goto (tgt := 40) S d_M_reaches_110 (by decide) ?_
            refine z_lv (lv' := [(0, .ref mo), (1, .int (zI (q : Int))), (2, .int (zI (r : Int))), (3, .int (zI (sh : Int))), (6, .int (zI ((n : Int) - 1 - 1)))]) [3, 4, 5, 6, 0] rfl ?_
            refine z_lq (lv' := [(0, .ref mo), (1, .int (zI (q : Int))), (2, .int (zI (r : Int))), (3, .int (zI (sh : Int))), (6, .int (zI (((n - 1 : Nat) : Int) - 1)))]) (congrArg (fun zzz : Int => ([(0, .ref mo), (1, .int (zI (q : Int))), (2, .int (zI (r : Int))), (3, .int (zI (sh : Int))), (6, .int (zI zzz))] : List (Nat × Value))) (show ((n : Int) - 1 - 1 : Int) = ((n - 1 : Nat) : Int) - 1 by omega)) ?_
            exact ih40 (n - 1) (show ((n - 1) ≤ 20) ∧ (rr q / 1000000 ^ (n - 1) = (rr r * 1000000 ^ sh) / 1000000 ^ (n - 1)) from ⟨by omega, cmp_dn6 (by omega) he (by omega)⟩) (show (n - 1) < n from by omega)
          · skip
            refine z_lload S d_M_reaches_93 1 rfl ?_
            refine z_lload S d_M_reaches_95 0 rfl ?_
            refine z_lcmp_le (tgt := 105) S d_M_reaches_97 d_M_reaches_98 (by decide) (by omega) (by omega) (fun c7 => ?_) (fun c7 => ?_)
            · skip
              refine z_iconst S d_M_reaches_105 ?_
              have hc := cmp_dg6 (by omega) he (by omega)
              exact z_zret (w := [oM mo th mw (nv : Int) mg ma mb (ns : Int) mlo mhi (nw : Int) mwe mru mrd, aL cL mw 160 (wkA rr)]) S hr hlo hAe (by first | exact Or.inl rfl | exact Or.inr rfl) d_M_reaches_106 [0, 1] (by decide) rfl rfl ⟨Nat.le_refl _, Nat.le_refl _⟩ (⟨by rw [b2_f (by omega)], rfl⟩)
            · skip
              refine z_iconst S d_M_reaches_101 ?_
              refine z_goto (tgt := 106) S d_M_reaches_102 (by decide) ?_
              exact z_zret (w := [oM mo th mw (nv : Int) mg ma mb (ns : Int) mlo mhi (nw : Int) mwe mru mrd, aL cL mw 160 (wkA rr)]) S hr hlo hAe (by first | exact Or.inl rfl | exact Or.inr rfl) d_M_reaches_106 [0, 1] (by decide) rfl rfl ⟨Nat.le_refl _, Nat.le_refl _⟩ (⟨by rw [b2_t (Nat.le_of_lt (cmp_dg6 (by omega) he.symm (by omega)))], rfl⟩)
        · skip
          refine z_aload_n S d_M_reaches_65 1 rfl ?_
          refine z_get S hK la_M 0 rfl rfl 1 (by decide) k_M_7 rfl d_M_reaches_66 ?_
          refine z_iload_n S d_M_reaches_69 3 rfl ?_
          refine z_bipush S d_M_reaches_70 rfl ?_
          refine z_imul S d_M_reaches_72 ?_
          refine z_iload S d_M_reaches_73 5 rfl ?_
          refine z_iadd S d_M_reaches_75 ?_
          refine z_iload_n S d_M_reaches_76 4 rfl ?_
          refine z_isub S d_M_reaches_77 ?_
          refine z_lald (x := ((dg 1000000 (rr r) (n - 1 - sh) : Nat) : Int)) S hK 1 1 rfl rfl (r * 20 + (n - 1 - sh)) (by omega) (by omega) (by decide) (wkA_at rr (by omega)) d_M_reaches_78 ?_
          refine z_goto (tgt := 83) S d_M_reaches_79 (by decide) ?_
          refine z_tol (a := ((dg 1000000 (rr r * 1000000 ^ sh) (n - 1) : Nat) : Int)) (zL_c (by rw [dg_up (by decide), if_pos (by omega)])) ?_
          refine z_lstore (lv' := [(9, .long (zL ((dg 1000000 (rr r * 1000000 ^ sh) (n - 1) : Nat) : Int))), (7, .long (zL ((dg 1000000 (rr q) (n - 1) : Nat) : Int))), (0, .ref mo), (1, .int (zI (q : Int))), (2, .int (zI (r : Int))), (3, .int (zI (sh : Int))), (6, .int (zI ((n : Int) - 1)))]) S d_M_reaches_83 (by decide) rfl ?_
          refine z_lload S d_M_reaches_85 1 rfl ?_
          refine z_lload S d_M_reaches_87 0 rfl ?_
          refine z_lcmp_eq (tgt := 107) S d_M_reaches_89 d_M_reaches_90 (by decide) (by omega) (by omega) (fun c8 => ?_) (fun c8 => ?_)
          · skip
            refine z_iinc (y := (n : Int) - 1 - 1) (lv' := [(6, .int (zI ((n : Int) - 1 - 1))), (9, .long (zL ((dg 1000000 (rr r * 1000000 ^ sh) (n - 1) : Nat) : Int))), (7, .long (zL ((dg 1000000 (rr q) (n - 1) : Nat) : Int))), (0, .ref mo), (1, .int (zI (q : Int))), (2, .int (zI (r : Int))), (3, .int (zI (sh : Int)))]) S d_M_reaches_107 6 rfl (by omega) (by decide) rfl ?_
            refine z_goto (tgt := 40) S d_M_reaches_110 (by decide) ?_
            refine z_lv (lv' := [(0, .ref mo), (1, .int (zI (q : Int))), (2, .int (zI (r : Int))), (3, .int (zI (sh : Int))), (6, .int (zI ((n : Int) - 1 - 1)))]) [3, 4, 5, 6, 0] rfl ?_
            refine z_lq (lv' := [(0, .ref mo), (1, .int (zI (q : Int))), (2, .int (zI (r : Int))), (3, .int (zI (sh : Int))), (6, .int (zI (((n - 1 : Nat) : Int) - 1)))]) (congrArg (fun zzz : Int => ([(0, .ref mo), (1, .int (zI (q : Int))), (2, .int (zI (r : Int))), (3, .int (zI (sh : Int))), (6, .int (zI zzz))] : List (Nat × Value))) (show ((n : Int) - 1 - 1 : Int) = ((n - 1 : Nat) : Int) - 1 by omega)) ?_
            exact ih40 (n - 1) (show ((n - 1) ≤ 20) ∧ (rr q / 1000000 ^ (n - 1) = (rr r * 1000000 ^ sh) / 1000000 ^ (n - 1)) from ⟨by omega, cmp_dn6 (by omega) he (by omega)⟩) (show (n - 1) < n from by omega)
          · skip
            refine z_lload S d_M_reaches_93 1 rfl ?_
            refine z_lload S d_M_reaches_95 0 rfl ?_
            refine z_lcmp_le (tgt := 105) S d_M_reaches_97 d_M_reaches_98 (by decide) (by omega) (by omega) (fun c9 => ?_) (fun c9 => ?_)
            · skip
              refine z_iconst S d_M_reaches_105 ?_
              have hc := cmp_dg6 (by omega) he (by omega)
              exact z_zret (w := [oM mo th mw (nv : Int) mg ma mb (ns : Int) mlo mhi (nw : Int) mwe mru mrd, aL cL mw 160 (wkA rr)]) S hr hlo hAe (by first | exact Or.inl rfl | exact Or.inr rfl) d_M_reaches_106 [0, 1] (by decide) rfl rfl ⟨Nat.le_refl _, Nat.le_refl _⟩ (⟨by rw [b2_f (by omega)], rfl⟩)
            · skip
              refine z_iconst S d_M_reaches_101 ?_
              refine z_goto (tgt := 106) S d_M_reaches_102 (by decide) ?_
              exact z_zret (w := [oM mo th mw (nv : Int) mg ma mb (ns : Int) mlo mhi (nw : Int) mwe mru mrd, aL cL mw 160 (wkA rr)]) S hr hlo hAe (by first | exact Or.inl rfl | exact Or.inr rfl) d_M_reaches_106 [0, 1] (by decide) rfl rfl ⟨Nat.le_refl _, Nat.le_refl _⟩ (⟨by rw [b2_t (Nat.le_of_lt (cmp_dg6 (by omega) he.symm (by omega)))], rfl⟩)
  · skip
    refine z_iload S d_M_reaches_23 1 rfl ?_
    refine z_iload S d_M_reaches_25 0 rfl ?_
    refine z_icmp_le (tgt := 34) S d_M_reaches_27 (by decide) (by omega) (by omega) (fun c10 => ?_) (fun c10 => ?_)
    · skip
      refine z_iconst S d_M_reaches_34 ?_
      have hc := cmp_ul6 hq (Or.inl h0) (sh := sh) (by omega)
      rw [Nat.div_lt_iff_lt_mul (Nat.pow_pos (by decide))] at hc
      exact z_zret (w := [oM mo th mw (nv : Int) mg ma mb (ns : Int) mlo mhi (nw : Int) mwe mru mrd, aL cL mw 160 (wkA rr)]) S hr hlo hAe (by first | exact Or.inl rfl | exact Or.inr rfl) d_M_reaches_35 [0, 1] (by decide) rfl rfl ⟨Nat.le_refl _, Nat.le_refl _⟩ (⟨by rw [b2_f (by omega)], rfl⟩)
    · skip
      refine z_iconst S d_M_reaches_30 ?_
      refine z_goto (tgt := 35) S d_M_reaches_31 (by decide) ?_
      have hc := cmp_ug6 hrr (t := rr q) (sh := sh) (by omega)
      have hc2 : (rr r * 1000000 ^ sh) ≤ rr q := Nat.le_trans (Nat.mul_le_mul_right _ (Nat.le_of_lt hc)) (Nat.div_mul_le_self _ _)
      exact z_zret (w := [oM mo th mw (nv : Int) mg ma mb (ns : Int) mlo mhi (nw : Int) mwe mru mrd, aL cL mw 160 (wkA rr)]) S hr hlo hAe (by first | exact Or.inl rfl | exact Or.inr rfl) d_M_reaches_35 [0, 1] (by decide) rfl rfl ⟨Nat.le_refl _, Nat.le_refl _⟩ (⟨by rw [b2_t (hc2)], rfl⟩)
set_option maxHeartbeats 4000000 in
set_option maxRecDepth 100000 in
theorem s_M_often (l : Launch) (dC : Nat → ClassId) (dI : Nat → Nat → Nat) (cI cL : ClassId) (qT : Nat) (mo : Nat) (mw : Nat) (nv : Nat) (ma : Nat) (mb : Nat) (ns : Nat) (mlo : Nat) (mhi : Nat) (nw : Nat) (mwe : Nat) (mru : Nat) (mrd : Nat) (th : Int) (mg : Nat) (rr : Nat → Nat) (q : Nat) (r : Nat) (sh : Nat) (hq8 : q < 8) (hr8 : r < 8) (hq : rr q < 1000000 ^ 20) (hrr : rr r < 1000000 ^ 20) (h0 : 0 < rr r) (hle : (rr r * 1000000 ^ sh) ≤ rr q) (hlt : rr q < rr r * 1000000 ^ (sh + 1)) (hsh : sh ≤ 20) : Ct l y_M_often (Cond.code y_M_often c_M_often 11 (some .long) :: zB) { frames := 1, cells := 0, slots := 0, locals := 22 } (dC, dI) zcl [(cI, .int), (cL, .long)] (zG cI cL qT) [.ref mo, .int (zI (q : Int)), .int (zI (r : Int)), .int (zI (sh : Int))] [oM mo th mw (nv : Int) mg ma mb (ns : Int) mlo mhi (nw : Int) mwe mru mrd, aL cL mw 160 (wkA rr)] (fun rv wv => ∃ gq : Nat, (1 ≤ gq) ∧ (gq * (rr r * 1000000 ^ sh) ≤ rr q) ∧ rv = .long (zL (gq : Int)) ∧ wv = [oM mo th mw (nv : Int) mg ma mb (ns : Int) mlo mhi (nw : Int) mwe mru mrd, aL cL mw 160 (wkA rr)]) 0 0 := by
  refine Cm.ofZ (cc := c_M_often) (maxL := 11) (ret := (some .long)) (by decide) rfl (Nat.le_of_ble_eq_true rfl) rfl ?_
  intro p e s m below meth c A S hr hlo hnm hK hg hA hAe
  have hGok := zG_ok cI cL qT
  show ZZ _ _ _ _ _ _ _ _ _ _ _ _ _ _ _ _ _ _ 0 [(0, .ref mo), (1, .int (zI (q : Int))), (2, .int (zI (r : Int))), (3, .int (zI (sh : Int)))] [] [oM mo th mw (nv : Int) mg ma mb (ns : Int) mlo mhi (nw : Int) mwe mru mrd, aL cL mw 160 (wkA rr)]
  have hu1 := tp_le (rr q)
  have hu2 := tp_le (rr r)
  have hz0 := (tp_nz hrr h0).1
  refine z_aload_n S d_M_often_0 0 rfl ?_
  refine z_iload_n S d_M_often_1 2 rfl ?_
  refine z_callVa (As := [.int (zI (r : Int))]) (st := []) (wc := [oM mo th mw (nv : Int) mg ma mb (ns : Int) mlo mhi (nw : Int) mwe mru mrd, aL cL mw 160 (wkA rr)]) (wr := []) S hGok hK hg hA (s_M_top l dC dI cI cL qT mo mw nv ma mb ns mlo mhi nw mwe mru mrd th mg rr r (by omega)) (zcwV S (List.mem_cons_of_mem _ k_M_56) mV_M_top k_M_56 hd_M_top rfl rfl ⟨Nat.le_of_ble_eq_true rfl, Nat.le_of_ble_eq_true rfl⟩) rfl (Nat.le_of_ble_eq_true rfl) d_M_often_2 ⟨Nat.le_of_ble_eq_true rfl, Nat.le_of_ble_eq_true rfl⟩ rfl [0, 1] [] 0 rfl rfl rfl (by decide) rfl rfl rfl (by decide) (by decide) (fun x w hp => ?_)
  obtain ⟨rfl, rfl⟩ := hp
  show ZZ _ _ _ _ _ _ _ _ _ _ _ _ _ _ _ _ _ _ 5 [(0, .ref mo), (1, .int (zI (q : Int))), (2, .int (zI (r : Int))), (3, .int (zI (sh : Int)))] [.int (zI (((tp (rr r) : Nat) : Int) - 1))] [oM mo th mw (nv : Int) mg ma mb (ns : Int) mlo mhi (nw : Int) mwe mru mrd, aL cL mw 160 (wkA rr)]
  refine z_topi (fun x1 ex1 => ?_)
  refine z_istore (lv' := [(4, .int (zI x1)), (0, .ref mo), (1, .int (zI (q : Int))), (2, .int (zI (r : Int))), (3, .int (zI (sh : Int)))]) S d_M_often_5 (by decide) rfl ?_
  obtain ⟨t1, ht1⟩ : ∃ t1 : Nat, tp (rr r) = t1 + 1 := ⟨tp (rr r) - 1, by omega⟩
  refine z_lq (lv' := [(4, .int (zI (t1 : Int))), (0, .ref mo), (1, .int (zI (q : Int))), (2, .int (zI (r : Int))), (3, .int (zI (sh : Int)))]) (congrArg (fun zzz : Int => ([(4, .int (zI zzz)), (0, .ref mo), (1, .int (zI (q : Int))), (2, .int (zI (r : Int))), (3, .int (zI (sh : Int)))] : List (Nat × Value))) (show x1 = (t1 : Int) by omega)) ?_
  have a1 := tp_lt hrr
  have a2 := tp_ge (v := rr r) (by omega)
  rw [ht1] at a1 a2
  rw [Nat.add_sub_cancel] at a2
  have hts : t1 + sh ≤ 19 := by
    rcases Nat.lt_or_ge (t1 + sh) 20 with z | z
    · omega
    · have b1 := pw_le (b := 1000000) (by decide) z
      rw [Nat.pow_add] at b1
      have b2 := Nat.mul_le_mul_right (1000000 ^ sh) a2
      omega
  have hqb : rr q < 1000000 ^ (t1 + sh + 2) := by
    have b2 := Nat.mul_lt_mul_of_pos_right a1 (show 0 < 1000000 ^ (sh + 1) from Nat.pow_pos (by decide))
    rw [← Nat.pow_add, show t1 + 1 + (sh + 1) = t1 + sh + 2 by omega] at b2
    omega
  have e1 := dv_e 1000000 (rr q) (t1 + sh)
  have e2 : dg 1000000 (rr q) (t1 + sh + 1) = rr q / 1000000 ^ (t1 + sh + 1) := dg_top hqb
  have e3 : dg 1000000 (rr r) t1 = rr r / 1000000 ^ t1 := dg_top a1
  have u1 := dv_b (k := t1 + sh) (n := 2) hqb
  have d1 := dv_b (k := t1) (n := 1) a1
  have d2 : 0 < rr r / 1000000 ^ t1 := Nat.div_pos a2 (Nat.pow_pos (by decide))
  have e12 : (1000000 : Nat) ^ 2 = 1000000000000 := by decide
  have e11 : (1000000 : Nat) ^ 1 = 1000000 := by decide
  have e13 : (1000000 : Nat) ^ 3 = 1000000000000000000 := by decide
  refine z_iload S d_M_often_7 0 rfl ?_
  refine z_iload_n S d_M_often_9 4 rfl ?_
  refine z_iadd S d_M_often_10 ?_
  refine z_iconst S d_M_often_11 ?_
  refine z_iadd S d_M_often_12 ?_
  refine z_bipush S d_M_often_13 rfl ?_
  refine z_icmp_ge (tgt := 37) S d_M_often_15 (by decide) (by omega) (by omega) (fun c2 => ?_) (fun c2 => ?_)
  · skip
    refine z_lconst (z := 0) S d_M_often_37 rfl ?_
    refine z_tol (a := ((dg 1000000 (rr q) (t1 + sh + 1) : Nat) : Int)) (zL_c (by rw [dg_hi (n := 20) (by decide) hq (by omega)]; rfl)) ?_
    refine z_lstore (lv' := [(5, .long (zL ((dg 1000000 (rr q) (t1 + sh + 1) : Nat) : Int))), (4, .int (zI (t1 : Int))), (0, .ref mo), (1, .int (zI (q : Int))), (2, .int (zI (r : Int))), (3, .int (zI (sh : Int)))]) S d_M_often_38 (by decide) rfl ?_
    refine z_lload S d_M_often_40 0 rfl ?_
    refine z_ldc2 (v := 1000000) (z := 1000000) S k_M_54 d_M_often_42 (by decide) ?_
    refine z_lmul S d_M_often_45 ?_
    refine z_aload_n S d_M_often_46 2 rfl ?_
    refine z_get S hK la_M 0 rfl rfl 1 (by decide) k_M_7 rfl d_M_often_47 ?_
    refine z_iload_n S d_M_often_50 3 rfl ?_
    refine z_bipush S d_M_often_51 rfl ?_
    refine z_imul S d_M_often_53 ?_
    refine z_iload S d_M_often_54 1 rfl ?_
    refine z_iadd S d_M_often_56 ?_
    refine z_iload_n S d_M_often_57 5 rfl ?_
    refine z_iadd S d_M_often_58 ?_
    refine z_lald (x := ((dg 1000000 (rr q) (t1 + sh) : Nat) : Int)) S hK 1 1 rfl rfl (q * 20 + (t1 + sh)) (by omega) (by omega) (by decide) (wkA_at rr (by omega)) d_M_often_59 ?_
    refine z_ladd S d_M_often_60 ?_
    refine z_tol (a := ((rr q / 1000000 ^ (t1 + sh) : Nat) : Int)) (zL_c (by omega)) ?_
    refine z_lstore (lv' := [(5, .long (zL ((rr q / 1000000 ^ (t1 + sh) : Nat) : Int))), (4, .int (zI (t1 : Int))), (0, .ref mo), (1, .int (zI (q : Int))), (2, .int (zI (r : Int))), (3, .int (zI (sh : Int)))]) S d_M_often_61 (by decide) rfl ?_
    refine z_aload_n S d_M_often_63 2 rfl ?_
    refine z_get S hK la_M 0 rfl rfl 1 (by decide) k_M_7 rfl d_M_often_64 ?_
    refine z_iload_n S d_M_often_67 4 rfl ?_
    refine z_bipush S d_M_often_68 rfl ?_
    refine z_imul S d_M_often_70 ?_
    refine z_iload S d_M_often_71 1 rfl ?_
    refine z_iadd S d_M_often_73 ?_
    refine z_lald (x := ((dg 1000000 (rr r) t1 : Nat) : Int)) S hK 1 1 rfl rfl (r * 20 + t1) (by omega) (by omega) (by decide) (wkA_at rr (by omega)) d_M_often_74 ?_
    refine z_tol (a := ((rr r / 1000000 ^ t1 : Nat) : Int)) (zL_c (by omega)) ?_
    refine z_lstore (lv' := [(7, .long (zL ((rr r / 1000000 ^ t1 : Nat) : Int))), (5, .long (zL ((rr q / 1000000 ^ (t1 + sh) : Nat) : Int))), (4, .int (zI (t1 : Int))), (0, .ref mo), (1, .int (zI (q : Int))), (2, .int (zI (r : Int))), (3, .int (zI (sh : Int)))]) S d_M_often_75 (by decide) rfl ?_
    refine z_iload S d_M_often_77 2 rfl ?_
    refine z_if_le (tgt := 132) S d_M_often_79 (by decide) (by omega) (fun c3 => ?_) (fun c3 => ?_)
    · skip
      refine z_lload S d_M_often_132 1 rfl ?_
      refine z_lload S d_M_often_134 0 rfl ?_
      refine z_ldiv S d_M_often_136 ⟨Int.natCast_nonneg _, by first | omega | (rw [ek]; omega)⟩ (by first | omega | (rw [ek]; omega)) ?_
      have ht0 : t1 = 0 := by omega
      obtain ⟨g, hgd⟩ : ∃ g : Nat, g = rr q / 1000000 ^ (t1 + sh) / (rr r / 1000000 ^ t1) := ⟨_, rfl⟩
      have hg1 : g * (rr r * 1000000 ^ sh) ≤ rr q := by rw [hgd, ht0, Nat.zero_add, Nat.pow_zero, Nat.div_one]; exact of_up0
      have hgB : g < 9223372036854775808 := by rw [hgd]; exact Nat.lt_of_le_of_lt (Nat.div_le_self _ _) (by omega)
      refine z_tol (a := (g : Int)) (zL_c (by rw [hgd]; exact (Int.natCast_ediv _ _).symm)) ?_
      refine z_lstore (lv' := [(9, .long (zL (g : Int))), (7, .long (zL ((rr r / 1000000 ^ t1 : Nat) : Int))), (5, .long (zL ((rr q / 1000000 ^ (t1 + sh) : Nat) : Int))), (4, .int (zI (t1 : Int))), (0, .ref mo), (1, .int (zI (q : Int))), (2, .int (zI (r : Int))), (3, .int (zI (sh : Int)))]) S d_M_often_137 (by decide) rfl ?_
      refine z_lload S d_M_often_139 0 rfl ?_
      refine z_lconst (z := 0) S d_M_often_141 rfl ?_
      refine z_lcmp_le (tgt := 151) S d_M_often_142 d_M_often_143 (by decide) (by omega) (by omega) (fun c4 => ?_) (fun c4 => ?_)
      · skip
        refine z_lconst (z := 1) S d_M_often_151 rfl ?_
        exact z_lret (w := [oM mo th mw (nv : Int) mg ma mb (ns : Int) mlo mhi (nw : Int) mwe mru mrd, aL cL mw 160 (wkA rr)]) S hr hlo hAe d_M_often_152 [0, 1] (by decide) rfl rfl ⟨Nat.le_refl _, Nat.le_refl _⟩ (⟨1, Nat.le_refl _, by rw [Nat.one_mul]; exact hle, rfl, rfl⟩)
      · skip
        refine z_lload S d_M_often_146 0 rfl ?_
        refine z_goto (tgt := 152) S d_M_often_148 (by decide) ?_
        exact z_lret (w := [oM mo th mw (nv : Int) mg ma mb (ns : Int) mlo mhi (nw : Int) mwe mru mrd, aL cL mw 160 (wkA rr)]) S hr hlo hAe d_M_often_152 [0, 1] (by decide) rfl rfl ⟨Nat.le_refl _, Nat.le_refl _⟩ (⟨g, by omega, hg1, rfl, rfl⟩)
    · skip
      obtain ⟨k, hk⟩ : ∃ k, t1 = k + 1 := ⟨t1 - 1, by omega⟩
      have e4 := dv_e 1000000 (rr q) (k + sh)
      rw [show k + sh + 1 = t1 + sh by omega] at e4
      have e5 := dv_e 1000000 (rr r) k
      rw [← hk] at e5
      have ek : t1 - 1 = k := by omega
      have u2 := dv_b (k := k + sh) (n := 3) (v := rr q) (by rw [show k + sh + 3 = t1 + sh + 2 by omega]; exact hqb)
      have d3 := dv_b (k := k) (n := 2) (v := rr r) (by rw [show k + 2 = t1 + 1 by omega]; exact a1)
      refine z_lload S d_M_often_82 1 rfl ?_
      refine z_ldc2 (v := 1000000) (z := 1000000) S k_M_54 d_M_often_84 (by decide) ?_
      refine z_lmul S d_M_often_87 ?_
      refine z_aload_n S d_M_often_88 3 rfl ?_
      refine z_get S hK la_M 0 rfl rfl 1 (by decide) k_M_7 rfl d_M_often_89 ?_
      refine z_iload_n S d_M_often_92 4 rfl ?_
      refine z_bipush S d_M_often_93 rfl ?_
      refine z_imul S d_M_often_95 ?_
      refine z_iload S d_M_often_96 2 rfl ?_
      refine z_iadd S d_M_often_98 ?_
      refine z_iload_n S d_M_often_99 6 rfl ?_
      refine z_iadd S d_M_often_100 ?_
      refine z_iconst S d_M_often_101 ?_
      refine z_isub S d_M_often_102 ?_
      refine z_lald (x := ((dg 1000000 (rr q) (k + sh) : Nat) : Int)) S hK 1 1 rfl rfl (q * 20 + (k + sh)) (by omega) (by omega) (by decide) (wkA_at rr (by omega)) d_M_often_103 ?_
      refine z_ladd S d_M_often_104 ?_
      refine z_tol (a := ((rr q / 1000000 ^ (t1 - 1 + sh) : Nat) : Int)) (zL_c (by rw [ek]; omega)) ?_
      refine z_lstore (lv' := [(5, .long (zL ((rr q / 1000000 ^ (t1 - 1 + sh) : Nat) : Int))), (7, .long (zL ((rr r / 1000000 ^ t1 : Nat) : Int))), (4, .int (zI (t1 : Int))), (0, .ref mo), (1, .int (zI (q : Int))), (2, .int (zI (r : Int))), (3, .int (zI (sh : Int)))]) S d_M_often_105 (by decide) rfl ?_
      refine z_lload S d_M_often_107 1 rfl ?_
      refine z_ldc2 (v := 1000000) (z := 1000000) S k_M_54 d_M_often_109 (by decide) ?_
      refine z_lmul S d_M_often_112 ?_
      refine z_aload_n S d_M_often_113 3 rfl ?_
      refine z_get S hK la_M 0 rfl rfl 1 (by decide) k_M_7 rfl d_M_often_114 ?_
      refine z_iload_n S d_M_often_117 5 rfl ?_
      refine z_bipush S d_M_often_118 rfl ?_
      refine z_imul S d_M_often_120 ?_
      refine z_iload S d_M_often_121 2 rfl ?_
      refine z_iadd S d_M_often_123 ?_
      refine z_iconst S d_M_often_124 ?_
      refine z_isub S d_M_often_125 ?_
      refine z_lald (x := ((dg 1000000 (rr r) k : Nat) : Int)) S hK 1 1 rfl rfl (r * 20 + k) (by omega) (by omega) (by decide) (wkA_at rr (by omega)) d_M_often_126 ?_
      refine z_ladd S d_M_often_127 ?_
      refine z_lconst (z := 1) S d_M_often_128 rfl ?_
      refine z_ladd S d_M_often_129 ?_
      refine z_tol (a := ((rr r / 1000000 ^ (t1 - 1) + 1 : Nat) : Int)) (zL_c (by rw [ek]; omega)) ?_
      refine z_lstore (lv' := [(7, .long (zL ((rr r / 1000000 ^ (t1 - 1) + 1 : Nat) : Int))), (5, .long (zL ((rr q / 1000000 ^ (t1 - 1 + sh) : Nat) : Int))), (4, .int (zI (t1 : Int))), (0, .ref mo), (1, .int (zI (q : Int))), (2, .int (zI (r : Int))), (3, .int (zI (sh : Int)))]) S d_M_often_130 (by decide) rfl ?_
      refine z_lload S d_M_often_132 1 rfl ?_
      refine z_lload S d_M_often_134 0 rfl ?_
      refine z_ldiv S d_M_often_136 ⟨Int.natCast_nonneg _, by first | omega | (rw [ek]; omega)⟩ (by first | omega | (rw [ek]; omega)) ?_
      obtain ⟨g, hgd⟩ : ∃ g : Nat, g = rr q / 1000000 ^ (t1 - 1 + sh) / (rr r / 1000000 ^ (t1 - 1) + 1) := ⟨_, rfl⟩
      have hg1 : g * (rr r * 1000000 ^ sh) ≤ rr q := by rw [hgd]; exact of_up (by decide) (Nat.div_mul_le_self _ _)
      have hgB : g < 9223372036854775808 := by rw [hgd, ek]; exact Nat.lt_of_le_of_lt (Nat.div_le_self _ _) (by omega)
      refine z_tol (a := (g : Int)) (zL_c (by rw [hgd]; exact (Int.natCast_ediv _ _).symm)) ?_
      refine z_lstore (lv' := [(9, .long (zL (g : Int))), (7, .long (zL ((rr r / 1000000 ^ (t1 - 1) + 1 : Nat) : Int))), (5, .long (zL ((rr q / 1000000 ^ (t1 - 1 + sh) : Nat) : Int))), (4, .int (zI (t1 : Int))), (0, .ref mo), (1, .int (zI (q : Int))), (2, .int (zI (r : Int))), (3, .int (zI (sh : Int)))]) S d_M_often_137 (by decide) rfl ?_
      refine z_lload S d_M_often_139 0 rfl ?_
      refine z_lconst (z := 0) S d_M_often_141 rfl ?_
      refine z_lcmp_le (tgt := 151) S d_M_often_142 d_M_often_143 (by decide) (by omega) (by omega) (fun c5 => ?_) (fun c5 => ?_)
      · skip
        refine z_lconst (z := 1) S d_M_often_151 rfl ?_
        exact z_lret (w := [oM mo th mw (nv : Int) mg ma mb (ns : Int) mlo mhi (nw : Int) mwe mru mrd, aL cL mw 160 (wkA rr)]) S hr hlo hAe d_M_often_152 [0, 1] (by decide) rfl rfl ⟨Nat.le_refl _, Nat.le_refl _⟩ (⟨1, Nat.le_refl _, by rw [Nat.one_mul]; exact hle, rfl, rfl⟩)
      · skip
        refine z_lload S d_M_often_146 0 rfl ?_
        refine z_goto (tgt := 152) S d_M_often_148 (by decide) ?_
        exact z_lret (w := [oM mo th mw (nv : Int) mg ma mb (ns : Int) mlo mhi (nw : Int) mwe mru mrd, aL cL mw 160 (wkA rr)]) S hr hlo hAe d_M_often_152 [0, 1] (by decide) rfl rfl ⟨Nat.le_refl _, Nat.le_refl _⟩ (⟨g, by omega, hg1, rfl, rfl⟩)
  · skip
    refine z_aload_n S d_M_often_18 1 rfl ?_
    refine z_get S hK la_M 0 rfl rfl 1 (by decide) k_M_7 rfl d_M_often_19 ?_
    refine z_iload_n S d_M_often_22 2 rfl ?_
    refine z_bipush S d_M_often_23 rfl ?_
    refine z_imul S d_M_often_25 ?_
    refine z_iload S d_M_often_26 0 rfl ?_
    refine z_iadd S d_M_often_28 ?_
    refine z_iload_n S d_M_often_29 4 rfl ?_
    refine z_iadd S d_M_often_30 ?_
    refine z_iconst S d_M_often_31 ?_
    refine z_iadd S d_M_often_32 ?_
    refine z_lald (x := ((dg 1000000 (rr q) (t1 + sh + 1) : Nat) : Int)) S hK 1 1 rfl rfl (q * 20 + (t1 + sh + 1)) (by omega) (by omega) (by decide) (wkA_at rr (by omega)) d_M_often_33 ?_
    refine z_goto (tgt := 38) S d_M_often_34 (by decide) ?_
    refine z_lstore (lv' := [(5, .long (zL ((dg 1000000 (rr q) (t1 + sh + 1) : Nat) : Int))), (4, .int (zI (t1 : Int))), (0, .ref mo), (1, .int (zI (q : Int))), (2, .int (zI (r : Int))), (3, .int (zI (sh : Int)))]) S d_M_often_38 (by decide) rfl ?_
    refine z_lload S d_M_often_40 0 rfl ?_
    refine z_ldc2 (v := 1000000) (z := 1000000) S k_M_54 d_M_often_42 (by decide) ?_
    refine z_lmul S d_M_often_45 ?_
    refine z_aload_n S d_M_often_46 2 rfl ?_
    refine z_get S hK la_M 0 rfl rfl 1 (by decide) k_M_7 rfl d_M_often_47 ?_
    refine z_iload_n S d_M_often_50 3 rfl ?_
    refine z_bipush S d_M_often_51 rfl ?_
    refine z_imul S d_M_often_53 ?_
    refine z_iload S d_M_often_54 1 rfl ?_
    refine z_iadd S d_M_often_56 ?_
    refine z_iload_n S d_M_often_57 5 rfl ?_
    refine z_iadd S d_M_often_58 ?_
    refine z_lald (x := ((dg 1000000 (rr q) (t1 + sh) : Nat) : Int)) S hK 1 1 rfl rfl (q * 20 + (t1 + sh)) (by omega) (by omega) (by decide) (wkA_at rr (by omega)) d_M_often_59 ?_
    refine z_ladd S d_M_often_60 ?_
    refine z_tol (a := ((rr q / 1000000 ^ (t1 + sh) : Nat) : Int)) (zL_c (by omega)) ?_
    refine z_lstore (lv' := [(5, .long (zL ((rr q / 1000000 ^ (t1 + sh) : Nat) : Int))), (4, .int (zI (t1 : Int))), (0, .ref mo), (1, .int (zI (q : Int))), (2, .int (zI (r : Int))), (3, .int (zI (sh : Int)))]) S d_M_often_61 (by decide) rfl ?_
    refine z_aload_n S d_M_often_63 2 rfl ?_
    refine z_get S hK la_M 0 rfl rfl 1 (by decide) k_M_7 rfl d_M_often_64 ?_
    refine z_iload_n S d_M_often_67 4 rfl ?_
    refine z_bipush S d_M_often_68 rfl ?_
    refine z_imul S d_M_often_70 ?_
    refine z_iload S d_M_often_71 1 rfl ?_
    refine z_iadd S d_M_often_73 ?_
    refine z_lald (x := ((dg 1000000 (rr r) t1 : Nat) : Int)) S hK 1 1 rfl rfl (r * 20 + t1) (by omega) (by omega) (by decide) (wkA_at rr (by omega)) d_M_often_74 ?_
    refine z_tol (a := ((rr r / 1000000 ^ t1 : Nat) : Int)) (zL_c (by omega)) ?_
    refine z_lstore (lv' := [(7, .long (zL ((rr r / 1000000 ^ t1 : Nat) : Int))), (5, .long (zL ((rr q / 1000000 ^ (t1 + sh) : Nat) : Int))), (4, .int (zI (t1 : Int))), (0, .ref mo), (1, .int (zI (q : Int))), (2, .int (zI (r : Int))), (3, .int (zI (sh : Int)))]) S d_M_often_75 (by decide) rfl ?_
    refine z_iload S d_M_often_77 2 rfl ?_
    refine z_if_le (tgt := 132) S d_M_often_79 (by decide) (by omega) (fun c6 => ?_) (fun c6 => ?_)
    · skip
      refine z_lload S d_M_often_132 1 rfl ?_
      refine z_lload S d_M_often_134 0 rfl ?_
      refine z_ldiv S d_M_often_136 ⟨Int.natCast_nonneg _, by first | omega | (rw [ek]; omega)⟩ (by first | omega | (rw [ek]; omega)) ?_
      have ht0 : t1 = 0 := by omega
      obtain ⟨g, hgd⟩ : ∃ g : Nat, g = rr q / 1000000 ^ (t1 + sh) / (rr r / 1000000 ^ t1) := ⟨_, rfl⟩
      have hg1 : g * (rr r * 1000000 ^ sh) ≤ rr q := by rw [hgd, ht0, Nat.zero_add, Nat.pow_zero, Nat.div_one]; exact of_up0
      have hgB : g < 9223372036854775808 := by rw [hgd]; exact Nat.lt_of_le_of_lt (Nat.div_le_self _ _) (by omega)
      refine z_tol (a := (g : Int)) (zL_c (by rw [hgd]; exact (Int.natCast_ediv _ _).symm)) ?_
      refine z_lstore (lv' := [(9, .long (zL (g : Int))), (7, .long (zL ((rr r / 1000000 ^ t1 : Nat) : Int))), (5, .long (zL ((rr q / 1000000 ^ (t1 + sh) : Nat) : Int))), (4, .int (zI (t1 : Int))), (0, .ref mo), (1, .int (zI (q : Int))), (2, .int (zI (r : Int))), (3, .int (zI (sh : Int)))]) S d_M_often_137 (by decide) rfl ?_
      refine z_lload S d_M_often_139 0 rfl ?_
      refine z_lconst (z := 0) S d_M_often_141 rfl ?_
      refine z_lcmp_le (tgt := 151) S d_M_often_142 d_M_often_143 (by decide) (by omega) (by omega) (fun c7 => ?_) (fun c7 => ?_)
      · skip
        refine z_lconst (z := 1) S d_M_often_151 rfl ?_
        exact z_lret (w := [oM mo th mw (nv : Int) mg ma mb (ns : Int) mlo mhi (nw : Int) mwe mru mrd, aL cL mw 160 (wkA rr)]) S hr hlo hAe d_M_often_152 [0, 1] (by decide) rfl rfl ⟨Nat.le_refl _, Nat.le_refl _⟩ (⟨1, Nat.le_refl _, by rw [Nat.one_mul]; exact hle, rfl, rfl⟩)
      · skip
        refine z_lload S d_M_often_146 0 rfl ?_
        refine z_goto (tgt := 152) S d_M_often_148 (by decide) ?_
        exact z_lret (w := [oM mo th mw (nv : Int) mg ma mb (ns : Int) mlo mhi (nw : Int) mwe mru mrd, aL cL mw 160 (wkA rr)]) S hr hlo hAe d_M_often_152 [0, 1] (by decide) rfl rfl ⟨Nat.le_refl _, Nat.le_refl _⟩ (⟨g, by omega, hg1, rfl, rfl⟩)
    · skip
      obtain ⟨k, hk⟩ : ∃ k, t1 = k + 1 := ⟨t1 - 1, by omega⟩
      have e4 := dv_e 1000000 (rr q) (k + sh)
      rw [show k + sh + 1 = t1 + sh by omega] at e4
      have e5 := dv_e 1000000 (rr r) k
      rw [← hk] at e5
      have ek : t1 - 1 = k := by omega
      have u2 := dv_b (k := k + sh) (n := 3) (v := rr q) (by rw [show k + sh + 3 = t1 + sh + 2 by omega]; exact hqb)
      have d3 := dv_b (k := k) (n := 2) (v := rr r) (by rw [show k + 2 = t1 + 1 by omega]; exact a1)
      refine z_lload S d_M_often_82 1 rfl ?_
      refine z_ldc2 (v := 1000000) (z := 1000000) S k_M_54 d_M_often_84 (by decide) ?_
      refine z_lmul S d_M_often_87 ?_
      refine z_aload_n S d_M_often_88 3 rfl ?_
      refine z_get S hK la_M 0 rfl rfl 1 (by decide) k_M_7 rfl d_M_often_89 ?_
      refine z_iload_n S d_M_often_92 4 rfl ?_
      refine z_bipush S d_M_often_93 rfl ?_
      refine z_imul S d_M_often_95 ?_
      refine z_iload S d_M_often_96 2 rfl ?_
      refine z_iadd S d_M_often_98 ?_
      refine z_iload_n S d_M_often_99 6 rfl ?_
      refine z_iadd S d_M_often_100 ?_
      refine z_iconst S d_M_often_101 ?_
      refine z_isub S d_M_often_102 ?_
      refine z_lald (x := ((dg 1000000 (rr q) (k + sh) : Nat) : Int)) S hK 1 1 rfl rfl (q * 20 + (k + sh)) (by omega) (by omega) (by decide) (wkA_at rr (by omega)) d_M_often_103 ?_
      refine z_ladd S d_M_often_104 ?_
      refine z_tol (a := ((rr q / 1000000 ^ (t1 - 1 + sh) : Nat) : Int)) (zL_c (by rw [ek]; omega)) ?_
      refine z_lstore (lv' := [(5, .long (zL ((rr q / 1000000 ^ (t1 - 1 + sh) : Nat) : Int))), (7, .long (zL ((rr r / 1000000 ^ t1 : Nat) : Int))), (4, .int (zI (t1 : Int))), (0, .ref mo), (1, .int (zI (q : Int))), (2, .int (zI (r : Int))), (3, .int (zI (sh : Int)))]) S d_M_often_105 (by decide) rfl ?_
      refine z_lload S d_M_often_107 1 rfl ?_
      refine z_ldc2 (v := 1000000) (z := 1000000) S k_M_54 d_M_often_109 (by decide) ?_
      refine z_lmul S d_M_often_112 ?_
      refine z_aload_n S d_M_often_113 3 rfl ?_
      refine z_get S hK la_M 0 rfl rfl 1 (by decide) k_M_7 rfl d_M_often_114 ?_
      refine z_iload_n S d_M_often_117 5 rfl ?_
      refine z_bipush S d_M_often_118 rfl ?_
      refine z_imul S d_M_often_120 ?_
      refine z_iload S d_M_often_121 2 rfl ?_
      refine z_iadd S d_M_often_123 ?_
      refine z_iconst S d_M_often_124 ?_
      refine z_isub S d_M_often_125 ?_
      refine z_lald (x := ((dg 1000000 (rr r) k : Nat) : Int)) S hK 1 1 rfl rfl (r * 20 + k) (by omega) (by omega) (by decide) (wkA_at rr (by omega)) d_M_often_126 ?_
      refine z_ladd S d_M_often_127 ?_
      refine z_lconst (z := 1) S d_M_often_128 rfl ?_
      refine z_ladd S d_M_often_129 ?_
      refine z_tol (a := ((rr r / 1000000 ^ (t1 - 1) + 1 : Nat) : Int)) (zL_c (by rw [ek]; omega)) ?_
      refine z_lstore (lv' := [(7, .long (zL ((rr r / 1000000 ^ (t1 - 1) + 1 : Nat) : Int))), (5, .long (zL ((rr q / 1000000 ^ (t1 - 1 + sh) : Nat) : Int))), (4, .int (zI (t1 : Int))), (0, .ref mo), (1, .int (zI (q : Int))), (2, .int (zI (r : Int))), (3, .int (zI (sh : Int)))]) S d_M_often_130 (by decide) rfl ?_
      refine z_lload S d_M_often_132 1 rfl ?_
      refine z_lload S d_M_often_134 0 rfl ?_
      refine z_ldiv S d_M_often_136 ⟨Int.natCast_nonneg _, by first | omega | (rw [ek]; omega)⟩ (by first | omega | (rw [ek]; omega)) ?_
      obtain ⟨g, hgd⟩ : ∃ g : Nat, g = rr q / 1000000 ^ (t1 - 1 + sh) / (rr r / 1000000 ^ (t1 - 1) + 1) := ⟨_, rfl⟩
      have hg1 : g * (rr r * 1000000 ^ sh) ≤ rr q := by rw [hgd]; exact of_up (by decide) (Nat.div_mul_le_self _ _)
      have hgB : g < 9223372036854775808 := by rw [hgd, ek]; exact Nat.lt_of_le_of_lt (Nat.div_le_self _ _) (by omega)
      refine z_tol (a := (g : Int)) (zL_c (by rw [hgd]; exact (Int.natCast_ediv _ _).symm)) ?_
      refine z_lstore (lv' := [(9, .long (zL (g : Int))), (7, .long (zL ((rr r / 1000000 ^ (t1 - 1) + 1 : Nat) : Int))), (5, .long (zL ((rr q / 1000000 ^ (t1 - 1 + sh) : Nat) : Int))), (4, .int (zI (t1 : Int))), (0, .ref mo), (1, .int (zI (q : Int))), (2, .int (zI (r : Int))), (3, .int (zI (sh : Int)))]) S d_M_often_137 (by decide) rfl ?_
      refine z_lload S d_M_often_139 0 rfl ?_
      refine z_lconst (z := 0) S d_M_often_141 rfl ?_
      refine z_lcmp_le (tgt := 151) S d_M_often_142 d_M_often_143 (by decide) (by omega) (by omega) (fun c8 => ?_) (fun c8 => ?_)
      · skip
        refine z_lconst (z := 1) S d_M_often_151 rfl ?_
        exact z_lret (w := [oM mo th mw (nv : Int) mg ma mb (ns : Int) mlo mhi (nw : Int) mwe mru mrd, aL cL mw 160 (wkA rr)]) S hr hlo hAe d_M_often_152 [0, 1] (by decide) rfl rfl ⟨Nat.le_refl _, Nat.le_refl _⟩ (⟨1, Nat.le_refl _, by rw [Nat.one_mul]; exact hle, rfl, rfl⟩)
      · skip
        refine z_lload S d_M_often_146 0 rfl ?_
        refine z_goto (tgt := 152) S d_M_often_148 (by decide) ?_
        exact z_lret (w := [oM mo th mw (nv : Int) mg ma mb (ns : Int) mlo mhi (nw : Int) mwe mru mrd, aL cL mw 160 (wkA rr)]) S hr hlo hAe d_M_often_152 [0, 1] (by decide) rfl rfl ⟨Nat.le_refl _, Nat.le_refl _⟩ (⟨g, by omega, hg1, rfl, rfl⟩)
