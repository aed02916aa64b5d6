set_option maxHeartbeats 4000000 in
set_option maxRecDepth 100000 in
theorem s_M_share (l : Launch) (dC : Nat → ClassId) (dI : Nat → Nat → Nat) (cI cL : ClassId) (qT : Nat) (mo : Nat) (mw : Nat) (nv : Nat) (ma : Nat) (mb : Nat) (ns : Nat) (mlo : Nat) (mhi : Nat) (nw : Nat) (mwe : Nat) (mru : Nat) (mrd : Nat) (th : Int) (mg : Nat) (we : Nat → Nat) (wh : Nat) (kx : Nat) (hnw : nw ≤ 20) (hW : ∀ i, i < nw → we i ≤ 1000000000) (hwh : wh ≤ 1000000000) (hk : kx < nw) (hs0 : 0 < smW we nw) : Ct l y_M_share (Cond.code y_M_share c_M_share 14 (some .long) :: zB) { frames := 1, cells := 0, slots := 0, locals := 23 } (dC, dI) zcl [(cI, .int), (cL, .long)] (zG cI cL qT) [.ref mo, .long (zL (wh : Int)), .int (zI (kx : Int))] [oM mo th mw (nv : Int) mg ma mb (ns : Int) mlo mhi (nw : Int) mwe mru mrd, aL cL mwe 20 (wA we)] (fun rv wv => rv = .long (zL (((wh * we kx / smW we nw : Nat) : Int) + b2 (((bfW we wh (smW we nw) (wh * we kx % smW we nw) kx nw : Nat) : Int) < lfW we wh (smW we nw) nw))) ∧ wv = [oM mo 0 mw (nv : Int) mg ma mb (ns : Int) mlo mhi (nw : Int) mwe mru mrd, aL cL mwe 20 (wA we)]) 0 0 := by
  refine Cm.ofZ (cc := c_M_share) (maxL := 14) (ret := (some .long)) (by decide) rfl (Nat.le_of_ble_eq_true rfl) rfl ?_
  intro p e s m below meth c A S hr hlo hnm hK hg hA hAe
  have hGok := zG_ok cI cL qT
  show ZZ _ _ _ _ _ _ _ _ _ _ _ _ _ _ _ _ _ _ 0 [(0, .ref mo), (1, .long (zL (wh : Int))), (3, .int (zI (kx : Int)))] [] [oM mo th mw (nv : Int) mg ma mb (ns : Int) mlo mhi (nw : Int) mwe mru mrd, aL cL mwe 20 (wA we)]
  have hs00 : smW we 0 = 0 := rfl
  have hsb := smW_b hW nw (Nat.le_refl _)
  have hwk := hW kx hk
  have hpk := w18 hwh hwk
  have hmk := Nat.mod_lt (wh * we kx) hs0
  have hb0 : bfW we wh (smW we nw) (wh * we kx % smW we nw) kx 0 = 0 := rfl
  have hl0 : lfW we wh (smW we nw) 0 = (wh : Int) := rfl
  have hn0 : (0 : Int) ≤ ((wh * we kx : Nat) : Int) := Int.natCast_nonneg _
  refine z_lconst (z := 0) S d_M_share_0 rfl ?_
  refine z_lstore (lv' := [(4, .long (zL 0)), (0, .ref mo), (1, .long (zL (wh : Int))), (3, .int (zI (kx : Int)))]) S d_M_share_1 (by decide) rfl ?_
  refine z_iconst S d_M_share_3 ?_
  refine z_istore (lv' := [(6, .int (zI 0)), (4, .long (zL 0)), (0, .ref mo), (1, .long (zL (wh : Int))), (3, .int (zI (kx : Int)))]) S d_M_share_4 (by decide) rfl ?_
  refine z_lv (lv' := [(0, .ref mo), (1, .long (zL (wh : Int))), (3, .int (zI (kx : Int))), (4, .long (zL 0)), (6, .int (zI 0))]) [2, 3, 4, 1, 0] rfl ?_
  refine z_lq (lv' := [(0, .ref mo), (1, .long (zL (wh : Int))), (3, .int (zI (kx : Int))), (4, .long (zL ((smW we 0 : Nat) : Int))), (6, .int (zI ((0 : Nat) : Int)))]) (Eq.trans ((congrArg (fun zzz : Int => ([(0, .ref mo), (1, .long (zL (wh : Int))), (3, .int (zI (kx : Int))), (4, .long (zL zzz)), (6, .int (zI 0))] : List (Nat × Value))) (show (0 : Int) = ((smW we 0 : Nat) : Int) by omega))) (congrArg (fun zzz : Int => ([(0, .ref mo), (1, .long (zL (wh : Int))), (3, .int (zI (kx : Int))), (4, .long (zL ((smW we 0 : Nat) : Int))), (6, .int (zI zzz))] : List (Nat × Value))) (show (0 : Int) = ((0 : Nat) : Int) by omega))) ?_
  refine z_loop (I := fun (i : Nat) => (i ≤ nw)) (μ := fun (i : Nat) => nw - i) (LV := fun (i : Nat) => [(0, .ref mo), (1, .long (zL (wh : Int))), (3, .int (zI (kx : Int))), (4, .long (zL ((smW we i : Nat) : Int))), (6, .int (zI (i : Int)))]) (WS := fun (i : Nat) => [oM mo th mw (nv : Int) mg ma mb (ns : Int) mlo mhi (nw : Int) mwe mru mrd, aL cL mwe 20 (wA we)]) (a := 0) ?_ ?_
  · exact (show (0 ≤ nw) from by omega)
  · intro i hI ih6
    have hi : i ≤ nw := hI
    show ZZ _ _ _ _ _ _ _ _ _ _ _ _ _ _ _ _ _ _ 6 [(0, .ref mo), (1, .long (zL (wh : Int))), (3, .int (zI (kx : Int))), (4, .long (zL ((smW we i : Nat) : Int))), (6, .int (zI (i : Int)))] [] [oM mo th mw (nv : Int) mg ma mb (ns : Int) mlo mhi (nw : Int) mwe mru mrd, aL cL mwe 20 (wA we)]
    refine z_iload S d_M_share_6 4 rfl ?_
    refine z_aload_n S d_M_share_8 0 rfl ?_
    refine z_get S hK la_M 0 rfl rfl 9 (by decide) k_M_147 rfl d_M_share_9 ?_
    refine z_icmp_ge (tgt := 33) S d_M_share_12 (by decide) (by omega) (by omega) (fun c1 => ?_) (fun c1 => ?_)
    · skip
      refine z_lq (lv' := [(0, .ref mo), (1, .long (zL (wh : Int))), (3, .int (zI (kx : Int))), (4, .long (zL ((smW we nw : Nat) : Int))), (6, .int (zI (i : Int)))]) (by rw [show i = nw by omega]) ?_
      refine z_aload_n S d_M_share_33 0 rfl ?_
      refine z_iload_n S d_M_share_34 2 rfl ?_
      refine z_if_lt (tgt := 50) S d_M_share_35 (by decide) (by omega) (fun c2 => ?_) (fun c2 => ?_)
      · skip
        omega
      · skip
        refine z_iload_n S d_M_share_38 2 rfl ?_
        refine z_aload_n S d_M_share_39 0 rfl ?_
        refine z_get S hK la_M 0 rfl rfl 9 (by decide) k_M_147 rfl d_M_share_40 ?_
        refine z_icmp_ge (tgt := 50) S d_M_share_43 (by decide) (by omega) (by omega) (fun c3 => ?_) (fun c3 => ?_)
        · skip
          omega
        · skip
          refine z_iconst S d_M_share_46 ?_
          refine z_goto (tgt := 51) S d_M_share_47 (by decide) ?_
          refine z_lload_n S d_M_share_51 1 rfl ?_
          refine z_lconst (z := 0) S d_M_share_52 rfl ?_
          refine z_lcmp_lt (tgt := 69) S d_M_share_53 d_M_share_54 (by decide) (by omega) (by omega) (fun c4 => ?_) (fun c4 => ?_)
          · skip
            omega
          · skip
            refine z_lload_n S d_M_share_57 1 rfl ?_
            refine z_ldc2 (v := 1000000000) (z := 1000000000) S k_M_138 d_M_share_58 (by decide) ?_
            refine z_lcmp_gt (tgt := 69) S d_M_share_61 d_M_share_62 (by decide) (by omega) (by omega) (fun c5 => ?_) (fun c5 => ?_)
            · skip
              omega
            · skip
              refine z_iconst S d_M_share_65 ?_
              refine z_goto (tgt := 70) S d_M_share_66 (by decide) ?_
              refine z_lload S d_M_share_70 3 rfl ?_
              refine z_lconst (z := 0) S d_M_share_72 rfl ?_
              refine z_lcmp_le (tgt := 81) S d_M_share_73 d_M_share_74 (by decide) (by omega) (by omega) (fun c6 => ?_) (fun c6 => ?_)
              · skip
                omega
              · skip
                refine z_iconst S d_M_share_77 ?_
                refine z_goto (tgt := 82) S d_M_share_78 (by decide) ?_
                refine z_callVa (As := [.int (zI 1), .int (zI 1), .int (zI 1)]) (st := []) (wc := [oM mo th mw (nv : Int) mg ma mb (ns : Int) mlo mhi (nw : Int) mwe mru mrd]) (wr := [aL cL mwe 20 (wA we)]) S hGok hK hg hA (s_M_goes l dC dI cI cL qT mo mw nv ma mb ns mlo mhi nw mwe mru mrd th mg 1 1 1 (by omega) (by omega) (by omega)) (zcwV S (List.mem_cons_of_mem _ k_M_118) mV_M_goes k_M_118 hd_M_goes rfl rfl ⟨Nat.le_of_ble_eq_true rfl, Nat.le_of_ble_eq_true rfl⟩) rfl (Nat.le_of_ble_eq_true rfl) d_M_share_82 ⟨Nat.le_of_ble_eq_true rfl, Nat.le_of_ble_eq_true rfl⟩ rfl [0] [1] 0 rfl rfl rfl (by decide) rfl rfl rfl (by decide) (by decide) (fun x w hp => ?_)
                obtain ⟨rfl, rfl⟩ := hp
                show ZZ _ _ _ _ _ _ _ _ _ _ _ _ _ _ _ _ _ _ 85 [(0, .ref mo), (1, .long (zL (wh : Int))), (3, .int (zI (kx : Int))), (4, .long (zL ((smW we nw : Nat) : Int))), (6, .int (zI (i : Int)))] [.int (zI (b2 (gth 1 1 1 = 0)))] [aL cL mwe 20 (wA we), oM mo (gth 1 1 1) mw (nv : Int) mg ma mb (ns : Int) mlo mhi (nw : Int) mwe mru mrd]
                refine z_toi (a := 1) rfl ?_
                refine z_wq (ws' := [aL cL mwe 20 (wA we), oM mo 0 mw (nv : Int) mg ma mb (ns : Int) mlo mhi (nw : Int) mwe mru mrd]) rfl ?_
                refine z_if_ne (tgt := 90) S d_M_share_85 (by decide) (by omega) (fun c7 => ?_) (fun c7 => ?_)
                · skip
                  refine z_lload_n S d_M_share_90 1 rfl ?_
                  refine z_lstore (lv' := [(6, .long (zL (wh : Int))), (0, .ref mo), (1, .long (zL (wh : Int))), (3, .int (zI (kx : Int))), (4, .long (zL ((smW we nw : Nat) : Int)))]) S d_M_share_91 (by decide) rfl ?_
                  refine z_iconst S d_M_share_93 ?_
                  refine z_istore (lv' := [(8, .int (zI 0)), (6, .long (zL (wh : Int))), (0, .ref mo), (1, .long (zL (wh : Int))), (3, .int (zI (kx : Int))), (4, .long (zL ((smW we nw : Nat) : Int)))]) S d_M_share_94 (by decide) rfl ?_
                  refine z_lv (lv' := [(0, .ref mo), (1, .long (zL (wh : Int))), (3, .int (zI (kx : Int))), (4, .long (zL ((smW we nw : Nat) : Int))), (6, .long (zL (wh : Int))), (8, .int (zI 0))]) [2, 3, 4, 5, 1, 0] rfl ?_
                  refine z_ws (ws' := [oM mo 0 mw (nv : Int) mg ma mb (ns : Int) mlo mhi (nw : Int) mwe mru mrd, aL cL mwe 20 (wA we)]) [1, 0] (by decide) rfl rfl ?_
                  refine z_lq (lv' := [(0, .ref mo), (1, .long (zL (wh : Int))), (3, .int (zI (kx : Int))), (4, .long (zL ((smW we nw : Nat) : Int))), (6, .long (zL (lfW we wh (smW we nw) 0))), (8, .int (zI ((0 : Nat) : Int)))]) (Eq.trans ((congrArg (fun zzz : Int => ([(0, .ref mo), (1, .long (zL (wh : Int))), (3, .int (zI (kx : Int))), (4, .long (zL ((smW we nw : Nat) : Int))), (6, .long (zL zzz)), (8, .int (zI 0))] : List (Nat × Value))) (show ((wh : Int) : Int) = lfW we wh (smW we nw) 0 by omega))) (congrArg (fun zzz : Int => ([(0, .ref mo), (1, .long (zL (wh : Int))), (3, .int (zI (kx : Int))), (4, .long (zL ((smW we nw : Nat) : Int))), (6, .long (zL (lfW we wh (smW we nw) 0))), (8, .int (zI zzz))] : List (Nat × Value))) (show (0 : Int) = ((0 : Nat) : Int) by omega))) ?_
                  refine z_loop (I := fun (i : Nat) => (i ≤ nw)) (μ := fun (i : Nat) => nw - i) (LV := fun (i : Nat) => [(0, .ref mo), (1, .long (zL (wh : Int))), (3, .int (zI (kx : Int))), (4, .long (zL ((smW we nw : Nat) : Int))), (6, .long (zL (lfW we wh (smW we nw) i))), (8, .int (zI (i : Int)))]) (WS := fun (i : Nat) => [oM mo 0 mw (nv : Int) mg ma mb (ns : Int) mlo mhi (nw : Int) mwe mru mrd, aL cL mwe 20 (wA we)]) (a := 0) ?_ ?_
                  · exact (show (0 ≤ nw) from by omega)
                  · intro i hI ih96
                    have hi : i ≤ nw := hI
                    show ZZ _ _ _ _ _ _ _ _ _ _ _ _ _ _ _ _ _ _ 96 [(0, .ref mo), (1, .long (zL (wh : Int))), (3, .int (zI (kx : Int))), (4, .long (zL ((smW we nw : Nat) : Int))), (6, .long (zL (lfW we wh (smW we nw) i))), (8, .int (zI (i : Int)))] [] [oM mo 0 mw (nv : Int) mg ma mb (ns : Int) mlo mhi (nw : Int) mwe mru mrd, aL cL mwe 20 (wA we)]
                    refine z_iload S d_M_share_96 5 rfl ?_
                    refine z_aload_n S d_M_share_98 0 rfl ?_
                    refine z_get S hK la_M 0 rfl rfl 9 (by decide) k_M_147 rfl d_M_share_99 ?_
                    refine z_icmp_ge (tgt := 128) S d_M_share_102 (by decide) (by omega) (by omega) (fun c8 => ?_) (fun c8 => ?_)
                    · skip
                      refine z_lq (lv' := [(0, .ref mo), (1, .long (zL (wh : Int))), (3, .int (zI (kx : Int))), (4, .long (zL ((smW we nw : Nat) : Int))), (6, .long (zL (lfW we wh (smW we nw) nw))), (8, .int (zI (i : Int)))]) (by rw [show i = nw by omega]) ?_
                      refine z_iconst S d_M_share_128 ?_
                      refine z_istore (lv' := [(8, .int (zI 0)), (0, .ref mo), (1, .long (zL (wh : Int))), (3, .int (zI (kx : Int))), (4, .long (zL ((smW we nw : Nat) : Int))), (6, .long (zL (lfW we wh (smW we nw) nw)))]) S d_M_share_129 (by decide) rfl ?_
                      refine z_iconst S d_M_share_131 ?_
                      refine z_istore (lv' := [(9, .int (zI 0)), (8, .int (zI 0)), (0, .ref mo), (1, .long (zL (wh : Int))), (3, .int (zI (kx : Int))), (4, .long (zL ((smW we nw : Nat) : Int))), (6, .long (zL (lfW we wh (smW we nw) nw)))]) S d_M_share_132 (by decide) rfl ?_
                      refine z_lv (lv' := [(0, .ref mo), (1, .long (zL (wh : Int))), (3, .int (zI (kx : Int))), (4, .long (zL ((smW we nw : Nat) : Int))), (6, .long (zL (lfW we wh (smW we nw) nw))), (8, .int (zI 0)), (9, .int (zI 0))]) [2, 3, 4, 5, 6, 1, 0] rfl ?_
                      refine z_lq (lv' := [(0, .ref mo), (1, .long (zL (wh : Int))), (3, .int (zI (kx : Int))), (4, .long (zL ((smW we nw : Nat) : Int))), (6, .long (zL (lfW we wh (smW we nw) nw))), (8, .int (zI ((bfW we wh (smW we nw) (wh * we kx % smW we nw) kx 0 : Nat) : Int))), (9, .int (zI ((0 : Nat) : Int)))]) (Eq.trans ((congrArg (fun zzz : Int => ([(0, .ref mo), (1, .long (zL (wh : Int))), (3, .int (zI (kx : Int))), (4, .long (zL ((smW we nw : Nat) : Int))), (6, .long (zL (lfW we wh (smW we nw) nw))), (8, .int (zI zzz)), (9, .int (zI 0))] : List (Nat × Value))) (show (0 : Int) = ((bfW we wh (smW we nw) (wh * we kx % smW we nw) kx 0 : Nat) : Int) by omega))) (congrArg (fun zzz : Int => ([(0, .ref mo), (1, .long (zL (wh : Int))), (3, .int (zI (kx : Int))), (4, .long (zL ((smW we nw : Nat) : Int))), (6, .long (zL (lfW we wh (smW we nw) nw))), (8, .int (zI ((bfW we wh (smW we nw) (wh * we kx % smW we nw) kx 0 : Nat) : Int))), (9, .int (zI zzz))] : List (Nat × Value))) (show (0 : Int) = ((0 : Nat) : Int) by omega))) ?_
                      refine z_loop (I := fun (i : Nat) => (i ≤ nw)) (μ := fun (i : Nat) => nw - i) (LV := fun (i : Nat) => [(0, .ref mo), (1, .long (zL (wh : Int))), (3, .int (zI (kx : Int))), (4, .long (zL ((smW we nw : Nat) : Int))), (6, .long (zL (lfW we wh (smW we nw) nw))), (8, .int (zI ((bfW we wh (smW we nw) (wh * we kx % smW we nw) kx i : Nat) : Int))), (9, .int (zI (i : Int)))]) (WS := fun (i : Nat) => [oM mo 0 mw (nv : Int) mg ma mb (ns : Int) mlo mhi (nw : Int) mwe mru mrd, aL cL mwe 20 (wA we)]) (a := 0) ?_ ?_
                      · exact (show (0 ≤ nw) from by omega)
                      · intro i hI ih134
                        have hi : i ≤ nw := hI
                        show ZZ _ _ _ _ _ _ _ _ _ _ _ _ _ _ _ _ _ _ 134 [(0, .ref mo), (1, .long (zL (wh : Int))), (3, .int (zI (kx : Int))), (4, .long (zL ((smW we nw : Nat) : Int))), (6, .long (zL (lfW we wh (smW we nw) nw))), (8, .int (zI ((bfW we wh (smW we nw) (wh * we kx % smW we nw) kx i : Nat) : Int))), (9, .int (zI (i : Int)))] [] [oM mo 0 mw (nv : Int) mg ma mb (ns : Int) mlo mhi (nw : Int) mwe mru mrd, aL cL mwe 20 (wA we)]
                        refine z_iload S d_M_share_134 6 rfl ?_
                        refine z_aload_n S d_M_share_136 0 rfl ?_
                        refine z_get S hK la_M 0 rfl rfl 9 (by decide) k_M_147 rfl d_M_share_137 ?_
                        refine z_icmp_ge (tgt := 201) S d_M_share_140 (by decide) (by omega) (by omega) (fun c9 => ?_) (fun c9 => ?_)
                        · skip
                          have ei : i = nw := by omega
                          have hbl := bfW_le (f := we) (wh := wh) (su := smW we nw) (ow := wh * we kx % smW we nw) (kx := kx) nw
                          have hlr := lfW_r (f := we) (wh := wh) hs0 (fun i hi => smW_g hi) nw (Nat.le_refl _)
                          have hm20 := Nat.mul_le_mul (show nw ≤ 20 by omega) hwh
                          have hbr := b2_r (((bfW we wh (smW we nw) (wh * we kx % smW we nw) kx nw : Nat) : Int) < lfW we wh (smW we nw) nw)
                          refine z_lq (lv' := [(0, .ref mo), (1, .long (zL (wh : Int))), (3, .int (zI (kx : Int))), (4, .long (zL ((smW we nw : Nat) : Int))), (6, .long (zL (lfW we wh (smW we nw) nw))), (8, .int (zI ((bfW we wh (smW we nw) (wh * we kx % smW we nw) kx nw : Nat) : Int))), (9, .int (zI (i : Int)))]) (by rw [ei]) ?_
                          refine z_lload_n S d_M_share_201 1 rfl ?_
                          refine z_aload_n S d_M_share_202 0 rfl ?_
                          refine z_get S hK la_M 0 rfl rfl 10 (by decide) k_M_29 rfl d_M_share_203 ?_
                          refine z_iload_n S d_M_share_206 2 rfl ?_
                          refine z_lald (x := ((we kx : Nat) : Int)) S hK 1 1 rfl rfl kx rfl (by omega) (by decide) rfl d_M_share_207 ?_
                          refine z_lmul S d_M_share_208 ?_
                          refine z_tol (a := ((wh * we kx : Nat) : Int)) (zL_c (rfl)) ?_
                          refine z_lload S d_M_share_209 3 rfl ?_
                          refine z_ldiv S d_M_share_211 ⟨Int.natCast_nonneg _, by omega⟩ (by omega) ?_
                          refine z_tol (a := ((wh * we kx / smW we nw : Nat) : Int)) (zL_c (rfl)) ?_
                          refine z_iload S d_M_share_212 5 rfl ?_
                          refine z_i2l S d_M_share_214 (by omega) ?_
                          refine z_lload S d_M_share_215 4 rfl ?_
                          refine z_lcmp_ge (tgt := 225) S d_M_share_217 d_M_share_218 (by decide) (by omega) (by omega) (fun c10 => ?_) (fun c10 => ?_)
                          · skip
                            refine z_lconst (z := 0) S d_M_share_225 rfl ?_
                            refine z_ladd S d_M_share_226 ?_
                            have hbv : b2 (((bfW we wh (smW we nw) (wh * we kx % smW we nw) kx nw : Nat) : Int) < lfW we wh (smW we nw) nw) = 0 := b2_f (by omega)
                            refine z_tol (a := ((wh * we kx / smW we nw : Nat) : Int) + b2 (((bfW we wh (smW we nw) (wh * we kx % smW we nw) kx nw : Nat) : Int) < lfW we wh (smW we nw) nw)) (zL_c (by rw [hbv])) ?_
                            exact z_lret (w := [oM mo 0 mw (nv : Int) mg ma mb (ns : Int) mlo mhi (nw : Int) mwe mru mrd, aL cL mwe 20 (wA we)]) S hr hlo hAe d_M_share_227 [0, 1] (by decide) rfl rfl ⟨Nat.le_refl _, Nat.le_refl _⟩ (⟨rfl, rfl⟩)
                          · skip
                            refine z_lconst (z := 1) S d_M_share_221 rfl ?_
                            refine z_goto (tgt := 226) S d_M_share_222 (by decide) ?_
                            refine z_ladd S d_M_share_226 ?_
                            have hbv : b2 (((bfW we wh (smW we nw) (wh * we kx % smW we nw) kx nw : Nat) : Int) < lfW we wh (smW we nw) nw) = 1 := b2_t (by omega)
                            refine z_tol (a := ((wh * we kx / smW we nw : Nat) : Int) + b2 (((bfW we wh (smW we nw) (wh * we kx % smW we nw) kx nw : Nat) : Int) < lfW we wh (smW we nw) nw)) (zL_c (by rw [hbv])) ?_
                            exact z_lret (w := [oM mo 0 mw (nv : Int) mg ma mb (ns : Int) mlo mhi (nw : Int) mwe mru mrd, aL cL mwe 20 (wA we)]) S hr hlo hAe d_M_share_227 [0, 1] (by decide) rfl rfl ⟨Nat.le_refl _, Nat.le_refl _⟩ (⟨rfl, rfl⟩)
                        · skip
                          have hwi := hW i (by omega)
                          have hpi := w18 hwh hwi
                          have hmi := Nat.mod_lt (wh * we i) hs0
                          have hn1 : (0 : Int) ≤ ((wh * we i : Nat) : Int) := Int.natCast_nonneg _
                          refine z_lload_n S d_M_share_143 1 rfl ?_
                          refine z_aload_n S d_M_share_144 0 rfl ?_
                          refine z_get S hK la_M 0 rfl rfl 10 (by decide) k_M_29 rfl d_M_share_145 ?_
                          refine z_iload S d_M_share_148 6 rfl ?_
                          refine z_lald (x := ((we i : Nat) : Int)) S hK 1 1 rfl rfl i rfl (by omega) (by decide) rfl d_M_share_150 ?_
                          refine z_lmul S d_M_share_151 ?_
                          refine z_tol (a := ((wh * we i : Nat) : Int)) (zL_c (rfl)) ?_
                          refine z_lload S d_M_share_152 3 rfl ?_
                          refine z_lrem S d_M_share_154 ⟨Int.natCast_nonneg _, by omega⟩ (by omega) ?_
                          refine z_tol (a := ((wh * we i % smW we nw : Nat) : Int)) (zL_c (rfl)) ?_
                          refine z_lstore (lv' := [(10, .long (zL ((wh * we i % smW we nw : Nat) : Int))), (0, .ref mo), (1, .long (zL (wh : Int))), (3, .int (zI (kx : Int))), (4, .long (zL ((smW we nw : Nat) : Int))), (6, .long (zL (lfW we wh (smW we nw) nw))), (8, .int (zI ((bfW we wh (smW we nw) (wh * we kx % smW we nw) kx i : Nat) : Int))), (9, .int (zI (i : Int)))]) S d_M_share_155 (by decide) rfl ?_
                          refine z_lload_n S d_M_share_157 2 rfl ?_
                          refine z_aload_n S d_M_share_158 1 rfl ?_
                          refine z_get S hK la_M 0 rfl rfl 10 (by decide) k_M_29 rfl d_M_share_159 ?_
                          refine z_iload_n S d_M_share_162 3 rfl ?_
                          refine z_lald (x := ((we kx : Nat) : Int)) S hK 1 1 rfl rfl kx rfl (by omega) (by decide) rfl d_M_share_163 ?_
                          refine z_lmul S d_M_share_164 ?_
                          refine z_tol (a := ((wh * we kx : Nat) : Int)) (zL_c (rfl)) ?_
                          refine z_lload S d_M_share_165 4 rfl ?_
                          refine z_lrem S d_M_share_167 ⟨Int.natCast_nonneg _, by omega⟩ (by omega) ?_
                          refine z_tol (a := ((wh * we kx % smW we nw : Nat) : Int)) (zL_c (rfl)) ?_
                          refine z_lstore (lv' := [(12, .long (zL ((wh * we kx % smW we nw : Nat) : Int))), (10, .long (zL ((wh * we i % smW we nw : Nat) : Int))), (0, .ref mo), (1, .long (zL (wh : Int))), (3, .int (zI (kx : Int))), (4, .long (zL ((smW we nw : Nat) : Int))), (6, .long (zL (lfW we wh (smW we nw) nw))), (8, .int (zI ((bfW we wh (smW we nw) (wh * we kx % smW we nw) kx i : Nat) : Int))), (9, .int (zI (i : Int)))]) S d_M_share_168 (by decide) rfl ?_
                          refine z_lload S d_M_share_170 1 rfl ?_
                          refine z_lload S d_M_share_172 0 rfl ?_
                          refine z_lcmp_gt (tgt := 192) S d_M_share_174 d_M_share_175 (by decide) (by omega) (by omega) (fun c11 => ?_) (fun c11 => ?_)
                          · skip
                            refine z_iinc (y := ((bfW we wh (smW we nw) (wh * we kx % smW we nw) kx i : Nat) : Int) + 1) (lv' := [(8, .int (zI (((bfW we wh (smW we nw) (wh * we kx % smW we nw) kx i : Nat) : Int) + 1))), (12, .long (zL ((wh * we kx % smW we nw : Nat) : Int))), (10, .long (zL ((wh * we i % smW we nw : Nat) : Int))), (0, .ref mo), (1, .long (zL (wh : Int))), (3, .int (zI (kx : Int))), (4, .long (zL ((smW we nw : Nat) : Int))), (6, .long (zL (lfW we wh (smW we nw) nw))), (9, .int (zI (i : Int)))]) S d_M_share_192 7 rfl (by omega) (by decide) rfl ?_
                            refine z_iinc (y := ((i + 1 : Nat) : Int)) (lv' := [(9, .int (zI ((i + 1 : Nat) : Int))), (8, .int (zI (((bfW we wh (smW we nw) (wh * we kx % smW we nw) kx i : Nat) : Int) + 1))), (12, .long (zL ((wh * we kx % smW we nw : Nat) : Int))), (10, .long (zL ((wh * we i % smW we nw : Nat) : Int))), (0, .ref mo), (1, .long (zL (wh : Int))), (3, .int (zI (kx : Int))), (4, .long (zL ((smW we nw : Nat) : Int))), (6, .long (zL (lfW we wh (smW we nw) nw)))]) S d_M_share_195 8 rfl (by omega) (by decide) rfl ?_
                            have hb1 : bfW we wh (smW we nw) (wh * we kx % smW we nw) kx (i + 1) = bfW we wh (smW we nw) (wh * we kx % smW we nw) kx i + 1 := by show bfW we wh (smW we nw) (wh * we kx % smW we nw) kx i + (if wh * we kx % smW we nw < wh * we i % smW we nw ∨ (wh * we i % smW we nw = wh * we kx % smW we nw ∧ i < kx) then 1 else 0) = _; rw [if_pos (by omega)]
                            refine z_goto (tgt := 134) S d_M_share_198 (by decide) ?_
                            refine z_lv (lv' := [(0, .ref mo), (1, .long (zL (wh : Int))), (3, .int (zI (kx : Int))), (4, .long (zL ((smW we nw : Nat) : Int))), (6, .long (zL (lfW we wh (smW we nw) nw))), (8, .int (zI (((bfW we wh (smW we nw) (wh * we kx % smW we nw) kx i : Nat) : Int) + 1))), (9, .int (zI ((i + 1 : Nat) : Int)))]) [4, 5, 6, 7, 8, 1, 0] rfl ?_
                            refine z_lq (lv' := [(0, .ref mo), (1, .long (zL (wh : Int))), (3, .int (zI (kx : Int))), (4, .long (zL ((smW we nw : Nat) : Int))), (6, .long (zL (lfW we wh (smW we nw) nw))), (8, .int (zI ((bfW we wh (smW we nw) (wh * we kx % smW we nw) kx (i + 1) : Nat) : Int))), (9, .int (zI ((i + 1 : Nat) : Int)))]) (congrArg (fun zzz : Int => ([(0, .ref mo), (1, .long (zL (wh : Int))), (3, .int (zI (kx : Int))), (4, .long (zL ((smW we nw : Nat) : Int))), (6, .long (zL (lfW we wh (smW we nw) nw))), (8, .int (zI zzz)), (9, .int (zI ((i + 1 : Nat) : Int)))] : List (Nat × Value))) (show (((bfW we wh (smW we nw) (wh * we kx % smW we nw) kx i : Nat) : Int) + 1 : Int) = ((bfW we wh (smW we nw) (wh * we kx % smW we nw) kx (i + 1) : Nat) : Int) by omega)) ?_
                            exact ih134 (i + 1) (show ((i + 1) ≤ nw) from by omega) (show nw - (i + 1) < nw - i from by omega)
                          · skip
                            refine z_lload S d_M_share_178 1 rfl ?_
                            refine z_lload S d_M_share_180 0 rfl ?_
                            refine z_lcmp_ne (tgt := 195) S d_M_share_182 d_M_share_183 (by decide) (by omega) (by omega) (fun c12 => ?_) (fun c12 => ?_)
                            · skip
                              refine z_iinc (y := ((i + 1 : Nat) : Int)) (lv' := [(9, .int (zI ((i + 1 : Nat) : Int))), (12, .long (zL ((wh * we kx % smW we nw : Nat) : Int))), (10, .long (zL ((wh * we i % smW we nw : Nat) : Int))), (0, .ref mo), (1, .long (zL (wh : Int))), (3, .int (zI (kx : Int))), (4, .long (zL ((smW we nw : Nat) : Int))), (6, .long (zL (lfW we wh (smW we nw) nw))), (8, .int (zI ((bfW we wh (smW we nw) (wh * we kx % smW we nw) kx i : Nat) : Int)))]) S d_M_share_195 8 rfl (by omega) (by decide) rfl ?_
                              have hb1 : bfW we wh (smW we nw) (wh * we kx % smW we nw) kx (i + 1) = bfW we wh (smW we nw) (wh * we kx % smW we nw) kx i := by show bfW we wh (smW we nw) (wh * we kx % smW we nw) kx i + (if wh * we kx % smW we nw < wh * we i % smW we nw ∨ (wh * we i % smW we nw = wh * we kx % smW we nw ∧ i < kx) then 1 else 0) = _; rw [if_neg (by omega), Nat.add_zero]
                              refine z_goto (tgt := 134) S d_M_share_198 (by decide) ?_
                              refine z_lv (lv' := [(0, .ref mo), (1, .long (zL (wh : Int))), (3, .int (zI (kx : Int))), (4, .long (zL ((smW we nw : Nat) : Int))), (6, .long (zL (lfW we wh (smW we nw) nw))), (8, .int (zI ((bfW we wh (smW we nw) (wh * we kx % smW we nw) kx i : Nat) : Int))), (9, .int (zI ((i + 1 : Nat) : Int)))]) [3, 4, 5, 6, 7, 8, 0] rfl ?_
                              refine z_lq (lv' := [(0, .ref mo), (1, .long (zL (wh : Int))), (3, .int (zI (kx : Int))), (4, .long (zL ((smW we nw : Nat) : Int))), (6, .long (zL (lfW we wh (smW we nw) nw))), (8, .int (zI ((bfW we wh (smW we nw) (wh * we kx % smW we nw) kx (i + 1) : Nat) : Int))), (9, .int (zI ((i + 1 : Nat) : Int)))]) (congrArg (fun zzz : Int => ([(0, .ref mo), (1, .long (zL (wh : Int))), (3, .int (zI (kx : Int))), (4, .long (zL ((smW we nw : Nat) : Int))), (6, .long (zL (lfW we wh (smW we nw) nw))), (8, .int (zI zzz)), (9, .int (zI ((i + 1 : Nat) : Int)))] : List (Nat × Value))) (show (((bfW we wh (smW we nw) (wh * we kx % smW we nw) kx i : Nat) : Int) : Int) = ((bfW we wh (smW we nw) (wh * we kx % smW we nw) kx (i + 1) : Nat) : Int) by omega)) ?_
                              exact ih134 (i + 1) (show ((i + 1) ≤ nw) from by omega) (show nw - (i + 1) < nw - i from by omega)
                            · skip
                              refine z_iload S d_M_share_186 8 rfl ?_
                              refine z_iload_n S d_M_share_188 4 rfl ?_
                              refine z_icmp_ge (tgt := 195) S d_M_share_189 (by decide) (by omega) (by omega) (fun c13 => ?_) (fun c13 => ?_)
                              · skip
                                refine z_iinc (y := ((i + 1 : Nat) : Int)) (lv' := [(9, .int (zI ((i + 1 : Nat) : Int))), (12, .long (zL ((wh * we kx % smW we nw : Nat) : Int))), (10, .long (zL ((wh * we i % smW we nw : Nat) : Int))), (0, .ref mo), (1, .long (zL (wh : Int))), (3, .int (zI (kx : Int))), (4, .long (zL ((smW we nw : Nat) : Int))), (6, .long (zL (lfW we wh (smW we nw) nw))), (8, .int (zI ((bfW we wh (smW we nw) (wh * we kx % smW we nw) kx i : Nat) : Int)))]) S d_M_share_195 8 rfl (by omega) (by decide) rfl ?_
                                have hb1 : bfW we wh (smW we nw) (wh * we kx % smW we nw) kx (i + 1) = bfW we wh (smW we nw) (wh * we kx % smW we nw) kx i := by show bfW we wh (smW we nw) (wh * we kx % smW we nw) kx i + (if wh * we kx % smW we nw < wh * we i % smW we nw ∨ (wh * we i % smW we nw = wh * we kx % smW we nw ∧ i < kx) then 1 else 0) = _; rw [if_neg (by omega), Nat.add_zero]
                                refine z_goto (tgt := 134) S d_M_share_198 (by decide) ?_
                                refine z_lv (lv' := [(0, .ref mo), (1, .long (zL (wh : Int))), (3, .int (zI (kx : Int))), (4, .long (zL ((smW we nw : Nat) : Int))), (6, .long (zL (lfW we wh (smW we nw) nw))), (8, .int (zI ((bfW we wh (smW we nw) (wh * we kx % smW we nw) kx i : Nat) : Int))), (9, .int (zI ((i + 1 : Nat) : Int)))]) [3, 4, 5, 6, 7, 8, 0] rfl ?_
                                refine z_lq (lv' := [(0, .ref mo), (1, .long (zL (wh : Int))), (3, .int (zI (kx : Int))), (4, .long (zL ((smW we nw : Nat) : Int))), (6, .long (zL (lfW we wh (smW we nw) nw))), (8, .int (zI ((bfW we wh (smW we nw) (wh * we kx % smW we nw) kx (i + 1) : Nat) : Int))), (9, .int (zI ((i + 1 : Nat) : Int)))]) (congrArg (fun zzz : Int => ([(0, .ref mo), (1, .long (zL (wh : Int))), (3, .int (zI (kx : Int))), (4, .long (zL ((smW we nw : Nat) : Int))), (6, .long (zL (lfW we wh (smW we nw) nw))), (8, .int (zI zzz)), (9, .int (zI ((i + 1 : Nat) : Int)))] : List (Nat × Value))) (show (((bfW we wh (smW we nw) (wh * we kx % smW we nw) kx i : Nat) : Int) : Int) = ((bfW we wh (smW we nw) (wh * we kx % smW we nw) kx (i + 1) : Nat) : Int) by omega)) ?_
                                exact ih134 (i + 1) (show ((i + 1) ≤ nw) from by omega) (show nw - (i + 1) < nw - i from by omega)
                              · skip
                                refine z_iinc (y := ((bfW we wh (smW we nw) (wh * we kx % smW we nw) kx i : Nat) : Int) + 1) (lv' := [(8, .int (zI (((bfW we wh (smW we nw) (wh * we kx % smW we nw) kx i : Nat) : Int) + 1))), (12, .long (zL ((wh * we kx % smW we nw : Nat) : Int))), (10, .long (zL ((wh * we i % smW we nw : Nat) : Int))), (0, .ref mo), (1, .long (zL (wh : Int))), (3, .int (zI (kx : Int))), (4, .long (zL ((smW we nw : Nat) : Int))), (6, .long (zL (lfW we wh (smW we nw) nw))), (9, .int (zI (i : Int)))]) S d_M_share_192 7 rfl (by omega) (by decide) rfl ?_
                                refine z_iinc (y := ((i + 1 : Nat) : Int)) (lv' := [(9, .int (zI ((i + 1 : Nat) : Int))), (8, .int (zI (((bfW we wh (smW we nw) (wh * we kx % smW we nw) kx i : Nat) : Int) + 1))), (12, .long (zL ((wh * we kx % smW we nw : Nat) : Int))), (10, .long (zL ((wh * we i % smW we nw : Nat) : Int))), (0, .ref mo), (1, .long (zL (wh : Int))), (3, .int (zI (kx : Int))), (4, .long (zL ((smW we nw : Nat) : Int))), (6, .long (zL (lfW we wh (smW we nw) nw)))]) S d_M_share_195 8 rfl (by omega) (by decide) rfl ?_
                                have hb1 : bfW we wh (smW we nw) (wh * we kx % smW we nw) kx (i + 1) = bfW we wh (smW we nw) (wh * we kx % smW we nw) kx i + 1 := by show bfW we wh (smW we nw) (wh * we kx % smW we nw) kx i + (if wh * we kx % smW we nw < wh * we i % smW we nw ∨ (wh * we i % smW we nw = wh * we kx % smW we nw ∧ i < kx) then 1 else 0) = _; rw [if_pos (by omega)]
                                refine z_goto (tgt := 134) S d_M_share_198 (by decide) ?_
                                refine z_lv (lv' := [(0, .ref mo), (1, .long (zL (wh : Int))), (3, .int (zI (kx : Int))), (4, .long (zL ((smW we nw : Nat) : Int))), (6, .long (zL (lfW we wh (smW we nw) nw))), (8, .int (zI (((bfW we wh (smW we nw) (wh * we kx % smW we nw) kx i : Nat) : Int) + 1))), (9, .int (zI ((i + 1 : Nat) : Int)))]) [4, 5, 6, 7, 8, 1, 0] rfl ?_
                                refine z_lq (lv' := [(0, .ref mo), (1, .long (zL (wh : Int))), (3, .int (zI (kx : Int))), (4, .long (zL ((smW we nw : Nat) : Int))), (6, .long (zL (lfW we wh (smW we nw) nw))), (8, .int (zI ((bfW we wh (smW we nw) (wh * we kx % smW we nw) kx (i + 1) : Nat) : Int))), (9, .int (zI ((i + 1 : Nat) : Int)))]) (congrArg (fun zzz : Int => ([(0, .ref mo), (1, .long (zL (wh : Int))), (3, .int (zI (kx : Int))), (4, .long (zL ((smW we nw : Nat) : Int))), (6, .long (zL (lfW we wh (smW we nw) nw))), (8, .int (zI zzz)), (9, .int (zI ((i + 1 : Nat) : Int)))] : List (Nat × Value))) (show (((bfW we wh (smW we nw) (wh * we kx % smW we nw) kx i : Nat) : Int) + 1 : Int) = ((bfW we wh (smW we nw) (wh * we kx % smW we nw) kx (i + 1) : Nat) : Int) by omega)) ?_
                                exact ih134 (i + 1) (show ((i + 1) ≤ nw) from by omega) (show nw - (i + 1) < nw - i from by omega)
                    · skip
                      have hwi := hW i (by omega)
                      have hpi := w18 hwh hwi
                      have hmi := Nat.mod_lt (wh * we i) hs0
                      have hn1 : (0 : Int) ≤ ((wh * we i : Nat) : Int) := Int.natCast_nonneg _
                      refine z_lload S d_M_share_105 4 rfl ?_
                      refine z_lload_n S d_M_share_107 1 rfl ?_
                      refine z_aload_n S d_M_share_108 0 rfl ?_
                      refine z_get S hK la_M 0 rfl rfl 10 (by decide) k_M_29 rfl d_M_share_109 ?_
                      refine z_iload S d_M_share_112 5 rfl ?_
                      refine z_lald (x := ((we i : Nat) : Int)) S hK 1 1 rfl rfl i rfl (by omega) (by decide) rfl d_M_share_114 ?_
                      refine z_lmul S d_M_share_115 ?_
                      refine z_tol (a := ((wh * we i : Nat) : Int)) (zL_c (rfl)) ?_
                      refine z_lload S d_M_share_116 3 rfl ?_
                      refine z_ldiv S d_M_share_118 ⟨Int.natCast_nonneg _, by omega⟩ (by omega) ?_
                      refine z_tol (a := ((wh * we i / smW we nw : Nat) : Int)) (zL_c (rfl)) ?_
                      refine z_lsub S d_M_share_119 ?_
                      refine z_tol (a := lfW we wh (smW we nw) (i + 1)) (zL_c (rfl)) ?_
                      refine z_topl (fun x14 ex14 => ?_)
                      refine z_lstore (lv' := [(6, .long (zL x14)), (0, .ref mo), (1, .long (zL (wh : Int))), (3, .int (zI (kx : Int))), (4, .long (zL ((smW we nw : Nat) : Int))), (8, .int (zI (i : Int)))]) S d_M_share_120 (by decide) rfl ?_
                      refine z_iinc (y := ((i + 1 : Nat) : Int)) (lv' := [(8, .int (zI ((i + 1 : Nat) : Int))), (6, .long (zL x14)), (0, .ref mo), (1, .long (zL (wh : Int))), (3, .int (zI (kx : Int))), (4, .long (zL ((smW we nw : Nat) : Int)))]) S d_M_share_122 5 rfl (by omega) (by decide) rfl ?_
                      refine z_goto (tgt := 96) S d_M_share_125 (by decide) ?_
                      refine z_lv (lv' := [(0, .ref mo), (1, .long (zL (wh : Int))), (3, .int (zI (kx : Int))), (4, .long (zL ((smW we nw : Nat) : Int))), (6, .long (zL x14)), (8, .int (zI ((i + 1 : Nat) : Int)))]) [2, 3, 4, 5, 1, 0] rfl ?_
                      refine z_lq (lv' := [(0, .ref mo), (1, .long (zL (wh : Int))), (3, .int (zI (kx : Int))), (4, .long (zL ((smW we nw : Nat) : Int))), (6, .long (zL (lfW we wh (smW we nw) (i + 1)))), (8, .int (zI ((i + 1 : Nat) : Int)))]) (congrArg (fun zzz : Int => ([(0, .ref mo), (1, .long (zL (wh : Int))), (3, .int (zI (kx : Int))), (4, .long (zL ((smW we nw : Nat) : Int))), (6, .long (zL zzz)), (8, .int (zI ((i + 1 : Nat) : Int)))] : List (Nat × Value))) (show (x14 : Int) = lfW we wh (smW we nw) (i + 1) by omega)) ?_
                      exact ih96 (i + 1) (show ((i + 1) ≤ nw) from by omega) (show nw - (i + 1) < nw - i from by omega)
                · skip
                  exact absurd c7 (by omega)
    · skip
      refine z_lload S d_M_share_15 3 rfl ?_
      refine z_aload_n S d_M_share_17 0 rfl ?_
      refine z_get S hK la_M 0 rfl rfl 10 (by decide) k_M_29 rfl d_M_share_18 ?_
      refine z_iload S d_M_share_21 4 rfl ?_
      refine z_lald (x := ((we i : Nat) : Int)) S hK 1 1 rfl rfl i rfl (by omega) (by decide) rfl d_M_share_23 ?_
      refine z_ladd S d_M_share_24 ?_
      refine z_topl (fun x15 ex15 => ?_)
      refine z_lstore (lv' := [(4, .long (zL x15)), (0, .ref mo), (1, .long (zL (wh : Int))), (3, .int (zI (kx : Int))), (6, .int (zI (i : Int)))]) S d_M_share_25 (by decide) rfl ?_
      refine z_iinc (y := ((i + 1 : Nat) : Int)) (lv' := [(6, .int (zI ((i + 1 : Nat) : Int))), (4, .long (zL x15)), (0, .ref mo), (1, .long (zL (wh : Int))), (3, .int (zI (kx : Int)))]) S d_M_share_27 4 rfl (by omega) (by decide) rfl ?_
      have hs1 : smW we (i + 1) = smW we i + we i := rfl
      refine z_goto (tgt := 6) S d_M_share_30 (by decide) ?_
      refine z_lv (lv' := [(0, .ref mo), (1, .long (zL (wh : Int))), (3, .int (zI (kx : Int))), (4, .long (zL x15)), (6, .int (zI ((i + 1 : Nat) : Int)))]) [2, 3, 4, 1, 0] rfl ?_
      refine z_lq (lv' := [(0, .ref mo), (1, .long (zL (wh : Int))), (3, .int (zI (kx : Int))), (4, .long (zL ((smW we (i + 1) : Nat) : Int))), (6, .int (zI ((i + 1 : Nat) : Int)))]) (congrArg (fun zzz : Int => ([(0, .ref mo), (1, .long (zL (wh : Int))), (3, .int (zI (kx : Int))), (4, .long (zL zzz)), (6, .int (zI ((i + 1 : Nat) : Int)))] : List (Nat × Value))) (show (x15 : Int) = ((smW we (i + 1) : Nat) : Int) by omega)) ?_
      exact ih6 (i + 1) (show ((i + 1) ≤ nw) from by omega) (show nw - (i + 1) < nw - i from by omega)
set_option maxHeartbeats 4000000 in
set_option maxRecDepth 100000 in
theorem f1_M_share (l : Launch) (dC : Nat → ClassId) (dI : Nat → Nat → Nat) (cI cL : ClassId) (qT : Nat) (mo : Nat) (mw : Nat) (nv : Nat) (ma : Nat) (mb : Nat) (ns : Nat) (mlo : Nat) (mhi : Nat) (nw : Nat) (mwe : Nat) (mru : Nat) (mrd : Nat) (th : Int) (mg : Nat) (we : Nat → Nat) (wh : Int) (kx : Int) (hnw : nw ≤ 20) (hW : ∀ i, i < nw → we i ≤ 1000000000) (hkr : -2147483648 ≤ kx ∧ kx < 2147483648) (hwr : -9223372036854775808 ≤ wh ∧ wh < 9223372036854775808) (hk : ¬ (0 ≤ kx ∧ kx < (nw : Int))) : Ct l y_M_share (Cond.code y_M_share c_M_share 14 (some .long) :: zB) { frames := 1, cells := 0, slots := 0, locals := 23 } (dC, dI) zcl [(cI, .int), (cL, .long)] (zG cI cL qT) [.ref mo, .long (zL wh), .int (zI kx)] [oM mo th mw (nv : Int) mg ma mb (ns : Int) mlo mhi (nw : Int) mwe mru mrd, aL cL mwe 20 (wA we)] (fun rv wv => rv = .long (zL 0) ∧ wv = [oM mo 1 mw (nv : Int) mg ma mb (ns : Int) mlo mhi (nw : Int) mwe mru mrd, aL cL mwe 20 (wA we)]) 0 0 := by
  refine Cm.ofZ (cc := c_M_share) (maxL := 14) (ret := (some .long)) (by decide) rfl (Nat.le_of_ble_eq_true rfl) rfl ?_
  intro p e s m below meth c A S hr hlo hnm hK hg hA hAe
  have hGok := zG_ok cI cL qT
  show ZZ _ _ _ _ _ _ _ _ _ _ _ _ _ _ _ _ _ _ 0 [(0, .ref mo), (1, .long (zL wh)), (3, .int (zI kx))] [] [oM mo th mw (nv : Int) mg ma mb (ns : Int) mlo mhi (nw : Int) mwe mru mrd, aL cL mwe 20 (wA we)]
  have hs00 : smW we 0 = 0 := rfl
  have hsb := smW_b hW nw (Nat.le_refl _)
  refine z_lconst (z := 0) S d_M_share_0 rfl ?_
  refine z_lstore (lv' := [(4, .long (zL 0)), (0, .ref mo), (1, .long (zL wh)), (3, .int (zI kx))]) S d_M_share_1 (by decide) rfl ?_
  refine z_iconst S d_M_share_3 ?_
  refine z_istore (lv' := [(6, .int (zI 0)), (4, .long (zL 0)), (0, .ref mo), (1, .long (zL wh)), (3, .int (zI kx))]) S d_M_share_4 (by decide) rfl ?_
  refine z_lv (lv' := [(0, .ref mo), (1, .long (zL wh)), (3, .int (zI kx)), (4, .long (zL 0)), (6, .int (zI 0))]) [2, 3, 4, 1, 0] rfl ?_
  refine z_lq (lv' := [(0, .ref mo), (1, .long (zL wh)), (3, .int (zI kx)), (4, .long (zL ((smW we 0 : Nat) : Int))), (6, .int (zI ((0 : Nat) : Int)))]) (Eq.trans ((congrArg (fun zzz : Int => ([(0, .ref mo), (1, .long (zL wh)), (3, .int (zI kx)), (4, .long (zL zzz)), (6, .int (zI 0))] : List (Nat × Value))) (show (0 : Int) = ((smW we 0 : Nat) : Int) by omega))) (congrArg (fun zzz : Int => ([(0, .ref mo), (1, .long (zL wh)), (3, .int (zI kx)), (4, .long (zL ((smW we 0 : Nat) : Int))), (6, .int (zI zzz))] : List (Nat × Value))) (show (0 : Int) = ((0 : Nat) : Int) by omega))) ?_
  refine z_loop (I := fun (i : Nat) => (i ≤ nw)) (μ := fun (i : Nat) => nw - i) (LV := fun (i : Nat) => [(0, .ref mo), (1, .long (zL wh)), (3, .int (zI kx)), (4, .long (zL ((smW we i : Nat) : Int))), (6, .int (zI (i : Int)))]) (WS := fun (i : Nat) => [oM mo th mw (nv : Int) mg ma mb (ns : Int) mlo mhi (nw : Int) mwe mru mrd, aL cL mwe 20 (wA we)]) (a := 0) ?_ ?_
  · exact (show (0 ≤ nw) from by omega)
  · intro i hI ih6
    have hi : i ≤ nw := hI
    show ZZ _ _ _ _ _ _ _ _ _ _ _ _ _ _ _ _ _ _ 6 [(0, .ref mo), (1, .long (zL wh)), (3, .int (zI kx)), (4, .long (zL ((smW we i : Nat) : Int))), (6, .int (zI (i : Int)))] [] [oM mo th mw (nv : Int) mg ma mb (ns : Int) mlo mhi (nw : Int) mwe mru mrd, aL cL mwe 20 (wA we)]
    refine z_iload S d_M_share_6 4 rfl ?_
    refine z_aload_n S d_M_share_8 0 rfl ?_
    refine z_get S hK la_M 0 rfl rfl 9 (by decide) k_M_147 rfl d_M_share_9 ?_
    refine z_icmp_ge (tgt := 33) S d_M_share_12 (by decide) (by omega) (by omega) (fun c1 => ?_) (fun c1 => ?_)
    · skip
      refine z_lq (lv' := [(0, .ref mo), (1, .long (zL wh)), (3, .int (zI kx)), (4, .long (zL ((smW we nw : Nat) : Int))), (6, .int (zI (i : Int)))]) (by rw [show i = nw by omega]) ?_
      refine z_aload_n S d_M_share_33 0 rfl ?_
      refine z_iload_n S d_M_share_34 2 rfl ?_
      refine z_if_lt (tgt := 50) S d_M_share_35 (by decide) (by omega) (fun c2 => ?_) (fun c2 => ?_)
      · skip
        refine z_iconst S d_M_share_50 ?_
        refine z_lload_n S d_M_share_51 1 rfl ?_
        refine z_lconst (z := 0) S d_M_share_52 rfl ?_
        refine z_lcmp_lt (tgt := 69) S d_M_share_53 d_M_share_54 (by decide) (by omega) (by omega) (fun c3 => ?_) (fun c3 => ?_)
        · skip
          refine z_iconst S d_M_share_69 ?_
          refine z_lload S d_M_share_70 3 rfl ?_
          refine z_lconst (z := 0) S d_M_share_72 rfl ?_
          refine z_lcmp_le (tgt := 81) S d_M_share_73 d_M_share_74 (by decide) (by omega) (by omega) (fun c4 => ?_) (fun c4 => ?_)
          · skip
            refine z_iconst S d_M_share_81 ?_
            refine z_callVa (As := [.int (zI 0), .int (zI 0), .int (zI 0)]) (st := []) (wc := [oM mo th mw (nv : Int) mg ma mb (ns : Int) mlo mhi (nw : Int) mwe mru mrd]) (wr := [aL cL mwe 20 (wA we)]) S hGok hK hg hA (s_M_goes l dC dI cI cL qT mo mw nv ma mb ns mlo mhi nw mwe mru mrd th mg 0 0 0 (by omega) (by omega) (by omega)) (zcwV S (List.mem_cons_of_mem _ k_M_118) mV_M_goes k_M_118 hd_M_goes rfl rfl ⟨Nat.le_of_ble_eq_true rfl, Nat.le_of_ble_eq_true rfl⟩) rfl (Nat.le_of_ble_eq_true rfl) d_M_share_82 ⟨Nat.le_of_ble_eq_true rfl, Nat.le_of_ble_eq_true rfl⟩ rfl [0] [1] 0 rfl rfl rfl (by decide) rfl rfl rfl (by decide) (by decide) (fun x w hp => ?_)
            obtain ⟨rfl, rfl⟩ := hp
            show ZZ _ _ _ _ _ _ _ _ _ _ _ _ _ _ _ _ _ _ 85 [(0, .ref mo), (1, .long (zL wh)), (3, .int (zI kx)), (4, .long (zL ((smW we nw : Nat) : Int))), (6, .int (zI (i : Int)))] [.int (zI (b2 (gth 0 0 0 = 0)))] [aL cL mwe 20 (wA we), oM mo (gth 0 0 0) mw (nv : Int) mg ma mb (ns : Int) mlo mhi (nw : Int) mwe mru mrd]
            refine z_toi (a := 0) rfl ?_
            refine z_wq (ws' := [aL cL mwe 20 (wA we), oM mo 1 mw (nv : Int) mg ma mb (ns : Int) mlo mhi (nw : Int) mwe mru mrd]) rfl ?_
            refine z_if_ne (tgt := 90) S d_M_share_85 (by decide) (by omega) (fun c5 => ?_) (fun c5 => ?_)
            · skip
              exact absurd c5 (by omega)
            · skip
              refine z_lconst (z := 0) S d_M_share_88 rfl ?_
              exact z_lret (w := [oM mo 1 mw (nv : Int) mg ma mb (ns : Int) mlo mhi (nw : Int) mwe mru mrd, aL cL mwe 20 (wA we)]) S hr hlo hAe d_M_share_89 [1, 0] (by decide) rfl rfl ⟨Nat.le_refl _, Nat.le_refl _⟩ (⟨rfl, rfl⟩)
          · skip
            refine z_iconst S d_M_share_77 ?_
            refine z_goto (tgt := 82) S d_M_share_78 (by decide) ?_
            refine z_callVa (As := [.int (zI 0), .int (zI 0), .int (zI 1)]) (st := []) (wc := [oM mo th mw (nv : Int) mg ma mb (ns : Int) mlo mhi (nw : Int) mwe mru mrd]) (wr := [aL cL mwe 20 (wA we)]) S hGok hK hg hA (s_M_goes l dC dI cI cL qT mo mw nv ma mb ns mlo mhi nw mwe mru mrd th mg 0 0 1 (by omega) (by omega) (by omega)) (zcwV S (List.mem_cons_of_mem _ k_M_118) mV_M_goes k_M_118 hd_M_goes rfl rfl ⟨Nat.le_of_ble_eq_true rfl, Nat.le_of_ble_eq_true rfl⟩) rfl (Nat.le_of_ble_eq_true rfl) d_M_share_82 ⟨Nat.le_of_ble_eq_true rfl, Nat.le_of_ble_eq_true rfl⟩ rfl [0] [1] 0 rfl rfl rfl (by decide) rfl rfl rfl (by decide) (by decide) (fun x w hp => ?_)
            obtain ⟨rfl, rfl⟩ := hp
            show ZZ _ _ _ _ _ _ _ _ _ _ _ _ _ _ _ _ _ _ 85 [(0, .ref mo), (1, .long (zL wh)), (3, .int (zI kx)), (4, .long (zL ((smW we nw : Nat) : Int))), (6, .int (zI (i : Int)))] [.int (zI (b2 (gth 0 0 1 = 0)))] [aL cL mwe 20 (wA we), oM mo (gth 0 0 1) mw (nv : Int) mg ma mb (ns : Int) mlo mhi (nw : Int) mwe mru mrd]
            refine z_toi (a := 0) rfl ?_
            refine z_wq (ws' := [aL cL mwe 20 (wA we), oM mo 1 mw (nv : Int) mg ma mb (ns : Int) mlo mhi (nw : Int) mwe mru mrd]) rfl ?_
            refine z_if_ne (tgt := 90) S d_M_share_85 (by decide) (by omega) (fun c6 => ?_) (fun c6 => ?_)
            · skip
              exact absurd c6 (by omega)
            · skip
              refine z_lconst (z := 0) S d_M_share_88 rfl ?_
              exact z_lret (w := [oM mo 1 mw (nv : Int) mg ma mb (ns : Int) mlo mhi (nw : Int) mwe mru mrd, aL cL mwe 20 (wA we)]) S hr hlo hAe d_M_share_89 [1, 0] (by decide) rfl rfl ⟨Nat.le_refl _, Nat.le_refl _⟩ (⟨rfl, rfl⟩)
        · skip
          refine z_lload_n S d_M_share_57 1 rfl ?_
          refine z_ldc2 (v := 1000000000) (z := 1000000000) S k_M_138 d_M_share_58 (by decide) ?_
          refine z_lcmp_gt (tgt := 69) S d_M_share_61 d_M_share_62 (by decide) (by omega) (by omega) (fun c7 => ?_) (fun c7 => ?_)
          · skip
            refine z_iconst S d_M_share_69 ?_
            refine z_lload S d_M_share_70 3 rfl ?_
            refine z_lconst (z := 0) S d_M_share_72 rfl ?_
            refine z_lcmp_le (tgt := 81) S d_M_share_73 d_M_share_74 (by decide) (by omega) (by omega) (fun c8 => ?_) (fun c8 => ?_)
            · skip
              refine z_iconst S d_M_share_81 ?_
              refine z_callVa (As := [.int (zI 0), .int (zI 0), .int (zI 0)]) (st := []) (wc := [oM mo th mw (nv : Int) mg ma mb (ns : Int) mlo mhi (nw : Int) mwe mru mrd]) (wr := [aL cL mwe 20 (wA we)]) S hGok hK hg hA (s_M_goes l dC dI cI cL qT mo mw nv ma mb ns mlo mhi nw mwe mru mrd th mg 0 0 0 (by omega) (by omega) (by omega)) (zcwV S (List.mem_cons_of_mem _ k_M_118) mV_M_goes k_M_118 hd_M_goes rfl rfl ⟨Nat.le_of_ble_eq_true rfl, Nat.le_of_ble_eq_true rfl⟩) rfl (Nat.le_of_ble_eq_true rfl) d_M_share_82 ⟨Nat.le_of_ble_eq_true rfl, Nat.le_of_ble_eq_true rfl⟩ rfl [0] [1] 0 rfl rfl rfl (by decide) rfl rfl rfl (by decide) (by decide) (fun x w hp => ?_)
              obtain ⟨rfl, rfl⟩ := hp
              show ZZ _ _ _ _ _ _ _ _ _ _ _ _ _ _ _ _ _ _ 85 [(0, .ref mo), (1, .long (zL wh)), (3, .int (zI kx)), (4, .long (zL ((smW we nw : Nat) : Int))), (6, .int (zI (i : Int)))] [.int (zI (b2 (gth 0 0 0 = 0)))] [aL cL mwe 20 (wA we), oM mo (gth 0 0 0) mw (nv : Int) mg ma mb (ns : Int) mlo mhi (nw : Int) mwe mru mrd]
              refine z_toi (a := 0) rfl ?_
              refine z_wq (ws' := [aL cL mwe 20 (wA we), oM mo 1 mw (nv : Int) mg ma mb (ns : Int) mlo mhi (nw : Int) mwe mru mrd]) rfl ?_
              refine z_if_ne (tgt := 90) S d_M_share_85 (by decide) (by omega) (fun c9 => ?_) (fun c9 => ?_)
              · skip
                exact absurd c9 (by omega)
              · skip
                refine z_lconst (z := 0) S d_M_share_88 rfl ?_
                exact z_lret (w := [oM mo 1 mw (nv : Int) mg ma mb (ns : Int) mlo mhi (nw : Int) mwe mru mrd, aL cL mwe 20 (wA we)]) S hr hlo hAe d_M_share_89 [1, 0] (by decide) rfl rfl ⟨Nat.le_refl _, Nat.le_refl _⟩ (⟨rfl, rfl⟩)
            · skip
              refine z_iconst S d_M_share_77 ?_
              refine z_goto (tgt := 82) S d_M_share_78 (by decide) ?_
              refine z_callVa (As := [.int (zI 0), .int (zI 0), .int (zI 1)]) (st := []) (wc := [oM mo th mw (nv : Int) mg ma mb (ns : Int) mlo mhi (nw : Int) mwe mru mrd]) (wr := [aL cL mwe 20 (wA we)]) S hGok hK hg hA (s_M_goes l dC dI cI cL qT mo mw nv ma mb ns mlo mhi nw mwe mru mrd th mg 0 0 1 (by omega) (by omega) (by omega)) (zcwV S (List.mem_cons_of_mem _ k_M_118) mV_M_goes k_M_118 hd_M_goes rfl rfl ⟨Nat.le_of_ble_eq_true rfl, Nat.le_of_ble_eq_true rfl⟩) rfl (Nat.le_of_ble_eq_true rfl) d_M_share_82 ⟨Nat.le_of_ble_eq_true rfl, Nat.le_of_ble_eq_true rfl⟩ rfl [0] [1] 0 rfl rfl rfl (by decide) rfl rfl rfl (by decide) (by decide) (fun x w hp => ?_)
              obtain ⟨rfl, rfl⟩ := hp
              show ZZ _ _ _ _ _ _ _ _ _ _ _ _ _ _ _ _ _ _ 85 [(0, .ref mo), (1, .long (zL wh)), (3, .int (zI kx)), (4, .long (zL ((smW we nw : Nat) : Int))), (6, .int (zI (i : Int)))] [.int (zI (b2 (gth 0 0 1 = 0)))] [aL cL mwe 20 (wA we), oM mo (gth 0 0 1) mw (nv : Int) mg ma mb (ns : Int) mlo mhi (nw : Int) mwe mru mrd]
              refine z_toi (a := 0) rfl ?_
              refine z_wq (ws' := [aL cL mwe 20 (wA we), oM mo 1 mw (nv : Int) mg ma mb (ns : Int) mlo mhi (nw : Int) mwe mru mrd]) rfl ?_
              refine z_if_ne (tgt := 90) S d_M_share_85 (by decide) (by omega) (fun c10 => ?_) (fun c10 => ?_)
              · skip
                exact absurd c10 (by omega)
              · skip
                refine z_lconst (z := 0) S d_M_share_88 rfl ?_
                exact z_lret (w := [oM mo 1 mw (nv : Int) mg ma mb (ns : Int) mlo mhi (nw : Int) mwe mru mrd, aL cL mwe 20 (wA we)]) S hr hlo hAe d_M_share_89 [1, 0] (by decide) rfl rfl ⟨Nat.le_refl _, Nat.le_refl _⟩ (⟨rfl, rfl⟩)
          · skip
            refine z_iconst S d_M_share_65 ?_
            refine z_goto (tgt := 70) S d_M_share_66 (by decide) ?_
            refine z_lload S d_M_share_70 3 rfl ?_
            refine z_lconst (z := 0) S d_M_share_72 rfl ?_
            refine z_lcmp_le (tgt := 81) S d_M_share_73 d_M_share_74 (by decide) (by omega) (by omega) (fun c11 => ?_) (fun c11 => ?_)
            · skip
              refine z_iconst S d_M_share_81 ?_
              refine z_callVa (As := [.int (zI 0), .int (zI 1), .int (zI 0)]) (st := []) (wc := [oM mo th mw (nv : Int) mg ma mb (ns : Int) mlo mhi (nw : Int) mwe mru mrd]) (wr := [aL cL mwe 20 (wA we)]) S hGok hK hg hA (s_M_goes l dC dI cI cL qT mo mw nv ma mb ns mlo mhi nw mwe mru mrd th mg 0 1 0 (by omega) (by omega) (by omega)) (zcwV S (List.mem_cons_of_mem _ k_M_118) mV_M_goes k_M_118 hd_M_goes rfl rfl ⟨Nat.le_of_ble_eq_true rfl, Nat.le_of_ble_eq_true rfl⟩) rfl (Nat.le_of_ble_eq_true rfl) d_M_share_82 ⟨Nat.le_of_ble_eq_true rfl, Nat.le_of_ble_eq_true rfl⟩ rfl [0] [1] 0 rfl rfl rfl (by decide) rfl rfl rfl (by decide) (by decide) (fun x w hp => ?_)
              obtain ⟨rfl, rfl⟩ := hp
              show ZZ _ _ _ _ _ _ _ _ _ _ _ _ _ _ _ _ _ _ 85 [(0, .ref mo), (1, .long (zL wh)), (3, .int (zI kx)), (4, .long (zL ((smW we nw : Nat) : Int))), (6, .int (zI (i : Int)))] [.int (zI (b2 (gth 0 1 0 = 0)))] [aL cL mwe 20 (wA we), oM mo (gth 0 1 0) mw (nv : Int) mg ma mb (ns : Int) mlo mhi (nw : Int) mwe mru mrd]
              refine z_toi (a := 0) rfl ?_
              refine z_wq (ws' := [aL cL mwe 20 (wA we), oM mo 1 mw (nv : Int) mg ma mb (ns : Int) mlo mhi (nw : Int) mwe mru mrd]) rfl ?_
              refine z_if_ne (tgt := 90) S d_M_share_85 (by decide) (by omega) (fun c12 => ?_) (fun c12 => ?_)
              · skip
                exact absurd c12 (by omega)
              · skip
                refine z_lconst (z := 0) S d_M_share_88 rfl ?_
                exact z_lret (w := [oM mo 1 mw (nv : Int) mg ma mb (ns : Int) mlo mhi (nw : Int) mwe mru mrd, aL cL mwe 20 (wA we)]) S hr hlo hAe d_M_share_89 [1, 0] (by decide) rfl rfl ⟨Nat.le_refl _, Nat.le_refl _⟩ (⟨rfl, rfl⟩)
            · skip
              refine z_iconst S d_M_share_77 ?_
              refine z_goto (tgt := 82) S d_M_share_78 (by decide) ?_
              refine z_callVa (As := [.int (zI 0), .int (zI 1), .int (zI 1)]) (st := []) (wc := [oM mo th mw (nv : Int) mg ma mb (ns : Int) mlo mhi (nw : Int) mwe mru mrd]) (wr := [aL cL mwe 20 (wA we)]) S hGok hK hg hA (s_M_goes l dC dI cI cL qT mo mw nv ma mb ns mlo mhi nw mwe mru mrd th mg 0 1 1 (by omega) (by omega) (by omega)) (zcwV S (List.mem_cons_of_mem _ k_M_118) mV_M_goes k_M_118 hd_M_goes rfl rfl ⟨Nat.le_of_ble_eq_true rfl, Nat.le_of_ble_eq_true rfl⟩) rfl (Nat.le_of_ble_eq_true rfl) d_M_share_82 ⟨Nat.le_of_ble_eq_true rfl, Nat.le_of_ble_eq_true rfl⟩ rfl [0] [1] 0 rfl rfl rfl (by decide) rfl rfl rfl (by decide) (by decide) (fun x w hp => ?_)
              obtain ⟨rfl, rfl⟩ := hp
              show ZZ _ _ _ _ _ _ _ _ _ _ _ _ _ _ _ _ _ _ 85 [(0, .ref mo), (1, .long (zL wh)), (3, .int (zI kx)), (4, .long (zL ((smW we nw : Nat) : Int))), (6, .int (zI (i : Int)))] [.int (zI (b2 (gth 0 1 1 = 0)))] [aL cL mwe 20 (wA we), oM mo (gth 0 1 1) mw (nv : Int) mg ma mb (ns : Int) mlo mhi (nw : Int) mwe mru mrd]
              refine z_toi (a := 0) rfl ?_
              refine z_wq (ws' := [aL cL mwe 20 (wA we), oM mo 1 mw (nv : Int) mg ma mb (ns : Int) mlo mhi (nw : Int) mwe mru mrd]) rfl ?_
              refine z_if_ne (tgt := 90) S d_M_share_85 (by decide) (by omega) (fun c13 => ?_) (fun c13 => ?_)
              · skip
                exact absurd c13 (by omega)
              · skip
                refine z_lconst (z := 0) S d_M_share_88 rfl ?_
                exact z_lret (w := [oM mo 1 mw (nv : Int) mg ma mb (ns : Int) mlo mhi (nw : Int) mwe mru mrd, aL cL mwe 20 (wA we)]) S hr hlo hAe d_M_share_89 [1, 0] (by decide) rfl rfl ⟨Nat.le_refl _, Nat.le_refl _⟩ (⟨rfl, rfl⟩)
      · skip
        refine z_iload_n S d_M_share_38 2 rfl ?_
        refine z_aload_n S d_M_share_39 0 rfl ?_
        refine z_get S hK la_M 0 rfl rfl 9 (by decide) k_M_147 rfl d_M_share_40 ?_
        refine z_icmp_ge (tgt := 50) S d_M_share_43 (by decide) (by omega) (by omega) (fun c14 => ?_) (fun c14 => ?_)
        · skip
          refine z_iconst S d_M_share_50 ?_
          refine z_lload_n S d_M_share_51 1 rfl ?_
          refine z_lconst (z := 0) S d_M_share_52 rfl ?_
          refine z_lcmp_lt (tgt := 69) S d_M_share_53 d_M_share_54 (by decide) (by omega) (by omega) (fun c15 => ?_) (fun c15 => ?_)
          · skip
            refine z_iconst S d_M_share_69 ?_
            refine z_lload S d_M_share_70 3 rfl ?_
            refine z_lconst (z := 0) S d_M_share_72 rfl ?_
            refine z_lcmp_le (tgt := 81) S d_M_share_73 d_M_share_74 (by decide) (by omega) (by omega) (fun c16 => ?_) (fun c16 => ?_)
            · skip
              refine z_iconst S d_M_share_81 ?_
              refine z_callVa (As := [.int (zI 0), .int (zI 0), .int (zI 0)]) (st := []) (wc := [oM mo th mw (nv : Int) mg ma mb (ns : Int) mlo mhi (nw : Int) mwe mru mrd]) (wr := [aL cL mwe 20 (wA we)]) S hGok hK hg hA (s_M_goes l dC dI cI cL qT mo mw nv ma mb ns mlo mhi nw mwe mru mrd th mg 0 0 0 (by omega) (by omega) (by omega)) (zcwV S (List.mem_cons_of_mem _ k_M_118) mV_M_goes k_M_118 hd_M_goes rfl rfl ⟨Nat.le_of_ble_eq_true rfl, Nat.le_of_ble_eq_true rfl⟩) rfl (Nat.le_of_ble_eq_true rfl) d_M_share_82 ⟨Nat.le_of_ble_eq_true rfl, Nat.le_of_ble_eq_true rfl⟩ rfl [0] [1] 0 rfl rfl rfl (by decide) rfl rfl rfl (by decide) (by decide) (fun x w hp => ?_)
              obtain ⟨rfl, rfl⟩ := hp
              show ZZ _ _ _ _ _ _ _ _ _ _ _ _ _ _ _ _ _ _ 85 [(0, .ref mo), (1, .long (zL wh)), (3, .int (zI kx)), (4, .long (zL ((smW we nw : Nat) : Int))), (6, .int (zI (i : Int)))] [.int (zI (b2 (gth 0 0 0 = 0)))] [aL cL mwe 20 (wA we), oM mo (gth 0 0 0) mw (nv : Int) mg ma mb (ns : Int) mlo mhi (nw : Int) mwe mru mrd]
              refine z_toi (a := 0) rfl ?_
              refine z_wq (ws' := [aL cL mwe 20 (wA we), oM mo 1 mw (nv : Int) mg ma mb (ns : Int) mlo mhi (nw : Int) mwe mru mrd]) rfl ?_
              refine z_if_ne (tgt := 90) S d_M_share_85 (by decide) (by omega) (fun c17 => ?_) (fun c17 => ?_)
              · skip
                exact absurd c17 (by omega)
              · skip
                refine z_lconst (z := 0) S d_M_share_88 rfl ?_
                exact z_lret (w := [oM mo 1 mw (nv : Int) mg ma mb (ns : Int) mlo mhi (nw : Int) mwe mru mrd, aL cL mwe 20 (wA we)]) S hr hlo hAe d_M_share_89 [1, 0] (by decide) rfl rfl ⟨Nat.le_refl _, Nat.le_refl _⟩ (⟨rfl, rfl⟩)
            · skip
              refine z_iconst S d_M_share_77 ?_
              refine z_goto (tgt := 82) S d_M_share_78 (by decide) ?_
              refine z_callVa (As := [.int (zI 0), .int (zI 0), .int (zI 1)]) (st := []) (wc := [oM mo th mw (nv : Int) mg ma mb (ns : Int) mlo mhi (nw : Int) mwe mru mrd]) (wr := [aL cL mwe 20 (wA we)]) S hGok hK hg hA (s_M_goes l dC dI cI cL qT mo mw nv ma mb ns mlo mhi nw mwe mru mrd th mg 0 0 1 (by omega) (by omega) (by omega)) (zcwV S (List.mem_cons_of_mem _ k_M_118) mV_M_goes k_M_118 hd_M_goes rfl rfl ⟨Nat.le_of_ble_eq_true rfl, Nat.le_of_ble_eq_true rfl⟩) rfl (Nat.le_of_ble_eq_true rfl) d_M_share_82 ⟨Nat.le_of_ble_eq_true rfl, Nat.le_of_ble_eq_true rfl⟩ rfl [0] [1] 0 rfl rfl rfl (by decide) rfl rfl rfl (by decide) (by decide) (fun x w hp => ?_)
              obtain ⟨rfl, rfl⟩ := hp
              show ZZ _ _ _ _ _ _ _ _ _ _ _ _ _ _ _ _ _ _ 85 [(0, .ref mo), (1, .long (zL wh)), (3, .int (zI kx)), (4, .long (zL ((smW we nw : Nat) : Int))), (6, .int (zI (i : Int)))] [.int (zI (b2 (gth 0 0 1 = 0)))] [aL cL mwe 20 (wA we), oM mo (gth 0 0 1) mw (nv : Int) mg ma mb (ns : Int) mlo mhi (nw : Int) mwe mru mrd]
              refine z_toi (a := 0) rfl ?_
              refine z_wq (ws' := [aL cL mwe 20 (wA we), oM mo 1 mw (nv : Int) mg ma mb (ns : Int) mlo mhi (nw : Int) mwe mru mrd]) rfl ?_
              refine z_if_ne (tgt := 90) S d_M_share_85 (by decide) (by omega) (fun c18 => ?_) (fun c18 => ?_)
              · skip
                exact absurd c18 (by omega)
              · skip
                refine z_lconst (z := 0) S d_M_share_88 rfl ?_
                exact z_lret (w := [oM mo 1 mw (nv : Int) mg ma mb (ns : Int) mlo mhi (nw : Int) mwe mru mrd, aL cL mwe 20 (wA we)]) S hr hlo hAe d_M_share_89 [1, 0] (by decide) rfl rfl ⟨Nat.le_refl _, Nat.le_refl _⟩ (⟨rfl, rfl⟩)
          · skip
            refine z_lload_n S d_M_share_57 1 rfl ?_
            refine z_ldc2 (v := 1000000000) (z := 1000000000) S k_M_138 d_M_share_58 (by decide) ?_
            refine z_lcmp_gt (tgt := 69) S d_M_share_61 d_M_share_62 (by decide) (by omega) (by omega) (fun c19 => ?_) (fun c19 => ?_)
            · skip
              refine z_iconst S d_M_share_69 ?_
              refine z_lload S d_M_share_70 3 rfl ?_
              refine z_lconst (z := 0) S d_M_share_72 rfl ?_
              refine z_lcmp_le (tgt := 81) S d_M_share_73 d_M_share_74 (by decide) (by omega) (by omega) (fun c20 => ?_) (fun c20 => ?_)
              · skip
                refine z_iconst S d_M_share_81 ?_
                refine z_callVa (As := [.int (zI 0), .int (zI 0), .int (zI 0)]) (st := []) (wc := [oM mo th mw (nv : Int) mg ma mb (ns : Int) mlo mhi (nw : Int) mwe mru mrd]) (wr := [aL cL mwe 20 (wA we)]) S hGok hK hg hA (s_M_goes l dC dI cI cL qT mo mw nv ma mb ns mlo mhi nw mwe mru mrd th mg 0 0 0 (by omega) (by omega) (by omega)) (zcwV S (List.mem_cons_of_mem _ k_M_118) mV_M_goes k_M_118 hd_M_goes rfl rfl ⟨Nat.le_of_ble_eq_true rfl, Nat.le_of_ble_eq_true rfl⟩) rfl (Nat.le_of_ble_eq_true rfl) d_M_share_82 ⟨Nat.le_of_ble_eq_true rfl, Nat.le_of_ble_eq_true rfl⟩ rfl [0] [1] 0 rfl rfl rfl (by decide) rfl rfl rfl (by decide) (by decide) (fun x w hp => ?_)
                obtain ⟨rfl, rfl⟩ := hp
                show ZZ _ _ _ _ _ _ _ _ _ _ _ _ _ _ _ _ _ _ 85 [(0, .ref mo), (1, .long (zL wh)), (3, .int (zI kx)), (4, .long (zL ((smW we nw : Nat) : Int))), (6, .int (zI (i : Int)))] [.int (zI (b2 (gth 0 0 0 = 0)))] [aL cL mwe 20 (wA we), oM mo (gth 0 0 0) mw (nv : Int) mg ma mb (ns : Int) mlo mhi (nw : Int) mwe mru mrd]
                refine z_toi (a := 0) rfl ?_
                refine z_wq (ws' := [aL cL mwe 20 (wA we), oM mo 1 mw (nv : Int) mg ma mb (ns : Int) mlo mhi (nw : Int) mwe mru mrd]) rfl ?_
                refine z_if_ne (tgt := 90) S d_M_share_85 (by decide) (by omega) (fun c21 => ?_) (fun c21 => ?_)
                · skip
                  exact absurd c21 (by omega)
                · skip
                  refine z_lconst (z := 0) S d_M_share_88 rfl ?_
                  exact z_lret (w := [oM mo 1 mw (nv : Int) mg ma mb (ns : Int) mlo mhi (nw : Int) mwe mru mrd, aL cL mwe 20 (wA we)]) S hr hlo hAe d_M_share_89 [1, 0] (by decide) rfl rfl ⟨Nat.le_refl _, Nat.le_refl _⟩ (⟨rfl, rfl⟩)
              · skip
                refine z_iconst S d_M_share_77 ?_
                refine z_goto (tgt := 82) S d_M_share_78 (by decide) ?_
                refine z_callVa (As := [.int (zI 0), .int (zI 0), .int (zI 1)]) (st := []) (wc := [oM mo th mw (nv : Int) mg ma mb (ns : Int) mlo mhi (nw : Int) mwe mru mrd]) (wr := [aL cL mwe 20 (wA we)]) S hGok hK hg hA (s_M_goes l dC dI cI cL qT mo mw nv ma mb ns mlo mhi nw mwe mru mrd th mg 0 0 1 (by omega) (by omega) (by omega)) (zcwV S (List.mem_cons_of_mem _ k_M_118) mV_M_goes k_M_118 hd_M_goes rfl rfl ⟨Nat.le_of_ble_eq_true rfl, Nat.le_of_ble_eq_true rfl⟩) rfl (Nat.le_of_ble_eq_true rfl) d_M_share_82 ⟨Nat.le_of_ble_eq_true rfl, Nat.le_of_ble_eq_true rfl⟩ rfl [0] [1] 0 rfl rfl rfl (by decide) rfl rfl rfl (by decide) (by decide) (fun x w hp => ?_)
                obtain ⟨rfl, rfl⟩ := hp
                show ZZ _ _ _ _ _ _ _ _ _ _ _ _ _ _ _ _ _ _ 85 [(0, .ref mo), (1, .long (zL wh)), (3, .int (zI kx)), (4, .long (zL ((smW we nw : Nat) : Int))), (6, .int (zI (i : Int)))] [.int (zI (b2 (gth 0 0 1 = 0)))] [aL cL mwe 20 (wA we), oM mo (gth 0 0 1) mw (nv : Int) mg ma mb (ns : Int) mlo mhi (nw : Int) mwe mru mrd]
                refine z_toi (a := 0) rfl ?_
                refine z_wq (ws' := [aL cL mwe 20 (wA we), oM mo 1 mw (nv : Int) mg ma mb (ns : Int) mlo mhi (nw : Int) mwe mru mrd]) rfl ?_
                refine z_if_ne (tgt := 90) S d_M_share_85 (by decide) (by omega) (fun c22 => ?_) (fun c22 => ?_)
                · skip
                  exact absurd c22 (by omega)
                · skip
                  refine z_lconst (z := 0) S d_M_share_88 rfl ?_
                  exact z_lret (w := [oM mo 1 mw (nv : Int) mg ma mb (ns : Int) mlo mhi (nw : Int) mwe mru mrd, aL cL mwe 20 (wA we)]) S hr hlo hAe d_M_share_89 [1, 0] (by decide) rfl rfl ⟨Nat.le_refl _, Nat.le_refl _⟩ (⟨rfl, rfl⟩)
            · skip
              refine z_iconst S d_M_share_65 ?_
              refine z_goto (tgt := 70) S d_M_share_66 (by decide) ?_
              refine z_lload S d_M_share_70 3 rfl ?_
              refine z_lconst (z := 0) S d_M_share_72 rfl ?_
              refine z_lcmp_le (tgt := 81) S d_M_share_73 d_M_share_74 (by decide) (by omega) (by omega) (fun c23 => ?_) (fun c23 => ?_)
              · skip
                refine z_iconst S d_M_share_81 ?_
                refine z_callVa (As := [.int (zI 0), .int (zI 1), .int (zI 0)]) (st := []) (wc := [oM mo th mw (nv : Int) mg ma mb (ns : Int) mlo mhi (nw : Int) mwe mru mrd]) (wr := [aL cL mwe 20 (wA we)]) S hGok hK hg hA (s_M_goes l dC dI cI cL qT mo mw nv ma mb ns mlo mhi nw mwe mru mrd th mg 0 1 0 (by omega) (by omega) (by omega)) (zcwV S (List.mem_cons_of_mem _ k_M_118) mV_M_goes k_M_118 hd_M_goes rfl rfl ⟨Nat.le_of_ble_eq_true rfl, Nat.le_of_ble_eq_true rfl⟩) rfl (Nat.le_of_ble_eq_true rfl) d_M_share_82 ⟨Nat.le_of_ble_eq_true rfl, Nat.le_of_ble_eq_true rfl⟩ rfl [0] [1] 0 rfl rfl rfl (by decide) rfl rfl rfl (by decide) (by decide) (fun x w hp => ?_)
                obtain ⟨rfl, rfl⟩ := hp
                show ZZ _ _ _ _ _ _ _ _ _ _ _ _ _ _ _ _ _ _ 85 [(0, .ref mo), (1, .long (zL wh)), (3, .int (zI kx)), (4, .long (zL ((smW we nw : Nat) : Int))), (6, .int (zI (i : Int)))] [.int (zI (b2 (gth 0 1 0 = 0)))] [aL cL mwe 20 (wA we), oM mo (gth 0 1 0) mw (nv : Int) mg ma mb (ns : Int) mlo mhi (nw : Int) mwe mru mrd]
                refine z_toi (a := 0) rfl ?_
                refine z_wq (ws' := [aL cL mwe 20 (wA we), oM mo 1 mw (nv : Int) mg ma mb (ns : Int) mlo mhi (nw : Int) mwe mru mrd]) rfl ?_
                refine z_if_ne (tgt := 90) S d_M_share_85 (by decide) (by omega) (fun c24 => ?_) (fun c24 => ?_)
                · skip
                  exact absurd c24 (by omega)
                · skip
                  refine z_lconst (z := 0) S d_M_share_88 rfl ?_
                  exact z_lret (w := [oM mo 1 mw (nv : Int) mg ma mb (ns : Int) mlo mhi (nw : Int) mwe mru mrd, aL cL mwe 20 (wA we)]) S hr hlo hAe d_M_share_89 [1, 0] (by decide) rfl rfl ⟨Nat.le_refl _, Nat.le_refl _⟩ (⟨rfl, rfl⟩)
              · skip
                refine z_iconst S d_M_share_77 ?_
                refine z_goto (tgt := 82) S d_M_share_78 (by decide) ?_
                refine z_callVa (As := [.int (zI 0), .int (zI 1), .int (zI 1)]) (st := []) (wc := [oM mo th mw (nv : Int) mg ma mb (ns : Int) mlo mhi (nw : Int) mwe mru mrd]) (wr := [aL cL mwe 20 (wA we)]) S hGok hK hg hA (s_M_goes l dC dI cI cL qT mo mw nv ma mb ns mlo mhi nw mwe mru mrd th mg 0 1 1 (by omega) (by omega) (by omega)) (zcwV S (List.mem_cons_of_mem _ k_M_118) mV_M_goes k_M_118 hd_M_goes rfl rfl ⟨Nat.le_of_ble_eq_true rfl, Nat.le_of_ble_eq_true rfl⟩) rfl (Nat.le_of_ble_eq_true rfl) d_M_share_82 ⟨Nat.le_of_ble_eq_true rfl, Nat.le_of_ble_eq_true rfl⟩ rfl [0] [1] 0 rfl rfl rfl (by decide) rfl rfl rfl (by decide) (by decide) (fun x w hp => ?_)
                obtain ⟨rfl, rfl⟩ := hp
                show ZZ _ _ _ _ _ _ _ _ _ _ _ _ _ _ _ _ _ _ 85 [(0, .ref mo), (1, .long (zL wh)), (3, .int (zI kx)), (4, .long (zL ((smW we nw : Nat) : Int))), (6, .int (zI (i : Int)))] [.int (zI (b2 (gth 0 1 1 = 0)))] [aL cL mwe 20 (wA we), oM mo (gth 0 1 1) mw (nv : Int) mg ma mb (ns : Int) mlo mhi (nw : Int) mwe mru mrd]
                refine z_toi (a := 0) rfl ?_
                refine z_wq (ws' := [aL cL mwe 20 (wA we), oM mo 1 mw (nv : Int) mg ma mb (ns : Int) mlo mhi (nw : Int) mwe mru mrd]) rfl ?_
                refine z_if_ne (tgt := 90) S d_M_share_85 (by decide) (by omega) (fun c25 => ?_) (fun c25 => ?_)
                · skip
                  exact absurd c25 (by omega)
                · skip
                  refine z_lconst (z := 0) S d_M_share_88 rfl ?_
                  exact z_lret (w := [oM mo 1 mw (nv : Int) mg ma mb (ns : Int) mlo mhi (nw : Int) mwe mru mrd, aL cL mwe 20 (wA we)]) S hr hlo hAe d_M_share_89 [1, 0] (by decide) rfl rfl ⟨Nat.le_refl _, Nat.le_refl _⟩ (⟨rfl, rfl⟩)
        · skip
          omega
    · skip
      refine z_lload S d_M_share_15 3 rfl ?_
      refine z_aload_n S d_M_share_17 0 rfl ?_
      refine z_get S hK la_M 0 rfl rfl 10 (by decide) k_M_29 rfl d_M_share_18 ?_
      refine z_iload S d_M_share_21 4 rfl ?_
      refine z_lald (x := ((we i : Nat) : Int)) S hK 1 1 rfl rfl i rfl (by omega) (by decide) rfl d_M_share_23 ?_
      refine z_ladd S d_M_share_24 ?_
      refine z_topl (fun x26 ex26 => ?_)
      refine z_lstore (lv' := [(4, .long (zL x26)), (0, .ref mo), (1, .long (zL wh)), (3, .int (zI kx)), (6, .int (zI (i : Int)))]) S d_M_share_25 (by decide) rfl ?_
      refine z_iinc (y := ((i + 1 : Nat) : Int)) (lv' := [(6, .int (zI ((i + 1 : Nat) : Int))), (4, .long (zL x26)), (0, .ref mo), (1, .long (zL wh)), (3, .int (zI kx))]) S d_M_share_27 4 rfl (by omega) (by decide) rfl ?_
      have hs1 : smW we (i + 1) = smW we i + we i := rfl
      refine z_goto (tgt := 6) S d_M_share_30 (by decide) ?_
      refine z_lv (lv' := [(0, .ref mo), (1, .long (zL wh)), (3, .int (zI kx)), (4, .long (zL x26)), (6, .int (zI ((i + 1 : Nat) : Int)))]) [2, 3, 4, 1, 0] rfl ?_
      refine z_lq (lv' := [(0, .ref mo), (1, .long (zL wh)), (3, .int (zI kx)), (4, .long (zL ((smW we (i + 1) : Nat) : Int))), (6, .int (zI ((i + 1 : Nat) : Int)))]) (congrArg (fun zzz : Int => ([(0, .ref mo), (1, .long (zL wh)), (3, .int (zI kx)), (4, .long (zL zzz)), (6, .int (zI ((i + 1 : Nat) : Int)))] : List (Nat × Value))) (show (x26 : Int) = ((smW we (i + 1) : Nat) : Int) by omega)) ?_
      exact ih6 (i + 1) (show ((i + 1) ≤ nw) from by omega) (show nw - (i + 1) < nw - i from by omega)
set_option maxHeartbeats 4000000 in
set_option maxRecDepth 100000 in
theorem f2_M_share (l : Launch) (dC : Nat → ClassId) (dI : Nat → Nat → Nat) (cI cL : ClassId) (qT : Nat) (mo : Nat) (mw : Nat) (nv : Nat) (ma : Nat) (mb : Nat) (ns : Nat) (mlo : Nat) (mhi : Nat) (nw : Nat) (mwe : Nat) (mru : Nat) (mrd : Nat) (th : Int) (mg : Nat) (we : Nat → Nat) (wh : Int) (kx : Nat) (hnw : nw ≤ 20) (hW : ∀ i, i < nw → we i ≤ 1000000000) (hwr : -9223372036854775808 ≤ wh ∧ wh < 9223372036854775808) (hk : kx < nw) (hwh : ¬ (0 ≤ wh ∧ wh ≤ 1000000000)) : Ct l y_M_share (Cond.code y_M_share c_M_share 14 (some .long) :: zB) { frames := 1, cells := 0, slots := 0, locals := 23 } (dC, dI) zcl [(cI, .int), (cL, .long)] (zG cI cL qT) [.ref mo, .long (zL wh), .int (zI (kx : Int))] [oM mo th mw (nv : Int) mg ma mb (ns : Int) mlo mhi (nw : Int) mwe mru mrd, aL cL mwe 20 (wA we)] (fun rv wv => rv = .long (zL 0) ∧ wv = [oM mo 2 mw (nv : Int) mg ma mb (ns : Int) mlo mhi (nw : Int) mwe mru mrd, aL cL mwe 20 (wA we)]) 0 0 := by
  refine Cm.ofZ (cc := c_M_share) (maxL := 14) (ret := (some .long)) (by decide) rfl (Nat.le_of_ble_eq_true rfl) rfl ?_
  intro p e s m below meth c A S hr hlo hnm hK hg hA hAe
  have hGok := zG_ok cI cL qT
  show ZZ _ _ _ _ _ _ _ _ _ _ _ _ _ _ _ _ _ _ 0 [(0, .ref mo), (1, .long (zL wh)), (3, .int (zI (kx : Int)))] [] [oM mo th mw (nv : Int) mg ma mb (ns : Int) mlo mhi (nw : Int) mwe mru mrd, aL cL mwe 20 (wA we)]
  have hs00 : smW we 0 = 0 := rfl
  have hsb := smW_b hW nw (Nat.le_refl _)
  refine z_lconst (z := 0) S d_M_share_0 rfl ?_
  refine z_lstore (lv' := [(4, .long (zL 0)), (0, .ref mo), (1, .long (zL wh)), (3, .int (zI (kx : Int)))]) S d_M_share_1 (by decide) rfl ?_
  refine z_iconst S d_M_share_3 ?_
  refine z_istore (lv' := [(6, .int (zI 0)), (4, .long (zL 0)), (0, .ref mo), (1, .long (zL wh)), (3, .int (zI (kx : Int)))]) S d_M_share_4 (by decide) rfl ?_
  refine z_lv (lv' := [(0, .ref mo), (1, .long (zL wh)), (3, .int (zI (kx : Int))), (4, .long (zL 0)), (6, .int (zI 0))]) [2, 3, 4, 1, 0] rfl ?_
  refine z_lq (lv' := [(0, .ref mo), (1, .long (zL wh)), (3, .int (zI (kx : Int))), (4, .long (zL ((smW we 0 : Nat) : Int))), (6, .int (zI ((0 : Nat) : Int)))]) (Eq.trans ((congrArg (fun zzz : Int => ([(0, .ref mo), (1, .long (zL wh)), (3, .int (zI (kx : Int))), (4, .long (zL zzz)), (6, .int (zI 0))] : List (Nat × Value))) (show (0 : Int) = ((smW we 0 : Nat) : Int) by omega))) (congrArg (fun zzz : Int => ([(0, .ref mo), (1, .long (zL wh)), (3, .int (zI (kx : Int))), (4, .long (zL ((smW we 0 : Nat) : Int))), (6, .int (zI zzz))] : List (Nat × Value))) (show (0 : Int) = ((0 : Nat) : Int) by omega))) ?_
  refine z_loop (I := fun (i : Nat) => (i ≤ nw)) (μ := fun (i : Nat) => nw - i) (LV := fun (i : Nat) => [(0, .ref mo), (1, .long (zL wh)), (3, .int (zI (kx : Int))), (4, .long (zL ((smW we i : Nat) : Int))), (6, .int (zI (i : Int)))]) (WS := fun (i : Nat) => [oM mo th mw (nv : Int) mg ma mb (ns : Int) mlo mhi (nw : Int) mwe mru mrd, aL cL mwe 20 (wA we)]) (a := 0) ?_ ?_
  · exact (show (0 ≤ nw) from by omega)
  · intro i hI ih6
    have hi : i ≤ nw := hI
    show ZZ _ _ _ _ _ _ _ _ _ _ _ _ _ _ _ _ _ _ 6 [(0, .ref mo), (1, .long (zL wh)), (3, .int (zI (kx : Int))), (4, .long (zL ((smW we i : Nat) : Int))), (6, .int (zI (i : Int)))] [] [oM mo th mw (nv : Int) mg ma mb (ns : Int) mlo mhi (nw : Int) mwe mru mrd, aL cL mwe 20 (wA we)]
    refine z_iload S d_M_share_6 4 rfl ?_
    refine z_aload_n S d_M_share_8 0 rfl ?_
    refine z_get S hK la_M 0 rfl rfl 9 (by decide) k_M_147 rfl d_M_share_9 ?_
    refine z_icmp_ge (tgt := 33) S d_M_share_12 (by decide) (by omega) (by omega) (fun c1 => ?_) (fun c1 => ?_)
    · skip
      refine z_lq (lv' := [(0, .ref mo), (1, .long (zL wh)), (3, .int (zI (kx : Int))), (4, .long (zL ((smW we nw : Nat) : Int))), (6, .int (zI (i : Int)))]) (by rw [show i = nw by omega]) ?_
      refine z_aload_n S d_M_share_33 0 rfl ?_
      refine z_iload_n S d_M_share_34 2 rfl ?_
      refine z_if_lt (tgt := 50) S d_M_share_35 (by decide) (by omega) (fun c2 => ?_) (fun c2 => ?_)
      · skip
        omega
      · skip
        refine z_iload_n S d_M_share_38 2 rfl ?_
        refine z_aload_n S d_M_share_39 0 rfl ?_
        refine z_get S hK la_M 0 rfl rfl 9 (by decide) k_M_147 rfl d_M_share_40 ?_
        refine z_icmp_ge (tgt := 50) S d_M_share_43 (by decide) (by omega) (by omega) (fun c3 => ?_) (fun c3 => ?_)
        · skip
          omega
        · skip
          refine z_iconst S d_M_share_46 ?_
          refine z_goto (tgt := 51) S d_M_share_47 (by decide) ?_
          refine z_lload_n S d_M_share_51 1 rfl ?_
          refine z_lconst (z := 0) S d_M_share_52 rfl ?_
          refine z_lcmp_lt (tgt := 69) S d_M_share_53 d_M_share_54 (by decide) (by omega) (by omega) (fun c4 => ?_) (fun c4 => ?_)
          · skip
            refine z_iconst S d_M_share_69 ?_
            refine z_lload S d_M_share_70 3 rfl ?_
            refine z_lconst (z := 0) S d_M_share_72 rfl ?_
            refine z_lcmp_le (tgt := 81) S d_M_share_73 d_M_share_74 (by decide) (by omega) (by omega) (fun c5 => ?_) (fun c5 => ?_)
            · skip
              refine z_iconst S d_M_share_81 ?_
              refine z_callVa (As := [.int (zI 1), .int (zI 0), .int (zI 0)]) (st := []) (wc := [oM mo th mw (nv : Int) mg ma mb (ns : Int) mlo mhi (nw : Int) mwe mru mrd]) (wr := [aL cL mwe 20 (wA we)]) S hGok hK hg hA (s_M_goes l dC dI cI cL qT mo mw nv ma mb ns mlo mhi nw mwe mru mrd th mg 1 0 0 (by omega) (by omega) (by omega)) (zcwV S (List.mem_cons_of_mem _ k_M_118) mV_M_goes k_M_118 hd_M_goes rfl rfl ⟨Nat.le_of_ble_eq_true rfl, Nat.le_of_ble_eq_true rfl⟩) rfl (Nat.le_of_ble_eq_true rfl) d_M_share_82 ⟨Nat.le_of_ble_eq_true rfl, Nat.le_of_ble_eq_true rfl⟩ rfl [0] [1] 0 rfl rfl rfl (by decide) rfl rfl rfl (by decide) (by decide) (fun x w hp => ?_)
              obtain ⟨rfl, rfl⟩ := hp
              show ZZ _ _ _ _ _ _ _ _ _ _ _ _ _ _ _ _ _ _ 85 [(0, .ref mo), (1, .long (zL wh)), (3, .int (zI (kx : Int))), (4, .long (zL ((smW we nw : Nat) : Int))), (6, .int (zI (i : Int)))] [.int (zI (b2 (gth 1 0 0 = 0)))] [aL cL mwe 20 (wA we), oM mo (gth 1 0 0) mw (nv : Int) mg ma mb (ns : Int) mlo mhi (nw : Int) mwe mru mrd]
              refine z_toi (a := 0) rfl ?_
              refine z_wq (ws' := [aL cL mwe 20 (wA we), oM mo 2 mw (nv : Int) mg ma mb (ns : Int) mlo mhi (nw : Int) mwe mru mrd]) rfl ?_
              refine z_if_ne (tgt := 90) S d_M_share_85 (by decide) (by omega) (fun c6 => ?_) (fun c6 => ?_)
              · skip
                exact absurd c6 (by omega)
              · skip
                refine z_lconst (z := 0) S d_M_share_88 rfl ?_
                exact z_lret (w := [oM mo 2 mw (nv : Int) mg ma mb (ns : Int) mlo mhi (nw : Int) mwe mru mrd, aL cL mwe 20 (wA we)]) S hr hlo hAe d_M_share_89 [1, 0] (by decide) rfl rfl ⟨Nat.le_refl _, Nat.le_refl _⟩ (⟨rfl, rfl⟩)
            · skip
              refine z_iconst S d_M_share_77 ?_
              refine z_goto (tgt := 82) S d_M_share_78 (by decide) ?_
              refine z_callVa (As := [.int (zI 1), .int (zI 0), .int (zI 1)]) (st := []) (wc := [oM mo th mw (nv : Int) mg ma mb (ns : Int) mlo mhi (nw : Int) mwe mru mrd]) (wr := [aL cL mwe 20 (wA we)]) S hGok hK hg hA (s_M_goes l dC dI cI cL qT mo mw nv ma mb ns mlo mhi nw mwe mru mrd th mg 1 0 1 (by omega) (by omega) (by omega)) (zcwV S (List.mem_cons_of_mem _ k_M_118) mV_M_goes k_M_118 hd_M_goes rfl rfl ⟨Nat.le_of_ble_eq_true rfl, Nat.le_of_ble_eq_true rfl⟩) rfl (Nat.le_of_ble_eq_true rfl) d_M_share_82 ⟨Nat.le_of_ble_eq_true rfl, Nat.le_of_ble_eq_true rfl⟩ rfl [0] [1] 0 rfl rfl rfl (by decide) rfl rfl rfl (by decide) (by decide) (fun x w hp => ?_)
              obtain ⟨rfl, rfl⟩ := hp
              show ZZ _ _ _ _ _ _ _ _ _ _ _ _ _ _ _ _ _ _ 85 [(0, .ref mo), (1, .long (zL wh)), (3, .int (zI (kx : Int))), (4, .long (zL ((smW we nw : Nat) : Int))), (6, .int (zI (i : Int)))] [.int (zI (b2 (gth 1 0 1 = 0)))] [aL cL mwe 20 (wA we), oM mo (gth 1 0 1) mw (nv : Int) mg ma mb (ns : Int) mlo mhi (nw : Int) mwe mru mrd]
              refine z_toi (a := 0) rfl ?_
              refine z_wq (ws' := [aL cL mwe 20 (wA we), oM mo 2 mw (nv : Int) mg ma mb (ns : Int) mlo mhi (nw : Int) mwe mru mrd]) rfl ?_
              refine z_if_ne (tgt := 90) S d_M_share_85 (by decide) (by omega) (fun c7 => ?_) (fun c7 => ?_)
              · skip
                exact absurd c7 (by omega)
              · skip
                refine z_lconst (z := 0) S d_M_share_88 rfl ?_
                exact z_lret (w := [oM mo 2 mw (nv : Int) mg ma mb (ns : Int) mlo mhi (nw : Int) mwe mru mrd, aL cL mwe 20 (wA we)]) S hr hlo hAe d_M_share_89 [1, 0] (by decide) rfl rfl ⟨Nat.le_refl _, Nat.le_refl _⟩ (⟨rfl, rfl⟩)
          · skip
            refine z_lload_n S d_M_share_57 1 rfl ?_
            refine z_ldc2 (v := 1000000000) (z := 1000000000) S k_M_138 d_M_share_58 (by decide) ?_
            refine z_lcmp_gt (tgt := 69) S d_M_share_61 d_M_share_62 (by decide) (by omega) (by omega) (fun c8 => ?_) (fun c8 => ?_)
            · skip
              refine z_iconst S d_M_share_69 ?_
              refine z_lload S d_M_share_70 3 rfl ?_
              refine z_lconst (z := 0) S d_M_share_72 rfl ?_
              refine z_lcmp_le (tgt := 81) S d_M_share_73 d_M_share_74 (by decide) (by omega) (by omega) (fun c9 => ?_) (fun c9 => ?_)
              · skip
                refine z_iconst S d_M_share_81 ?_
                refine z_callVa (As := [.int (zI 1), .int (zI 0), .int (zI 0)]) (st := []) (wc := [oM mo th mw (nv : Int) mg ma mb (ns : Int) mlo mhi (nw : Int) mwe mru mrd]) (wr := [aL cL mwe 20 (wA we)]) S hGok hK hg hA (s_M_goes l dC dI cI cL qT mo mw nv ma mb ns mlo mhi nw mwe mru mrd th mg 1 0 0 (by omega) (by omega) (by omega)) (zcwV S (List.mem_cons_of_mem _ k_M_118) mV_M_goes k_M_118 hd_M_goes rfl rfl ⟨Nat.le_of_ble_eq_true rfl, Nat.le_of_ble_eq_true rfl⟩) rfl (Nat.le_of_ble_eq_true rfl) d_M_share_82 ⟨Nat.le_of_ble_eq_true rfl, Nat.le_of_ble_eq_true rfl⟩ rfl [0] [1] 0 rfl rfl rfl (by decide) rfl rfl rfl (by decide) (by decide) (fun x w hp => ?_)
                obtain ⟨rfl, rfl⟩ := hp
                show ZZ _ _ _ _ _ _ _ _ _ _ _ _ _ _ _ _ _ _ 85 [(0, .ref mo), (1, .long (zL wh)), (3, .int (zI (kx : Int))), (4, .long (zL ((smW we nw : Nat) : Int))), (6, .int (zI (i : Int)))] [.int (zI (b2 (gth 1 0 0 = 0)))] [aL cL mwe 20 (wA we), oM mo (gth 1 0 0) mw (nv : Int) mg ma mb (ns : Int) mlo mhi (nw : Int) mwe mru mrd]
                refine z_toi (a := 0) rfl ?_
                refine z_wq (ws' := [aL cL mwe 20 (wA we), oM mo 2 mw (nv : Int) mg ma mb (ns : Int) mlo mhi (nw : Int) mwe mru mrd]) rfl ?_
                refine z_if_ne (tgt := 90) S d_M_share_85 (by decide) (by omega) (fun c10 => ?_) (fun c10 => ?_)
                · skip
                  exact absurd c10 (by omega)
                · skip
                  refine z_lconst (z := 0) S d_M_share_88 rfl ?_
                  exact z_lret (w := [oM mo 2 mw (nv : Int) mg ma mb (ns : Int) mlo mhi (nw : Int) mwe mru mrd, aL cL mwe 20 (wA we)]) S hr hlo hAe d_M_share_89 [1, 0] (by decide) rfl rfl ⟨Nat.le_refl _, Nat.le_refl _⟩ (⟨rfl, rfl⟩)
              · skip
                refine z_iconst S d_M_share_77 ?_
                refine z_goto (tgt := 82) S d_M_share_78 (by decide) ?_
                refine z_callVa (As := [.int (zI 1), .int (zI 0), .int (zI 1)]) (st := []) (wc := [oM mo th mw (nv : Int) mg ma mb (ns : Int) mlo mhi (nw : Int) mwe mru mrd]) (wr := [aL cL mwe 20 (wA we)]) S hGok hK hg hA (s_M_goes l dC dI cI cL qT mo mw nv ma mb ns mlo mhi nw mwe mru mrd th mg 1 0 1 (by omega) (by omega) (by omega)) (zcwV S (List.mem_cons_of_mem _ k_M_118) mV_M_goes k_M_118 hd_M_goes rfl rfl ⟨Nat.le_of_ble_eq_true rfl, Nat.le_of_ble_eq_true rfl⟩) rfl (Nat.le_of_ble_eq_true rfl) d_M_share_82 ⟨Nat.le_of_ble_eq_true rfl, Nat.le_of_ble_eq_true rfl⟩ rfl [0] [1] 0 rfl rfl rfl (by decide) rfl rfl rfl (by decide) (by decide) (fun x w hp => ?_)
                obtain ⟨rfl, rfl⟩ := hp
                show ZZ _ _ _ _ _ _ _ _ _ _ _ _ _ _ _ _ _ _ 85 [(0, .ref mo), (1, .long (zL wh)), (3, .int (zI (kx : Int))), (4, .long (zL ((smW we nw : Nat) : Int))), (6, .int (zI (i : Int)))] [.int (zI (b2 (gth 1 0 1 = 0)))] [aL cL mwe 20 (wA we), oM mo (gth 1 0 1) mw (nv : Int) mg ma mb (ns : Int) mlo mhi (nw : Int) mwe mru mrd]
                refine z_toi (a := 0) rfl ?_
                refine z_wq (ws' := [aL cL mwe 20 (wA we), oM mo 2 mw (nv : Int) mg ma mb (ns : Int) mlo mhi (nw : Int) mwe mru mrd]) rfl ?_
                refine z_if_ne (tgt := 90) S d_M_share_85 (by decide) (by omega) (fun c11 => ?_) (fun c11 => ?_)
                · skip
                  exact absurd c11 (by omega)
                · skip
                  refine z_lconst (z := 0) S d_M_share_88 rfl ?_
                  exact z_lret (w := [oM mo 2 mw (nv : Int) mg ma mb (ns : Int) mlo mhi (nw : Int) mwe mru mrd, aL cL mwe 20 (wA we)]) S hr hlo hAe d_M_share_89 [1, 0] (by decide) rfl rfl ⟨Nat.le_refl _, Nat.le_refl _⟩ (⟨rfl, rfl⟩)
            · skip
              omega
    · skip
      refine z_lload S d_M_share_15 3 rfl ?_
      refine z_aload_n S d_M_share_17 0 rfl ?_
      refine z_get S hK la_M 0 rfl rfl 10 (by decide) k_M_29 rfl d_M_share_18 ?_
      refine z_iload S d_M_share_21 4 rfl ?_
      refine z_lald (x := ((we i : Nat) : Int)) S hK 1 1 rfl rfl i rfl (by omega) (by decide) rfl d_M_share_23 ?_
      refine z_ladd S d_M_share_24 ?_
      refine z_topl (fun x12 ex12 => ?_)
      refine z_lstore (lv' := [(4, .long (zL x12)), (0, .ref mo), (1, .long (zL wh)), (3, .int (zI (kx : Int))), (6, .int (zI (i : Int)))]) S d_M_share_25 (by decide) rfl ?_
      refine z_iinc (y := ((i + 1 : Nat) : Int)) (lv' := [(6, .int (zI ((i + 1 : Nat) : Int))), (4, .long (zL x12)), (0, .ref mo), (1, .long (zL wh)), (3, .int (zI (kx : Int)))]) S d_M_share_27 4 rfl (by omega) (by decide) rfl ?_
      have hs1 : smW we (i + 1) = smW we i + we i := rfl
      refine z_goto (tgt := 6) S d_M_share_30 (by decide) ?_
      refine z_lv (lv' := [(0, .ref mo), (1, .long (zL wh)), (3, .int (zI (kx : Int))), (4, .long (zL x12)), (6, .int (zI ((i + 1 : Nat) : Int)))]) [2, 3, 4, 1, 0] rfl ?_
      refine z_lq (lv' := [(0, .ref mo), (1, .long (zL wh)), (3, .int (zI (kx : Int))), (4, .long (zL ((smW we (i + 1) : Nat) : Int))), (6, .int (zI ((i + 1 : Nat) : Int)))]) (congrArg (fun zzz : Int => ([(0, .ref mo), (1, .long (zL wh)), (3, .int (zI (kx : Int))), (4, .long (zL zzz)), (6, .int (zI ((i + 1 : Nat) : Int)))] : List (Nat × Value))) (show (x12 : Int) = ((smW we (i + 1) : Nat) : Int) by omega)) ?_
      exact ih6 (i + 1) (show ((i + 1) ≤ nw) from by omega) (show nw - (i + 1) < nw - i from by omega)
set_option maxHeartbeats 4000000 in
set_option maxRecDepth 100000 in
theorem f3_M_share (l : Launch) (dC : Nat → ClassId) (dI : Nat → Nat → Nat) (cI cL : ClassId) (qT : Nat) (mo : Nat) (mw : Nat) (nv : Nat) (ma : Nat) (mb : Nat) (ns : Nat) (mlo : Nat) (mhi : Nat) (nw : Nat) (mwe : Nat) (mru : Nat) (mrd : Nat) (th : Int) (mg : Nat) (we : Nat → Nat) (wh : Nat) (kx : Nat) (hnw : nw ≤ 20) (hW : ∀ i, i < nw → we i ≤ 1000000000) (hwh : wh ≤ 1000000000) (hk : kx < nw) (hs0 : smW we nw = 0) : Ct l y_M_share (Cond.code y_M_share c_M_share 14 (some .long) :: zB) { frames := 1, cells := 0, slots := 0, locals := 23 } (dC, dI) zcl [(cI, .int), (cL, .long)] (zG cI cL qT) [.ref mo, .long (zL (wh : Int)), .int (zI (kx : Int))] [oM mo th mw (nv : Int) mg ma mb (ns : Int) mlo mhi (nw : Int) mwe mru mrd, aL cL mwe 20 (wA we)] (fun rv wv => rv = .long (zL 0) ∧ wv = [oM mo 3 mw (nv : Int) mg ma mb (ns : Int) mlo mhi (nw : Int) mwe mru mrd, aL cL mwe 20 (wA we)]) 0 0 := by
  refine Cm.ofZ (cc := c_M_share) (maxL := 14) (ret := (some .long)) (by decide) rfl (Nat.le_of_ble_eq_true rfl) rfl ?_
  intro p e s m below meth c A S hr hlo hnm hK hg hA hAe
  have hGok := zG_ok cI cL qT
  show ZZ _ _ _ _ _ _ _ _ _ _ _ _ _ _ _ _ _ _ 0 [(0, .ref mo), (1, .long (zL (wh : Int))), (3, .int (zI (kx : Int)))] [] [oM mo th mw (nv : Int) mg ma mb (ns : Int) mlo mhi (nw : Int) mwe mru mrd, aL cL mwe 20 (wA we)]
  have hs00 : smW we 0 = 0 := rfl
  have hsb := smW_b hW nw (Nat.le_refl _)
  refine z_lconst (z := 0) S d_M_share_0 rfl ?_
  refine z_lstore (lv' := [(4, .long (zL 0)), (0, .ref mo), (1, .long (zL (wh : Int))), (3, .int (zI (kx : Int)))]) S d_M_share_1 (by decide) rfl ?_
  refine z_iconst S d_M_share_3 ?_
  refine z_istore (lv' := [(6, .int (zI 0)), (4, .long (zL 0)), (0, .ref mo), (1, .long (zL (wh : Int))), (3, .int (zI (kx : Int)))]) S d_M_share_4 (by decide) rfl ?_
  refine z_lv (lv' := [(0, .ref mo), (1, .long (zL (wh : Int))), (3, .int (zI (kx : Int))), (4, .long (zL 0)), (6, .int (zI 0))]) [2, 3, 4, 1, 0] rfl ?_
  refine z_lq (lv' := [(0, .ref mo), (1, .long (zL (wh : Int))), (3, .int (zI (kx : Int))), (4, .long (zL ((smW we 0 : Nat) : Int))), (6, .int (zI ((0 : Nat) : Int)))]) (Eq.trans ((congrArg (fun zzz : Int => ([(0, .ref mo), (1, .long (zL (wh : Int))), (3, .int (zI (kx : Int))), (4, .long (zL zzz)), (6, .int (zI 0))] : List (Nat × Value))) (show (0 : Int) = ((smW we 0 : Nat) : Int) by omega))) (congrArg (fun zzz : Int => ([(0, .ref mo), (1, .long (zL (wh : Int))), (3, .int (zI (kx : Int))), (4, .long (zL ((smW we 0 : Nat) : Int))), (6, .int (zI zzz))] : List (Nat × Value))) (show (0 : Int) = ((0 : Nat) : Int) by omega))) ?_
  refine z_loop (I := fun (i : Nat) => (i ≤ nw)) (μ := fun (i : Nat) => nw - i) (LV := fun (i : Nat) => [(0, .ref mo), (1, .long (zL (wh : Int))), (3, .int (zI (kx : Int))), (4, .long (zL ((smW we i : Nat) : Int))), (6, .int (zI (i : Int)))]) (WS := fun (i : Nat) => [oM mo th mw (nv : Int) mg ma mb (ns : Int) mlo mhi (nw : Int) mwe mru mrd, aL cL mwe 20 (wA we)]) (a := 0) ?_ ?_
  · exact (show (0 ≤ nw) from by omega)
  · intro i hI ih6
    have hi : i ≤ nw := hI
    show ZZ _ _ _ _ _ _ _ _ _ _ _ _ _ _ _ _ _ _ 6 [(0, .ref mo), (1, .long (zL (wh : Int))), (3, .int (zI (kx : Int))), (4, .long (zL ((smW we i : Nat) : Int))), (6, .int (zI (i : Int)))] [] [oM mo th mw (nv : Int) mg ma mb (ns : Int) mlo mhi (nw : Int) mwe mru mrd, aL cL mwe 20 (wA we)]
    refine z_iload S d_M_share_6 4 rfl ?_
    refine z_aload_n S d_M_share_8 0 rfl ?_
    refine z_get S hK la_M 0 rfl rfl 9 (by decide) k_M_147 rfl d_M_share_9 ?_
    refine z_icmp_ge (tgt := 33) S d_M_share_12 (by decide) (by omega) (by omega) (fun c1 => ?_) (fun c1 => ?_)
    · skip
      refine z_lq (lv' := [(0, .ref mo), (1, .long (zL (wh : Int))), (3, .int (zI (kx : Int))), (4, .long (zL ((smW we nw : Nat) : Int))), (6, .int (zI (i : Int)))]) (by rw [show i = nw by omega]) ?_
      refine z_aload_n S d_M_share_33 0 rfl ?_
      refine z_iload_n S d_M_share_34 2 rfl ?_
      refine z_if_lt (tgt := 50) S d_M_share_35 (by decide) (by omega) (fun c2 => ?_) (fun c2 => ?_)
      · skip
        omega
      · skip
        refine z_iload_n S d_M_share_38 2 rfl ?_
        refine z_aload_n S d_M_share_39 0 rfl ?_
        refine z_get S hK la_M 0 rfl rfl 9 (by decide) k_M_147 rfl d_M_share_40 ?_
        refine z_icmp_ge (tgt := 50) S d_M_share_43 (by decide) (by omega) (by omega) (fun c3 => ?_) (fun c3 => ?_)
        · skip
          omega
        · skip
          refine z_iconst S d_M_share_46 ?_
          refine z_goto (tgt := 51) S d_M_share_47 (by decide) ?_
          refine z_lload_n S d_M_share_51 1 rfl ?_
          refine z_lconst (z := 0) S d_M_share_52 rfl ?_
          refine z_lcmp_lt (tgt := 69) S d_M_share_53 d_M_share_54 (by decide) (by omega) (by omega) (fun c4 => ?_) (fun c4 => ?_)
          · skip
            omega
          · skip
            refine z_lload_n S d_M_share_57 1 rfl ?_
            refine z_ldc2 (v := 1000000000) (z := 1000000000) S k_M_138 d_M_share_58 (by decide) ?_
            refine z_lcmp_gt (tgt := 69) S d_M_share_61 d_M_share_62 (by decide) (by omega) (by omega) (fun c5 => ?_) (fun c5 => ?_)
            · skip
              omega
            · skip
              refine z_iconst S d_M_share_65 ?_
              refine z_goto (tgt := 70) S d_M_share_66 (by decide) ?_
              refine z_lload S d_M_share_70 3 rfl ?_
              refine z_lconst (z := 0) S d_M_share_72 rfl ?_
              refine z_lcmp_le (tgt := 81) S d_M_share_73 d_M_share_74 (by decide) (by omega) (by omega) (fun c6 => ?_) (fun c6 => ?_)
              · skip
                refine z_iconst S d_M_share_81 ?_
                refine z_callVa (As := [.int (zI 1), .int (zI 1), .int (zI 0)]) (st := []) (wc := [oM mo th mw (nv : Int) mg ma mb (ns : Int) mlo mhi (nw : Int) mwe mru mrd]) (wr := [aL cL mwe 20 (wA we)]) S hGok hK hg hA (s_M_goes l dC dI cI cL qT mo mw nv ma mb ns mlo mhi nw mwe mru mrd th mg 1 1 0 (by omega) (by omega) (by omega)) (zcwV S (List.mem_cons_of_mem _ k_M_118) mV_M_goes k_M_118 hd_M_goes rfl rfl ⟨Nat.le_of_ble_eq_true rfl, Nat.le_of_ble_eq_true rfl⟩) rfl (Nat.le_of_ble_eq_true rfl) d_M_share_82 ⟨Nat.le_of_ble_eq_true rfl, Nat.le_of_ble_eq_true rfl⟩ rfl [0] [1] 0 rfl rfl rfl (by decide) rfl rfl rfl (by decide) (by decide) (fun x w hp => ?_)
                obtain ⟨rfl, rfl⟩ := hp
                show ZZ _ _ _ _ _ _ _ _ _ _ _ _ _ _ _ _ _ _ 85 [(0, .ref mo), (1, .long (zL (wh : Int))), (3, .int (zI (kx : Int))), (4, .long (zL ((smW we nw : Nat) : Int))), (6, .int (zI (i : Int)))] [.int (zI (b2 (gth 1 1 0 = 0)))] [aL cL mwe 20 (wA we), oM mo (gth 1 1 0) mw (nv : Int) mg ma mb (ns : Int) mlo mhi (nw : Int) mwe mru mrd]
                refine z_toi (a := 0) rfl ?_
                refine z_wq (ws' := [aL cL mwe 20 (wA we), oM mo 3 mw (nv : Int) mg ma mb (ns : Int) mlo mhi (nw : Int) mwe mru mrd]) rfl ?_
                refine z_if_ne (tgt := 90) S d_M_share_85 (by decide) (by omega) (fun c7 => ?_) (fun c7 => ?_)
                · skip
                  exact absurd c7 (by omega)
                · skip
                  refine z_lconst (z := 0) S d_M_share_88 rfl ?_
                  exact z_lret (w := [oM mo 3 mw (nv : Int) mg ma mb (ns : Int) mlo mhi (nw : Int) mwe mru mrd, aL cL mwe 20 (wA we)]) S hr hlo hAe d_M_share_89 [1, 0] (by decide) rfl rfl ⟨Nat.le_refl _, Nat.le_refl _⟩ (⟨rfl, rfl⟩)
              · skip
                omega
    · skip
      refine z_lload S d_M_share_15 3 rfl ?_
      refine z_aload_n S d_M_share_17 0 rfl ?_
      refine z_get S hK la_M 0 rfl rfl 10 (by decide) k_M_29 rfl d_M_share_18 ?_
      refine z_iload S d_M_share_21 4 rfl ?_
      refine z_lald (x := ((we i : Nat) : Int)) S hK 1 1 rfl rfl i rfl (by omega) (by decide) rfl d_M_share_23 ?_
      refine z_ladd S d_M_share_24 ?_
      refine z_topl (fun x8 ex8 => ?_)
      refine z_lstore (lv' := [(4, .long (zL x8)), (0, .ref mo), (1, .long (zL (wh : Int))), (3, .int (zI (kx : Int))), (6, .int (zI (i : Int)))]) S d_M_share_25 (by decide) rfl ?_
      refine z_iinc (y := ((i + 1 : Nat) : Int)) (lv' := [(6, .int (zI ((i + 1 : Nat) : Int))), (4, .long (zL x8)), (0, .ref mo), (1, .long (zL (wh : Int))), (3, .int (zI (kx : Int)))]) S d_M_share_27 4 rfl (by omega) (by decide) rfl ?_
      have hs1 : smW we (i + 1) = smW we i + we i := rfl
      refine z_goto (tgt := 6) S d_M_share_30 (by decide) ?_
      refine z_lv (lv' := [(0, .ref mo), (1, .long (zL (wh : Int))), (3, .int (zI (kx : Int))), (4, .long (zL x8)), (6, .int (zI ((i + 1 : Nat) : Int)))]) [2, 3, 4, 1, 0] rfl ?_
      refine z_lq (lv' := [(0, .ref mo), (1, .long (zL (wh : Int))), (3, .int (zI (kx : Int))), (4, .long (zL ((smW we (i + 1) : Nat) : Int))), (6, .int (zI ((i + 1 : Nat) : Int)))]) (congrArg (fun zzz : Int => ([(0, .ref mo), (1, .long (zL (wh : Int))), (3, .int (zI (kx : Int))), (4, .long (zL zzz)), (6, .int (zI ((i + 1 : Nat) : Int)))] : List (Nat × Value))) (show (x8 : Int) = ((smW we (i + 1) : Nat) : Int) by omega)) ?_
      exact ih6 (i + 1) (show ((i + 1) ≤ nw) from by omega) (show nw - (i + 1) < nw - i from by omega)
set_option maxHeartbeats 4000000 in
set_option maxRecDepth 100000 in
theorem s_M_spanTimes (l : Launch) (dC : Nat → ClassId) (dI : Nat → Nat → Nat) (cI cL : ClassId) (qT : Nat) (mo : Nat) (mw : Nat) (nv : Nat) (ma : Nat) (mb : Nat) (ns : Nat) (mlo : Nat) (mhi : Nat) (nw : Nat) (mwe : Nat) (mru : Nat) (mrd : Nat) (th : Int) (mg : Nat) (rr : Nat → Nat) (sg : Nat → Int) (up : Nat → Nat) (dn : Nat → Nat) (lo : Nat → Nat) (hi : Nat → Nat) (u : Nat) (v : Nat) (e1 : Nat) (e2 : Nat) (hV : okM sg up dn nv) (hE : ∀ i, i < ns → lo i < nv ∧ hi i < nv) (hu : u < ns) (hv : v < nv) (hns : ns < 30) (hnv : nv + 2 ≤ 100) (he1 : e1 = if sg v < 0 then hi u else lo u) (he2 : e2 = if sg v < 0 then lo u else hi u) (hfit : ((lwX (up e1 * up v) (dn e1 * dn v) < 10 ^ 48 ∧ lwZ (up e1 * up v) (dn e1 * dn v) < 10 ^ 48) ∧ (lwX (up e2 * up v) (dn e2 * dn v) < 10 ^ 48 ∧ lwZ (up e2 * up v) (dn e2 * dn v) < 10 ^ 48))) : Ct l y_M_spanTimes (Cond.code y_M_spanTimes c_M_spanTimes 6 (some .int) :: zB) { frames := 5, cells := 0, slots := 0, locals := 128 } (dC, dI) zcl [(cI, .int), (cL, .long)] (zG cI cL qT) [.ref mo, .int (zI (u : Int)), .int (zI (v : Int))] [oM mo th mw (nv : Int) mg ma mb (ns : Int) mlo mhi (nw : Int) mwe mru mrd, aL cL mw 160 (wkA rr), aI cI mg 100 (sgA sg), aL cL ma 800 (moA up), aL cL mb 800 (moA dn), aI cI mlo 30 (eA lo), aI cI mhi 30 (eA hi)] (fun rv wv => ∃ rr2 : Nat → Nat, rv = .int (zI (ns : Int)) ∧ wv = [oM mo 0 mw ((nv + 2 : Nat) : Int) mg ma mb ((ns + 1 : Nat) : Int) mlo mhi (nw : Int) mwe mru mrd, aL cL mw 160 (wkA rr2), aI cI mg 100 (sgA (uz (uz sg nv (sg e1 * sg v)) (nv + 1) (sg e2 * sg v))), aL cL ma 800 (moA (un (un up nv (lwX (up e1 * up v) (dn e1 * dn v))) (nv + 1) (lwX (up e2 * up v) (dn e2 * dn v)))), aL cL mb 800 (moA (un (un dn nv (lwZ (up e1 * up v) (dn e1 * dn v))) (nv + 1) (lwZ (up e2 * up v) (dn e2 * dn v)))), aI cI mlo 30 (eA (un lo ns nv)), aI cI mhi 30 (eA (un hi ns (nv + 1)))]) 0 0 := by
  refine Cm.ofZ (cc := c_M_spanTimes) (maxL := 6) (ret := (some .int)) (by decide) rfl (Nat.le_of_ble_eq_true rfl) rfl ?_
  intro p e s m below meth c A S hr hlo hnm hK hg hA hAe
  have hGok := zG_ok cI cL qT
  show ZZ _ _ _ _ _ _ _ _ _ _ _ _ _ _ _ _ _ _ 0 [(0, .ref mo), (1, .int (zI (u : Int))), (2, .int (zI (v : Int)))] [] [oM mo th mw (nv : Int) mg ma mb (ns : Int) mlo mhi (nw : Int) mwe mru mrd, aL cL mw 160 (wkA rr), aI cI mg 100 (sgA sg), aL cL ma 800 (moA up), aL cL mb 800 (moA dn), aI cI mlo 30 (eA lo), aI cI mhi 30 (eA hi)]
  obtain ⟨hlo1, hhi1⟩ := hE u hu
  have hx1 : e1 < nv := by rw [he1]; split <;> assumption
  have hx2 : e2 < nv := by rw [he2]; split <;> assumption
  have ku := hV e1 hx1
  have kw := hV e2 hx2
  have kv := hV v hv
  obtain ⟨u1, u2, u3, u4, u5, u6⟩ := id ku
  obtain ⟨v1, v2, v3, v4, v5, v6⟩ := id kv
  obtain ⟨w1, w2, w3, w4, w5, w6⟩ := id kw
  have m1 := mul96 u3 v3
  have m2 := mul96 u5 v5
  have m3 := mul96 w3 v3
  have m4 := mul96 w5 v5
  have hD1p := Nat.mul_pos u4 v4
  have hD2p := Nat.mul_pos w4 v4
  have hsr1 := sg_mul ⟨u1, u2⟩ ⟨v1, v2⟩
  have hsr2 := sg_mul ⟨w1, w2⟩ ⟨v1, v2⟩
  have hS1 : zs (lwX (up e1 * up v) (dn e1 * dn v)) (sg e1 * sg v) = sg e1 * sg v := (zs_lw hD1p).trans (zs_pr u6 v6)
  have hS2 : zs (lwX (up e2 * up v) (dn e2 * dn v)) (sg e2 * sg v) = sg e2 * sg v := (zs_lw hD2p).trans (zs_pr w6 v6)
  have n1 : e1 ≠ nv := by omega
  have n2 : e2 ≠ nv := by omega
  have n3 : v ≠ nv := by omega
  refine z_aload_n S d_M_spanTimes_0 0 rfl ?_
  refine z_iload_n S d_M_spanTimes_1 1 rfl ?_
  refine z_callVa (As := [.int (zI (u : Int))]) (st := []) (wc := [oM mo th mw (nv : Int) mg ma mb (ns : Int) mlo mhi (nw : Int) mwe mru mrd]) (wr := [aL cL mw 160 (wkA rr), aI cI mg 100 (sgA sg), aL cL ma 800 (moA up), aL cL mb 800 (moA dn), aI cI mlo 30 (eA lo), aI cI mhi 30 (eA hi)]) S hGok hK hg hA (s_M_isSpan l dC dI cI cL qT mo mw nv ma mb ns mlo mhi nw mwe mru mrd th mg (u : Int) (by omega) (by omega)) (zcwV S (List.mem_cons_of_mem _ k_M_144) mV_M_isSpan k_M_144 hd_M_isSpan rfl rfl ⟨Nat.le_of_ble_eq_true rfl, Nat.le_of_ble_eq_true rfl⟩) rfl (Nat.le_of_ble_eq_true rfl) d_M_spanTimes_2 ⟨Nat.le_of_ble_eq_true rfl, Nat.le_of_ble_eq_true rfl⟩ rfl [0] [1, 2, 3, 4, 5, 6] 0 rfl rfl rfl (by decide) rfl rfl rfl (by decide) (by decide) (fun x w hp => ?_)
  obtain ⟨rfl, rfl⟩ := hp
  show ZZ _ _ _ _ _ _ _ _ _ _ _ _ _ _ _ _ _ _ 5 [(0, .ref mo), (1, .int (zI (u : Int))), (2, .int (zI (v : Int)))] [.int (zI (b2 (0 ≤ (u : Int) ∧ (u : Int) < (ns : Int))))] [aL cL mw 160 (wkA rr), aI cI mg 100 (sgA sg), aL cL ma 800 (moA up), aL cL mb 800 (moA dn), aI cI mlo 30 (eA lo), aI cI mhi 30 (eA hi), oM mo th mw (nv : Int) mg ma mb (ns : Int) mlo mhi (nw : Int) mwe mru mrd]
  refine z_toi (a := 1) (zI_c (b2_t ⟨by omega, by omega⟩)) ?_
  refine z_if_eq (tgt := 20) S d_M_spanTimes_5 (by decide) (by omega) (fun c1 => ?_) (fun c1 => ?_)
  · skip
    exact absurd c1 (by omega)
  · skip
    refine z_aload_n S d_M_spanTimes_8 0 rfl ?_
    refine z_iload_n S d_M_spanTimes_9 2 rfl ?_
    refine z_callVa (As := [.int (zI (v : Int))]) (st := []) (wc := [oM mo th mw (nv : Int) mg ma mb (ns : Int) mlo mhi (nw : Int) mwe mru mrd]) (wr := [aL cL mw 160 (wkA rr), aI cI mg 100 (sgA sg), aL cL ma 800 (moA up), aL cL mb 800 (moA dn), aI cI mlo 30 (eA lo), aI cI mhi 30 (eA hi)]) S hGok hK hg hA (s_M_isValue l dC dI cI cL qT mo mw nv ma mb ns mlo mhi nw mwe mru mrd th mg (v : Int) (by omega) (by omega)) (zcwV S (List.mem_cons_of_mem _ k_M_125) mV_M_isValue k_M_125 hd_M_isValue rfl rfl ⟨Nat.le_of_ble_eq_true rfl, Nat.le_of_ble_eq_true rfl⟩) rfl (Nat.le_of_ble_eq_true rfl) d_M_spanTimes_10 ⟨Nat.le_of_ble_eq_true rfl, Nat.le_of_ble_eq_true rfl⟩ rfl [6] [0, 1, 2, 3, 4, 5] 6 rfl rfl rfl (by decide) rfl rfl rfl (by decide) (by decide) (fun x w hp => ?_)
    obtain ⟨rfl, rfl⟩ := hp
    show ZZ _ _ _ _ _ _ _ _ _ _ _ _ _ _ _ _ _ _ 13 [(0, .ref mo), (1, .int (zI (u : Int))), (2, .int (zI (v : Int)))] [.int (zI (b2 (0 ≤ (v : Int) ∧ (v : Int) < (nv : Int))))] [aL cL mw 160 (wkA rr), aI cI mg 100 (sgA sg), aL cL ma 800 (moA up), aL cL mb 800 (moA dn), aI cI mlo 30 (eA lo), aI cI mhi 30 (eA hi), oM mo th mw (nv : Int) mg ma mb (ns : Int) mlo mhi (nw : Int) mwe mru mrd]
    refine z_toi (a := 1) (zI_c (b2_t ⟨by omega, by omega⟩)) ?_
    refine z_if_eq (tgt := 20) S d_M_spanTimes_13 (by decide) (by omega) (fun c2 => ?_) (fun c2 => ?_)
    · skip
      exact absurd c2 (by omega)
    · skip
      refine z_iconst S d_M_spanTimes_16 ?_
      refine z_goto (tgt := 21) S d_M_spanTimes_17 (by decide) ?_
      refine z_istore_n (lv' := [(3, .int (zI 1)), (0, .ref mo), (1, .int (zI (u : Int))), (2, .int (zI (v : Int)))]) S d_M_spanTimes_21 rfl (by decide) rfl ?_
      refine z_aload_n S d_M_spanTimes_22 1 rfl ?_
      refine z_iload_n S d_M_spanTimes_23 0 rfl ?_
      refine z_aload_n S d_M_spanTimes_24 1 rfl ?_
      refine z_get S hK la_M 6 rfl rfl 6 (by decide) k_M_45 rfl d_M_spanTimes_25 ?_
      refine z_bipush S d_M_spanTimes_28 rfl ?_
      refine z_icmp_ge (tgt := 46) S d_M_spanTimes_30 (by decide) (by omega) (by omega) (fun c3 => ?_) (fun c3 => ?_)
      · skip
        omega
      · skip
        refine z_aload_n S d_M_spanTimes_33 1 rfl ?_
        refine z_get S hK la_M 6 rfl rfl 2 (by decide) k_M_42 rfl d_M_spanTimes_34 ?_
        refine z_bipush S d_M_spanTimes_37 rfl ?_
        refine z_icmp_gt (tgt := 46) S d_M_spanTimes_39 (by decide) (by omega) (by omega) (fun c4 => ?_) (fun c4 => ?_)
        · skip
          omega
        · skip
          refine z_iconst S d_M_spanTimes_42 ?_
          refine z_goto (tgt := 47) S d_M_spanTimes_43 (by decide) ?_
          refine z_iconst S d_M_spanTimes_47 ?_
          refine z_callVa (As := [.int (zI 1), .int (zI 1), .int (zI 1)]) (st := []) (wc := [oM mo th mw (nv : Int) mg ma mb (ns : Int) mlo mhi (nw : Int) mwe mru mrd]) (wr := [aL cL mw 160 (wkA rr), aI cI mg 100 (sgA sg), aL cL ma 800 (moA up), aL cL mb 800 (moA dn), aI cI mlo 30 (eA lo), aI cI mhi 30 (eA hi)]) S hGok hK hg hA (s_M_goes l dC dI cI cL qT mo mw nv ma mb ns mlo mhi nw mwe mru mrd th mg 1 1 1 (by omega) (by omega) (by omega)) (zcwV S (List.mem_cons_of_mem _ k_M_118) mV_M_goes k_M_118 hd_M_goes rfl rfl ⟨Nat.le_of_ble_eq_true rfl, Nat.le_of_ble_eq_true rfl⟩) rfl (Nat.le_of_ble_eq_true rfl) d_M_spanTimes_48 ⟨Nat.le_of_ble_eq_true rfl, Nat.le_of_ble_eq_true rfl⟩ rfl [6] [0, 1, 2, 3, 4, 5] 6 rfl rfl rfl (by decide) rfl rfl rfl (by decide) (by decide) (fun x w hp => ?_)
          obtain ⟨rfl, rfl⟩ := hp
          show ZZ _ _ _ _ _ _ _ _ _ _ _ _ _ _ _ _ _ _ 51 [(3, .int (zI 1)), (0, .ref mo), (1, .int (zI (u : Int))), (2, .int (zI (v : Int)))] [.int (zI (b2 (gth 1 1 1 = 0)))] [aL cL mw 160 (wkA rr), aI cI mg 100 (sgA sg), aL cL ma 800 (moA up), aL cL mb 800 (moA dn), aI cI mlo 30 (eA lo), aI cI mhi 30 (eA hi), oM mo (gth 1 1 1) mw (nv : Int) mg ma mb (ns : Int) mlo mhi (nw : Int) mwe mru mrd]
          refine z_toi (a := 1) rfl ?_
          refine z_wq (ws' := [aL cL mw 160 (wkA rr), aI cI mg 100 (sgA sg), aL cL ma 800 (moA up), aL cL mb 800 (moA dn), aI cI mlo 30 (eA lo), aI cI mhi 30 (eA hi), oM mo 0 mw (nv : Int) mg ma mb (ns : Int) mlo mhi (nw : Int) mwe mru mrd]) rfl ?_
          refine z_if_ne (tgt := 56) S d_M_spanTimes_51 (by decide) (by omega) (fun c5 => ?_) (fun c5 => ?_)
          · skip
            refine z_aload_n S d_M_spanTimes_56 1 rfl ?_
            refine z_aload_n S d_M_spanTimes_57 1 rfl ?_
            refine z_aload_n S d_M_spanTimes_58 1 rfl ?_
            refine z_get S hK la_M 6 rfl rfl 3 (by decide) k_M_13 rfl d_M_spanTimes_59 ?_
            refine z_iload_n S d_M_spanTimes_62 3 rfl ?_
            refine z_iald (x := sg v) S hK 1 0 rfl rfl v rfl (by omega) (by decide) rfl d_M_spanTimes_63 ?_
            refine z_if_ge (tgt := 76) S d_M_spanTimes_64 (by decide) (by omega) (fun c6 => ?_) (fun c6 => ?_)
            · skip
              refine z_aload_n S d_M_spanTimes_76 1 rfl ?_
              refine z_get S hK la_M 6 rfl rfl 7 (by decide) k_M_23 rfl d_M_spanTimes_77 ?_
              refine z_iload_n S d_M_spanTimes_80 2 rfl ?_
              refine z_iald (x := ((lo u : Nat) : Int)) S hK 4 0 rfl rfl u rfl (by omega) (by decide) rfl d_M_spanTimes_81 ?_
              refine z_toi (a := (e1 : Int)) (zI_c (by rw [he1, if_neg (by omega)])) ?_
              refine z_iload_n S d_M_spanTimes_82 3 rfl ?_
              refine z_callVa (As := [.int (zI (e1 : Int)), .int (zI (v : Int))]) (st := [.ref mo]) (wc := [oM mo 0 mw (nv : Int) mg ma mb (ns : Int) mlo mhi (nw : Int) mwe mru mrd, aL cL mw 160 (wkA rr), aI cI mg 100 (sgA sg), aL cL ma 800 (moA up), aL cL mb 800 (moA dn)]) (wr := [aI cI mlo 30 (eA lo), aI cI mhi 30 (eA hi)]) S hGok hK hg hA (s_M_product l dC dI cI cL qT mo mw nv ma mb ns mlo mhi nw mwe mru mrd 0 mg rr sg up dn e1 v (by omega) (by omega) u3 u5 ⟨u1, u2⟩ v3 v5 ⟨v1, v2⟩) (zcwV S (List.mem_cons_of_mem _ k_M_132) mV_M_product k_M_132 hd_M_product rfl rfl ⟨Nat.le_of_ble_eq_true rfl, Nat.le_of_ble_eq_true rfl⟩) rfl (Nat.le_of_ble_eq_true rfl) d_M_spanTimes_83 ⟨Nat.le_of_ble_eq_true rfl, Nat.le_of_ble_eq_true rfl⟩ rfl [6, 0, 1, 2, 3] [4, 5] 6 rfl rfl rfl (by decide) rfl rfl rfl (by decide) (by decide) (fun x w hp => ?_)
              obtain ⟨rp, p0, p1, rfl, rfl⟩ := hp
              show ZZ _ _ _ _ _ _ _ _ _ _ _ _ _ _ _ _ _ _ 86 [(3, .int (zI 1)), (0, .ref mo), (1, .int (zI (u : Int))), (2, .int (zI (v : Int)))] [.int (zI (sg e1 * sg v)), .ref mo] [aI cI mlo 30 (eA lo), aI cI mhi 30 (eA hi), oM mo 0 mw (nv : Int) mg ma mb (ns : Int) mlo mhi (nw : Int) mwe mru mrd, aL cL mw 160 (wkA rp), aI cI mg 100 (sgA sg), aL cL ma 800 (moA up), aL cL mb 800 (moA dn)]
              refine z_callVa (As := [.int (zI (sg e1 * sg v))]) (st := []) (wc := [oM mo 0 mw (nv : Int) mg ma mb (ns : Int) mlo mhi (nw : Int) mwe mru mrd, aL cL mw 160 (wkA rp), aI cI mg 100 (sgA sg), aL cL ma 800 (moA up), aL cL mb 800 (moA dn)]) (wr := [aI cI mlo 30 (eA lo), aI cI mhi 30 (eA hi)]) S hGok hK hg hA (s_M_keepFit l dC dI cI cL qT mo mw nv ma mb ns mlo mhi nw mwe mru mrd 0 mg rp sg up dn (sg e1 * sg v) (by omega) (by rw [p0]; omega) (by rw [p1]; omega) (by rw [p1]; exact hD1p) hsr1 (by rw [p0, p1]; exact hfit.1)) (zcwV S (List.mem_cons_of_mem _ k_M_122) mV_M_keep k_M_122 hd_M_keep rfl rfl ⟨Nat.le_of_ble_eq_true rfl, Nat.le_of_ble_eq_true rfl⟩) rfl (Nat.le_of_ble_eq_true rfl) d_M_spanTimes_86 ⟨Nat.le_of_ble_eq_true rfl, Nat.le_of_ble_eq_true rfl⟩ rfl [2, 3, 4, 5, 6] [0, 1] 2 rfl rfl rfl (by decide) rfl rfl rfl (by decide) (by decide) (fun x w hp => ?_)
              obtain ⟨rq, rfl, rfl⟩ := hp
              show ZZ _ _ _ _ _ _ _ _ _ _ _ _ _ _ _ _ _ _ 89 [(3, .int (zI 1)), (0, .ref mo), (1, .int (zI (u : Int))), (2, .int (zI (v : Int)))] [.int (zI (nv : Int))] [aI cI mlo 30 (eA lo), aI cI mhi 30 (eA hi), oM mo 0 mw ((nv + 1 : Nat) : Int) mg ma mb (ns : Int) mlo mhi (nw : Int) mwe mru mrd, aL cL mw 160 (wkA rq), aI cI mg 100 (sgA (uz sg nv (zs (lwX (rp 0) (rp 1)) (sg e1 * sg v)))), aL cL ma 800 (moA (un up nv (lwX (rp 0) (rp 1)))), aL cL mb 800 (moA (un dn nv (lwZ (rp 0) (rp 1))))]
              refine z_wq (ws' := [aI cI mlo 30 (eA lo), aI cI mhi 30 (eA hi), oM mo 0 mw ((nv + 1 : Nat) : Int) mg ma mb (ns : Int) mlo mhi (nw : Int) mwe mru mrd, aL cL mw 160 (wkA rq), aI cI mg 100 (sgA (uz sg nv (sg e1 * sg v))), aL cL ma 800 (moA (un up nv (lwX (up e1 * up v) (dn e1 * dn v)))), aL cL mb 800 (moA (un dn nv (lwZ (up e1 * up v) (dn e1 * dn v))))]) (by rw [p0, p1, hS1]) ?_
              refine z_istore (lv' := [(4, .int (zI (nv : Int))), (3, .int (zI 1)), (0, .ref mo), (1, .int (zI (u : Int))), (2, .int (zI (v : Int)))]) S d_M_spanTimes_89 (by decide) rfl ?_
              refine z_iload S d_M_spanTimes_91 0 rfl ?_
              refine z_if_ge (tgt := 98) S d_M_spanTimes_93 (by decide) (by omega) (fun c7 => ?_) (fun c7 => ?_)
              · skip
                refine z_aload_n S d_M_spanTimes_98 2 rfl ?_
                refine z_aload_n S d_M_spanTimes_99 2 rfl ?_
                refine z_aload_n S d_M_spanTimes_100 2 rfl ?_
                refine z_get S hK la_M 2 rfl rfl 3 (by decide) k_M_13 rfl d_M_spanTimes_101 ?_
                refine z_iload_n S d_M_spanTimes_104 4 rfl ?_
                refine z_iald (x := sg v) S hK 4 0 rfl rfl v rfl (by omega) (by decide) (show zI (uz sg nv _ v) = _ by rw [uz_n n3]) d_M_spanTimes_105 ?_
                refine z_if_ge (tgt := 118) S d_M_spanTimes_106 (by decide) (by omega) (fun c8 => ?_) (fun c8 => ?_)
                · skip
                  refine z_aload_n S d_M_spanTimes_118 2 rfl ?_
                  refine z_get S hK la_M 2 rfl rfl 8 (by decide) k_M_26 rfl d_M_spanTimes_119 ?_
                  refine z_iload_n S d_M_spanTimes_122 3 rfl ?_
                  refine z_iald (x := ((hi u : Nat) : Int)) S hK 1 0 rfl rfl u rfl (by omega) (by decide) rfl d_M_spanTimes_123 ?_
                  refine z_toi (a := (e2 : Int)) (zI_c (by rw [he2, if_neg (by omega)])) ?_
                  refine z_iload_n S d_M_spanTimes_124 4 rfl ?_
                  refine z_callVa (As := [.int (zI (e2 : Int)), .int (zI (v : Int))]) (st := [.ref mo]) (wc := [oM mo 0 mw ((nv + 1 : Nat) : Int) mg ma mb (ns : Int) mlo mhi (nw : Int) mwe mru mrd, aL cL mw 160 (wkA rq), aI cI mg 100 (sgA (uz sg nv (sg e1 * sg v))), aL cL ma 800 (moA (un up nv (lwX (up e1 * up v) (dn e1 * dn v)))), aL cL mb 800 (moA (un dn nv (lwZ (up e1 * up v) (dn e1 * dn v))))]) (wr := [aI cI mlo 30 (eA lo), aI cI mhi 30 (eA hi)]) S hGok hK hg hA (s_M_product l dC dI cI cL qT mo mw (nv + 1) ma mb ns mlo mhi nw mwe mru mrd 0 mg rq (uz sg nv (sg e1 * sg v)) (un up nv (lwX (up e1 * up v) (dn e1 * dn v))) (un dn nv (lwZ (up e1 * up v) (dn e1 * dn v))) e2 v (by omega) (by omega) (by rw [un_n n2]; exact w3) (by rw [un_n n2]; exact w5) (by rw [uz_n n2]; exact ⟨w1, w2⟩) (by rw [un_n n3]; exact v3) (by rw [un_n n3]; exact v5) (by rw [uz_n n3]; exact ⟨v1, v2⟩)) (zcwV S (List.mem_cons_of_mem _ k_M_132) mV_M_product k_M_132 hd_M_product rfl rfl ⟨Nat.le_of_ble_eq_true rfl, Nat.le_of_ble_eq_true rfl⟩) rfl (Nat.le_of_ble_eq_true rfl) d_M_spanTimes_125 ⟨Nat.le_of_ble_eq_true rfl, Nat.le_of_ble_eq_true rfl⟩ rfl [2, 3, 4, 5, 6] [0, 1] 2 rfl rfl rfl (by decide) rfl rfl rfl (by decide) (by decide) (fun x w hp => ?_)
                  obtain ⟨ro, o0x, o1x, rfl, rfl⟩ := hp
                  show ZZ _ _ _ _ _ _ _ _ _ _ _ _ _ _ _ _ _ _ 128 [(4, .int (zI (nv : Int))), (3, .int (zI 1)), (0, .ref mo), (1, .int (zI (u : Int))), (2, .int (zI (v : Int)))] [.int (zI ((uz sg nv (sg e1 * sg v)) e2 * (uz sg nv (sg e1 * sg v)) v)), .ref mo] [aI cI mlo 30 (eA lo), aI cI mhi 30 (eA hi), oM mo 0 mw ((nv + 1 : Nat) : Int) mg ma mb (ns : Int) mlo mhi (nw : Int) mwe mru mrd, aL cL mw 160 (wkA ro), aI cI mg 100 (sgA (uz sg nv (sg e1 * sg v))), aL cL ma 800 (moA (un up nv (lwX (up e1 * up v) (dn e1 * dn v)))), aL cL mb 800 (moA (un dn nv (lwZ (up e1 * up v) (dn e1 * dn v))))]
                  have o0 : ro 0 = up e2 * up v := by rw [o0x, un_n n2, un_n n3]
                  have o1 : ro 1 = dn e2 * dn v := by rw [o1x, un_n n2, un_n n3]
                  refine z_toi (a := sg e2 * sg v) (zI_c (by rw [uz_n n2, uz_n n3])) ?_
                  refine z_callVa (As := [.int (zI (sg e2 * sg v))]) (st := []) (wc := [oM mo 0 mw ((nv + 1 : Nat) : Int) mg ma mb (ns : Int) mlo mhi (nw : Int) mwe mru mrd, aL cL mw 160 (wkA ro), aI cI mg 100 (sgA (uz sg nv (sg e1 * sg v))), aL cL ma 800 (moA (un up nv (lwX (up e1 * up v) (dn e1 * dn v)))), aL cL mb 800 (moA (un dn nv (lwZ (up e1 * up v) (dn e1 * dn v))))]) (wr := [aI cI mlo 30 (eA lo), aI cI mhi 30 (eA hi)]) S hGok hK hg hA (s_M_keepFit l dC dI cI cL qT mo mw (nv + 1) ma mb ns mlo mhi nw mwe mru mrd 0 mg ro (uz sg nv (sg e1 * sg v)) (un up nv (lwX (up e1 * up v) (dn e1 * dn v))) (un dn nv (lwZ (up e1 * up v) (dn e1 * dn v))) (sg e2 * sg v) (by omega) (by rw [o0]; omega) (by rw [o1]; omega) (by rw [o1]; exact hD2p) hsr2 (by rw [o0, o1]; exact hfit.2)) (zcwV S (List.mem_cons_of_mem _ k_M_122) mV_M_keep k_M_122 hd_M_keep rfl rfl ⟨Nat.le_of_ble_eq_true rfl, Nat.le_of_ble_eq_true rfl⟩) rfl (Nat.le_of_ble_eq_true rfl) d_M_spanTimes_128 ⟨Nat.le_of_ble_eq_true rfl, Nat.le_of_ble_eq_true rfl⟩ rfl [2, 3, 4, 5, 6] [0, 1] 2 rfl rfl rfl (by decide) rfl rfl rfl (by decide) (by decide) (fun x w hp => ?_)
                  obtain ⟨rk, rfl, rfl⟩ := hp
                  show ZZ _ _ _ _ _ _ _ _ _ _ _ _ _ _ _ _ _ _ 131 [(4, .int (zI (nv : Int))), (3, .int (zI 1)), (0, .ref mo), (1, .int (zI (u : Int))), (2, .int (zI (v : Int)))] [.int (zI ((nv + 1 : Nat) : Int))] [aI cI mlo 30 (eA lo), aI cI mhi 30 (eA hi), oM mo 0 mw (((nv + 1) + 1 : Nat) : Int) mg ma mb (ns : Int) mlo mhi (nw : Int) mwe mru mrd, aL cL mw 160 (wkA rk), aI cI mg 100 (sgA (uz (uz sg nv (sg e1 * sg v)) (nv + 1) (zs (lwX (ro 0) (ro 1)) (sg e2 * sg v)))), aL cL ma 800 (moA (un (un up nv (lwX (up e1 * up v) (dn e1 * dn v))) (nv + 1) (lwX (ro 0) (ro 1)))), aL cL mb 800 (moA (un (un dn nv (lwZ (up e1 * up v) (dn e1 * dn v))) (nv + 1) (lwZ (ro 0) (ro 1))))]
                  refine z_istore (lv' := [(5, .int (zI ((nv + 1 : Nat) : Int))), (4, .int (zI (nv : Int))), (3, .int (zI 1)), (0, .ref mo), (1, .int (zI (u : Int))), (2, .int (zI (v : Int)))]) S d_M_spanTimes_131 (by decide) rfl ?_
                  refine z_iload S d_M_spanTimes_133 0 rfl ?_
                  refine z_if_ge (tgt := 150) S d_M_spanTimes_135 (by decide) (by omega) (fun c9 => ?_) (fun c9 => ?_)
                  · skip
                    refine z_wq (ws' := [aI cI mlo 30 (eA lo), aI cI mhi 30 (eA hi), oM mo 0 mw (((nv + 1) + 1 : Nat) : Int) mg ma mb (ns : Int) mlo mhi (nw : Int) mwe mru mrd, aL cL mw 160 (wkA rk), aI cI mg 100 (sgA (uz (uz sg nv (sg e1 * sg v)) (nv + 1) (sg e2 * sg v))), aL cL ma 800 (moA (un (un up nv (lwX (up e1 * up v) (dn e1 * dn v))) (nv + 1) (lwX (up e2 * up v) (dn e2 * dn v)))), aL cL mb 800 (moA (un (un dn nv (lwZ (up e1 * up v) (dn e1 * dn v))) (nv + 1) (lwZ (up e2 * up v) (dn e2 * dn v))))]) (by rw [o0, o1, hS2]) ?_
                    refine z_aload_n S d_M_spanTimes_150 3 rfl ?_
                    refine z_get S hK la_M 2 rfl rfl 7 (by decide) k_M_23 rfl d_M_spanTimes_151 ?_
                    refine z_aload_n S d_M_spanTimes_154 3 rfl ?_
                    refine z_get S hK la_M 2 rfl rfl 6 (by decide) k_M_45 rfl d_M_spanTimes_155 ?_
                    refine z_iload S d_M_spanTimes_158 1 rfl ?_
                    refine z_iast (f' := eA (un lo ns nv)) (ws' := [aI cI mlo 30 (eA (un lo ns nv)), aI cI mhi 30 (eA hi), oM mo 0 mw (((nv + 1) + 1 : Nat) : Int) mg ma mb (ns : Int) mlo mhi (nw : Int) mwe mru mrd, aL cL mw 160 (wkA rk), aI cI mg 100 (sgA (uz (uz sg nv (sg e1 * sg v)) (nv + 1) (sg e2 * sg v))), aL cL ma 800 (moA (un (un up nv (lwX (up e1 * up v) (dn e1 * dn v))) (nv + 1) (lwX (up e2 * up v) (dn e2 * dn v)))), aL cL mb 800 (moA (un (un dn nv (lwZ (up e1 * up v) (dn e1 * dn v))) (nv + 1) (lwZ (up e2 * up v) (dn e2 * dn v))))]) S hK 0 0 rfl rfl ns rfl (by omega) (by decide) (eA_u rfl) rfl d_M_spanTimes_160 ?_
                    refine z_aload_n S d_M_spanTimes_161 3 rfl ?_
                    refine z_get S hK la_M 2 rfl rfl 8 (by decide) k_M_26 rfl d_M_spanTimes_162 ?_
                    refine z_aload_n S d_M_spanTimes_165 3 rfl ?_
                    refine z_get S hK la_M 2 rfl rfl 6 (by decide) k_M_45 rfl d_M_spanTimes_166 ?_
                    refine z_iload S d_M_spanTimes_169 0 rfl ?_
                    refine z_iast (f' := eA (un hi ns (nv + 1))) (ws' := [aI cI mlo 30 (eA (un lo ns nv)), aI cI mhi 30 (eA (un hi ns (nv + 1))), oM mo 0 mw (((nv + 1) + 1 : Nat) : Int) mg ma mb (ns : Int) mlo mhi (nw : Int) mwe mru mrd, aL cL mw 160 (wkA rk), aI cI mg 100 (sgA (uz (uz sg nv (sg e1 * sg v)) (nv + 1) (sg e2 * sg v))), aL cL ma 800 (moA (un (un up nv (lwX (up e1 * up v) (dn e1 * dn v))) (nv + 1) (lwX (up e2 * up v) (dn e2 * dn v)))), aL cL mb 800 (moA (un (un dn nv (lwZ (up e1 * up v) (dn e1 * dn v))) (nv + 1) (lwZ (up e2 * up v) (dn e2 * dn v))))]) S hK 1 0 rfl rfl ns rfl (by omega) (by decide) (eA_u rfl) rfl d_M_spanTimes_171 ?_
                    refine z_aload_n S d_M_spanTimes_172 3 rfl ?_
                    refine z_dup S d_M_spanTimes_173 rfl ?_
                    refine z_get S hK la_M 2 rfl rfl 6 (by decide) k_M_45 rfl d_M_spanTimes_174 ?_
                    refine z_iconst S d_M_spanTimes_177 ?_
                    refine z_iadd S d_M_spanTimes_178 ?_
                    refine z_put (ws' := [aI cI mlo 30 (eA (un lo ns nv)), aI cI mhi 30 (eA (un hi ns (nv + 1))), oM mo 0 mw (((nv + 1) + 1 : Nat) : Int) mg ma mb ((ns : Int) + 1) mlo mhi (nw : Int) mwe mru mrd, aL cL mw 160 (wkA rk), aI cI mg 100 (sgA (uz (uz sg nv (sg e1 * sg v)) (nv + 1) (sg e2 * sg v))), aL cL ma 800 (moA (un (un up nv (lwX (up e1 * up v) (dn e1 * dn v))) (nv + 1) (lwX (up e2 * up v) (dn e2 * dn v)))), aL cL mb 800 (moA (un (un dn nv (lwZ (up e1 * up v) (dn e1 * dn v))) (nv + 1) (lwZ (up e2 * up v) (dn e2 * dn v))))]) S hK la_M ty_M tyok_M nm_M 2 rfl rfl 6 (by decide) k_M_45 rfl (ty := .int) (by decide +kernel) rfl rfl (Nat.le_of_ble_eq_true rfl) rfl d_M_spanTimes_179 ?_
                    refine z_wq (ws' := [aI cI mlo 30 (eA (un lo ns nv)), aI cI mhi 30 (eA (un hi ns (nv + 1))), oM mo 0 mw ((nv + 2 : Nat) : Int) mg ma mb ((ns + 1 : Nat) : Int) mlo mhi (nw : Int) mwe mru mrd, aL cL mw 160 (wkA rk), aI cI mg 100 (sgA (uz (uz sg nv (sg e1 * sg v)) (nv + 1) (sg e2 * sg v))), aL cL ma 800 (moA (un (un up nv (lwX (up e1 * up v) (dn e1 * dn v))) (nv + 1) (lwX (up e2 * up v) (dn e2 * dn v)))), aL cL mb 800 (moA (un (un dn nv (lwZ (up e1 * up v) (dn e1 * dn v))) (nv + 1) (lwZ (up e2 * up v) (dn e2 * dn v))))]) (by rw [show (ns : Int) + 1 = ((ns + 1 : Nat) : Int) by omega]) ?_
                    refine z_aload_n S d_M_spanTimes_182 3 rfl ?_
                    refine z_get S hK la_M 2 rfl rfl 6 (by decide) k_M_45 rfl d_M_spanTimes_183 ?_
                    refine z_iconst S d_M_spanTimes_186 ?_
                    refine z_isub S d_M_spanTimes_187 ?_
                    exact z_iret (w := [oM mo 0 mw ((nv + 2 : Nat) : Int) mg ma mb ((ns + 1 : Nat) : Int) mlo mhi (nw : Int) mwe mru mrd, aL cL mw 160 (wkA rk), aI cI mg 100 (sgA (uz (uz sg nv (sg e1 * sg v)) (nv + 1) (sg e2 * sg v))), aL cL ma 800 (moA (un (un up nv (lwX (up e1 * up v) (dn e1 * dn v))) (nv + 1) (lwX (up e2 * up v) (dn e2 * dn v)))), aL cL mb 800 (moA (un (un dn nv (lwZ (up e1 * up v) (dn e1 * dn v))) (nv + 1) (lwZ (up e2 * up v) (dn e2 * dn v)))), aI cI mlo 30 (eA (un lo ns nv)), aI cI mhi 30 (eA (un hi ns (nv + 1)))]) S hr hlo hAe d_M_spanTimes_188 [2, 3, 4, 5, 6, 0, 1] (by decide) rfl rfl ⟨Nat.le_refl _, Nat.le_refl _⟩ (⟨rk, congrArg Value.int (zI_c (by omega)), rfl⟩)
                  · skip
                    omega
                · skip
                  omega
              · skip
                omega
            · skip
              refine z_aload_n S d_M_spanTimes_67 1 rfl ?_
              refine z_get S hK la_M 6 rfl rfl 8 (by decide) k_M_26 rfl d_M_spanTimes_68 ?_
              refine z_iload_n S d_M_spanTimes_71 2 rfl ?_
              refine z_iald (x := ((hi u : Nat) : Int)) S hK 5 0 rfl rfl u rfl (by omega) (by decide) rfl d_M_spanTimes_72 ?_
              refine z_goto (tgt := 82) S d_M_spanTimes_73 (by decide) ?_
              refine z_toi (a := (e1 : Int)) (zI_c (by rw [he1, if_pos (by omega)])) ?_
              refine z_iload_n S d_M_spanTimes_82 3 rfl ?_
              refine z_callVa (As := [.int (zI (e1 : Int)), .int (zI (v : Int))]) (st := [.ref mo]) (wc := [oM mo 0 mw (nv : Int) mg ma mb (ns : Int) mlo mhi (nw : Int) mwe mru mrd, aL cL mw 160 (wkA rr), aI cI mg 100 (sgA sg), aL cL ma 800 (moA up), aL cL mb 800 (moA dn)]) (wr := [aI cI mlo 30 (eA lo), aI cI mhi 30 (eA hi)]) S hGok hK hg hA (s_M_product l dC dI cI cL qT mo mw nv ma mb ns mlo mhi nw mwe mru mrd 0 mg rr sg up dn e1 v (by omega) (by omega) u3 u5 ⟨u1, u2⟩ v3 v5 ⟨v1, v2⟩) (zcwV S (List.mem_cons_of_mem _ k_M_132) mV_M_product k_M_132 hd_M_product rfl rfl ⟨Nat.le_of_ble_eq_true rfl, Nat.le_of_ble_eq_true rfl⟩) rfl (Nat.le_of_ble_eq_true rfl) d_M_spanTimes_83 ⟨Nat.le_of_ble_eq_true rfl, Nat.le_of_ble_eq_true rfl⟩ rfl [6, 0, 1, 2, 3] [4, 5] 6 rfl rfl rfl (by decide) rfl rfl rfl (by decide) (by decide) (fun x w hp => ?_)
              obtain ⟨rp, p0, p1, rfl, rfl⟩ := hp
              show ZZ _ _ _ _ _ _ _ _ _ _ _ _ _ _ _ _ _ _ 86 [(3, .int (zI 1)), (0, .ref mo), (1, .int (zI (u : Int))), (2, .int (zI (v : Int)))] [.int (zI (sg e1 * sg v)), .ref mo] [aI cI mlo 30 (eA lo), aI cI mhi 30 (eA hi), oM mo 0 mw (nv : Int) mg ma mb (ns : Int) mlo mhi (nw : Int) mwe mru mrd, aL cL mw 160 (wkA rp), aI cI mg 100 (sgA sg), aL cL ma 800 (moA up), aL cL mb 800 (moA dn)]
              refine z_callVa (As := [.int (zI (sg e1 * sg v))]) (st := []) (wc := [oM mo 0 mw (nv : Int) mg ma mb (ns : Int) mlo mhi (nw : Int) mwe mru mrd, aL cL mw 160 (wkA rp), aI cI mg 100 (sgA sg), aL cL ma 800 (moA up), aL cL mb 800 (moA dn)]) (wr := [aI cI mlo 30 (eA lo), aI cI mhi 30 (eA hi)]) S hGok hK hg hA (s_M_keepFit l dC dI cI cL qT mo mw nv ma mb ns mlo mhi nw mwe mru mrd 0 mg rp sg up dn (sg e1 * sg v) (by omega) (by rw [p0]; omega) (by rw [p1]; omega) (by rw [p1]; exact hD1p) hsr1 (by rw [p0, p1]; exact hfit.1)) (zcwV S (List.mem_cons_of_mem _ k_M_122) mV_M_keep k_M_122 hd_M_keep rfl rfl ⟨Nat.le_of_ble_eq_true rfl, Nat.le_of_ble_eq_true rfl⟩) rfl (Nat.le_of_ble_eq_true rfl) d_M_spanTimes_86 ⟨Nat.le_of_ble_eq_true rfl, Nat.le_of_ble_eq_true rfl⟩ rfl [2, 3, 4, 5, 6] [0, 1] 2 rfl rfl rfl (by decide) rfl rfl rfl (by decide) (by decide) (fun x w hp => ?_)
              obtain ⟨rq, rfl, rfl⟩ := hp
              show ZZ _ _ _ _ _ _ _ _ _ _ _ _ _ _ _ _ _ _ 89 [(3, .int (zI 1)), (0, .ref mo), (1, .int (zI (u : Int))), (2, .int (zI (v : Int)))] [.int (zI (nv : Int))] [aI cI mlo 30 (eA lo), aI cI mhi 30 (eA hi), oM mo 0 mw ((nv + 1 : Nat) : Int) mg ma mb (ns : Int) mlo mhi (nw : Int) mwe mru mrd, aL cL mw 160 (wkA rq), aI cI mg 100 (sgA (uz sg nv (zs (lwX (rp 0) (rp 1)) (sg e1 * sg v)))), aL cL ma 800 (moA (un up nv (lwX (rp 0) (rp 1)))), aL cL mb 800 (moA (un dn nv (lwZ (rp 0) (rp 1))))]
              refine z_wq (ws' := [aI cI mlo 30 (eA lo), aI cI mhi 30 (eA hi), oM mo 0 mw ((nv + 1 : Nat) : Int) mg ma mb (ns : Int) mlo mhi (nw : Int) mwe mru mrd, aL cL mw 160 (wkA rq), aI cI mg 100 (sgA (uz sg nv (sg e1 * sg v))), aL cL ma 800 (moA (un up nv (lwX (up e1 * up v) (dn e1 * dn v)))), aL cL mb 800 (moA (un dn nv (lwZ (up e1 * up v) (dn e1 * dn v))))]) (by rw [p0, p1, hS1]) ?_
              refine z_istore (lv' := [(4, .int (zI (nv : Int))), (3, .int (zI 1)), (0, .ref mo), (1, .int (zI (u : Int))), (2, .int (zI (v : Int)))]) S d_M_spanTimes_89 (by decide) rfl ?_
              refine z_iload S d_M_spanTimes_91 0 rfl ?_
              refine z_if_ge (tgt := 98) S d_M_spanTimes_93 (by decide) (by omega) (fun c10 => ?_) (fun c10 => ?_)
              · skip
                refine z_aload_n S d_M_spanTimes_98 2 rfl ?_
                refine z_aload_n S d_M_spanTimes_99 2 rfl ?_
                refine z_aload_n S d_M_spanTimes_100 2 rfl ?_
                refine z_get S hK la_M 2 rfl rfl 3 (by decide) k_M_13 rfl d_M_spanTimes_101 ?_
                refine z_iload_n S d_M_spanTimes_104 4 rfl ?_
                refine z_iald (x := sg v) S hK 4 0 rfl rfl v rfl (by omega) (by decide) (show zI (uz sg nv _ v) = _ by rw [uz_n n3]) d_M_spanTimes_105 ?_
                refine z_if_ge (tgt := 118) S d_M_spanTimes_106 (by decide) (by omega) (fun c11 => ?_) (fun c11 => ?_)
                · skip
                  omega
                · skip
                  refine z_aload_n S d_M_spanTimes_109 2 rfl ?_
                  refine z_get S hK la_M 2 rfl rfl 7 (by decide) k_M_23 rfl d_M_spanTimes_110 ?_
                  refine z_iload_n S d_M_spanTimes_113 3 rfl ?_
                  refine z_iald (x := ((lo u : Nat) : Int)) S hK 0 0 rfl rfl u rfl (by omega) (by decide) rfl d_M_spanTimes_114 ?_
                  refine z_goto (tgt := 124) S d_M_spanTimes_115 (by decide) ?_
                  refine z_toi (a := (e2 : Int)) (zI_c (by rw [he2, if_pos (by omega)])) ?_
                  refine z_iload_n S d_M_spanTimes_124 4 rfl ?_
                  refine z_callVa (As := [.int (zI (e2 : Int)), .int (zI (v : Int))]) (st := [.ref mo]) (wc := [oM mo 0 mw ((nv + 1 : Nat) : Int) mg ma mb (ns : Int) mlo mhi (nw : Int) mwe mru mrd, aL cL mw 160 (wkA rq), aI cI mg 100 (sgA (uz sg nv (sg e1 * sg v))), aL cL ma 800 (moA (un up nv (lwX (up e1 * up v) (dn e1 * dn v)))), aL cL mb 800 (moA (un dn nv (lwZ (up e1 * up v) (dn e1 * dn v))))]) (wr := [aI cI mlo 30 (eA lo), aI cI mhi 30 (eA hi)]) S hGok hK hg hA (s_M_product l dC dI cI cL qT mo mw (nv + 1) ma mb ns mlo mhi nw mwe mru mrd 0 mg rq (uz sg nv (sg e1 * sg v)) (un up nv (lwX (up e1 * up v) (dn e1 * dn v))) (un dn nv (lwZ (up e1 * up v) (dn e1 * dn v))) e2 v (by omega) (by omega) (by rw [un_n n2]; exact w3) (by rw [un_n n2]; exact w5) (by rw [uz_n n2]; exact ⟨w1, w2⟩) (by rw [un_n n3]; exact v3) (by rw [un_n n3]; exact v5) (by rw [uz_n n3]; exact ⟨v1, v2⟩)) (zcwV S (List.mem_cons_of_mem _ k_M_132) mV_M_product k_M_132 hd_M_product rfl rfl ⟨Nat.le_of_ble_eq_true rfl, Nat.le_of_ble_eq_true rfl⟩) rfl (Nat.le_of_ble_eq_true rfl) d_M_spanTimes_125 ⟨Nat.le_of_ble_eq_true rfl, Nat.le_of_ble_eq_true rfl⟩ rfl [2, 3, 4, 5, 6] [0, 1] 2 rfl rfl rfl (by decide) rfl rfl rfl (by decide) (by decide) (fun x w hp => ?_)
                  obtain ⟨ro, o0x, o1x, rfl, rfl⟩ := hp
                  show ZZ _ _ _ _ _ _ _ _ _ _ _ _ _ _ _ _ _ _ 128 [(4, .int (zI (nv : Int))), (3, .int (zI 1)), (0, .ref mo), (1, .int (zI (u : Int))), (2, .int (zI (v : Int)))] [.int (zI ((uz sg nv (sg e1 * sg v)) e2 * (uz sg nv (sg e1 * sg v)) v)), .ref mo] [aI cI mlo 30 (eA lo), aI cI mhi 30 (eA hi), oM mo 0 mw ((nv + 1 : Nat) : Int) mg ma mb (ns : Int) mlo mhi (nw : Int) mwe mru mrd, aL cL mw 160 (wkA ro), aI cI mg 100 (sgA (uz sg nv (sg e1 * sg v))), aL cL ma 800 (moA (un up nv (lwX (up e1 * up v) (dn e1 * dn v)))), aL cL mb 800 (moA (un dn nv (lwZ (up e1 * up v) (dn e1 * dn v))))]
                  have o0 : ro 0 = up e2 * up v := by rw [o0x, un_n n2, un_n n3]
                  have o1 : ro 1 = dn e2 * dn v := by rw [o1x, un_n n2, un_n n3]
                  refine z_toi (a := sg e2 * sg v) (zI_c (by rw [uz_n n2, uz_n n3])) ?_
                  refine z_callVa (As := [.int (zI (sg e2 * sg v))]) (st := []) (wc := [oM mo 0 mw ((nv + 1 : Nat) : Int) mg ma mb (ns : Int) mlo mhi (nw : Int) mwe mru mrd, aL cL mw 160 (wkA ro), aI cI mg 100 (sgA (uz sg nv (sg e1 * sg v))), aL cL ma 800 (moA (un up nv (lwX (up e1 * up v) (dn e1 * dn v)))), aL cL mb 800 (moA (un dn nv (lwZ (up e1 * up v) (dn e1 * dn v))))]) (wr := [aI cI mlo 30 (eA lo), aI cI mhi 30 (eA hi)]) S hGok hK hg hA (s_M_keepFit l dC dI cI cL qT mo mw (nv + 1) ma mb ns mlo mhi nw mwe mru mrd 0 mg ro (uz sg nv (sg e1 * sg v)) (un up nv (lwX (up e1 * up v) (dn e1 * dn v))) (un dn nv (lwZ (up e1 * up v) (dn e1 * dn v))) (sg e2 * sg v) (by omega) (by rw [o0]; omega) (by rw [o1]; omega) (by rw [o1]; exact hD2p) hsr2 (by rw [o0, o1]; exact hfit.2)) (zcwV S (List.mem_cons_of_mem _ k_M_122) mV_M_keep k_M_122 hd_M_keep rfl rfl ⟨Nat.le_of_ble_eq_true rfl, Nat.le_of_ble_eq_true rfl⟩) rfl (Nat.le_of_ble_eq_true rfl) d_M_spanTimes_128 ⟨Nat.le_of_ble_eq_true rfl, Nat.le_of_ble_eq_true rfl⟩ rfl [2, 3, 4, 5, 6] [0, 1] 2 rfl rfl rfl (by decide) rfl rfl rfl (by decide) (by decide) (fun x w hp => ?_)
                  obtain ⟨rk, rfl, rfl⟩ := hp
                  show ZZ _ _ _ _ _ _ _ _ _ _ _ _ _ _ _ _ _ _ 131 [(4, .int (zI (nv : Int))), (3, .int (zI 1)), (0, .ref mo), (1, .int (zI (u : Int))), (2, .int (zI (v : Int)))] [.int (zI ((nv + 1 : Nat) : Int))] [aI cI mlo 30 (eA lo), aI cI mhi 30 (eA hi), oM mo 0 mw (((nv + 1) + 1 : Nat) : Int) mg ma mb (ns : Int) mlo mhi (nw : Int) mwe mru mrd, aL cL mw 160 (wkA rk), aI cI mg 100 (sgA (uz (uz sg nv (sg e1 * sg v)) (nv + 1) (zs (lwX (ro 0) (ro 1)) (sg e2 * sg v)))), aL cL ma 800 (moA (un (un up nv (lwX (up e1 * up v) (dn e1 * dn v))) (nv + 1) (lwX (ro 0) (ro 1)))), aL cL mb 800 (moA (un (un dn nv (lwZ (up e1 * up v) (dn e1 * dn v))) (nv + 1) (lwZ (ro 0) (ro 1))))]
                  refine z_istore (lv' := [(5, .int (zI ((nv + 1 : Nat) : Int))), (4, .int (zI (nv : Int))), (3, .int (zI 1)), (0, .ref mo), (1, .int (zI (u : Int))), (2, .int (zI (v : Int)))]) S d_M_spanTimes_131 (by decide) rfl ?_
                  refine z_iload S d_M_spanTimes_133 0 rfl ?_
                  refine z_if_ge (tgt := 150) S d_M_spanTimes_135 (by decide) (by omega) (fun c12 => ?_) (fun c12 => ?_)
                  · skip
                    refine z_wq (ws' := [aI cI mlo 30 (eA lo), aI cI mhi 30 (eA hi), oM mo 0 mw (((nv + 1) + 1 : Nat) : Int) mg ma mb (ns : Int) mlo mhi (nw : Int) mwe mru mrd, aL cL mw 160 (wkA rk), aI cI mg 100 (sgA (uz (uz sg nv (sg e1 * sg v)) (nv + 1) (sg e2 * sg v))), aL cL ma 800 (moA (un (un up nv (lwX (up e1 * up v) (dn e1 * dn v))) (nv + 1) (lwX (up e2 * up v) (dn e2 * dn v)))), aL cL mb 800 (moA (un (un dn nv (lwZ (up e1 * up v) (dn e1 * dn v))) (nv + 1) (lwZ (up e2 * up v) (dn e2 * dn v))))]) (by rw [o0, o1, hS2]) ?_
                    refine z_aload_n S d_M_spanTimes_150 3 rfl ?_
                    refine z_get S hK la_M 2 rfl rfl 7 (by decide) k_M_23 rfl d_M_spanTimes_151 ?_
                    refine z_aload_n S d_M_spanTimes_154 3 rfl ?_
                    refine z_get S hK la_M 2 rfl rfl 6 (by decide) k_M_45 rfl d_M_spanTimes_155 ?_
                    refine z_iload S d_M_spanTimes_158 1 rfl ?_
                    refine z_iast (f' := eA (un lo ns nv)) (ws' := [aI cI mlo 30 (eA (un lo ns nv)), aI cI mhi 30 (eA hi), oM mo 0 mw (((nv + 1) + 1 : Nat) : Int) mg ma mb (ns : Int) mlo mhi (nw : Int) mwe mru mrd, aL cL mw 160 (wkA rk), aI cI mg 100 (sgA (uz (uz sg nv (sg e1 * sg v)) (nv + 1) (sg e2 * sg v))), aL cL ma 800 (moA (un (un up nv (lwX (up e1 * up v) (dn e1 * dn v))) (nv + 1) (lwX (up e2 * up v) (dn e2 * dn v)))), aL cL mb 800 (moA (un (un dn nv (lwZ (up e1 * up v) (dn e1 * dn v))) (nv + 1) (lwZ (up e2 * up v) (dn e2 * dn v))))]) S hK 0 0 rfl rfl ns rfl (by omega) (by decide) (eA_u rfl) rfl d_M_spanTimes_160 ?_
                    refine z_aload_n S d_M_spanTimes_161 3 rfl ?_
                    refine z_get S hK la_M 2 rfl rfl 8 (by decide) k_M_26 rfl d_M_spanTimes_162 ?_
                    refine z_aload_n S d_M_spanTimes_165 3 rfl ?_
                    refine z_get S hK la_M 2 rfl rfl 6 (by decide) k_M_45 rfl d_M_spanTimes_166 ?_
                    refine z_iload S d_M_spanTimes_169 0 rfl ?_
                    refine z_iast (f' := eA (un hi ns (nv + 1))) (ws' := [aI cI mlo 30 (eA (un lo ns nv)), aI cI mhi 30 (eA (un hi ns (nv + 1))), oM mo 0 mw (((nv + 1) + 1 : Nat) : Int) mg ma mb (ns : Int) mlo mhi (nw : Int) mwe mru mrd, aL cL mw 160 (wkA rk), aI cI mg 100 (sgA (uz (uz sg nv (sg e1 * sg v)) (nv + 1) (sg e2 * sg v))), aL cL ma 800 (moA (un (un up nv (lwX (up e1 * up v) (dn e1 * dn v))) (nv + 1) (lwX (up e2 * up v) (dn e2 * dn v)))), aL cL mb 800 (moA (un (un dn nv (lwZ (up e1 * up v) (dn e1 * dn v))) (nv + 1) (lwZ (up e2 * up v) (dn e2 * dn v))))]) S hK 1 0 rfl rfl ns rfl (by omega) (by decide) (eA_u rfl) rfl d_M_spanTimes_171 ?_
                    refine z_aload_n S d_M_spanTimes_172 3 rfl ?_
                    refine z_dup S d_M_spanTimes_173 rfl ?_
                    refine z_get S hK la_M 2 rfl rfl 6 (by decide) k_M_45 rfl d_M_spanTimes_174 ?_
                    refine z_iconst S d_M_spanTimes_177 ?_
                    refine z_iadd S d_M_spanTimes_178 ?_
                    refine z_put (ws' := [aI cI mlo 30 (eA (un lo ns nv)), aI cI mhi 30 (eA (un hi ns (nv + 1))), oM mo 0 mw (((nv + 1) + 1 : Nat) : Int) mg ma mb ((ns : Int) + 1) mlo mhi (nw : Int) mwe mru mrd, aL cL mw 160 (wkA rk), aI cI mg 100 (sgA (uz (uz sg nv (sg e1 * sg v)) (nv + 1) (sg e2 * sg v))), aL cL ma 800 (moA (un (un up nv (lwX (up e1 * up v) (dn e1 * dn v))) (nv + 1) (lwX (up e2 * up v) (dn e2 * dn v)))), aL cL mb 800 (moA (un (un dn nv (lwZ (up e1 * up v) (dn e1 * dn v))) (nv + 1) (lwZ (up e2 * up v) (dn e2 * dn v))))]) S hK la_M ty_M tyok_M nm_M 2 rfl rfl 6 (by decide) k_M_45 rfl (ty := .int) (by decide +kernel) rfl rfl (Nat.le_of_ble_eq_true rfl) rfl d_M_spanTimes_179 ?_
                    refine z_wq (ws' := [aI cI mlo 30 (eA (un lo ns nv)), aI cI mhi 30 (eA (un hi ns (nv + 1))), oM mo 0 mw ((nv + 2 : Nat) : Int) mg ma mb ((ns + 1 : Nat) : Int) mlo mhi (nw : Int) mwe mru mrd, aL cL mw 160 (wkA rk), aI cI mg 100 (sgA (uz (uz sg nv (sg e1 * sg v)) (nv + 1) (sg e2 * sg v))), aL cL ma 800 (moA (un (un up nv (lwX (up e1 * up v) (dn e1 * dn v))) (nv + 1) (lwX (up e2 * up v) (dn e2 * dn v)))), aL cL mb 800 (moA (un (un dn nv (lwZ (up e1 * up v) (dn e1 * dn v))) (nv + 1) (lwZ (up e2 * up v) (dn e2 * dn v))))]) (by rw [show (ns : Int) + 1 = ((ns + 1 : Nat) : Int) by omega]) ?_
                    refine z_aload_n S d_M_spanTimes_182 3 rfl ?_
                    refine z_get S hK la_M 2 rfl rfl 6 (by decide) k_M_45 rfl d_M_spanTimes_183 ?_
                    refine z_iconst S d_M_spanTimes_186 ?_
                    refine z_isub S d_M_spanTimes_187 ?_
                    exact z_iret (w := [oM mo 0 mw ((nv + 2 : Nat) : Int) mg ma mb ((ns + 1 : Nat) : Int) mlo mhi (nw : Int) mwe mru mrd, aL cL mw 160 (wkA rk), aI cI mg 100 (sgA (uz (uz sg nv (sg e1 * sg v)) (nv + 1) (sg e2 * sg v))), aL cL ma 800 (moA (un (un up nv (lwX (up e1 * up v) (dn e1 * dn v))) (nv + 1) (lwX (up e2 * up v) (dn e2 * dn v)))), aL cL mb 800 (moA (un (un dn nv (lwZ (up e1 * up v) (dn e1 * dn v))) (nv + 1) (lwZ (up e2 * up v) (dn e2 * dn v)))), aI cI mlo 30 (eA (un lo ns nv)), aI cI mhi 30 (eA (un hi ns (nv + 1)))]) S hr hlo hAe d_M_spanTimes_188 [2, 3, 4, 5, 6, 0, 1] (by decide) rfl rfl ⟨Nat.le_refl _, Nat.le_refl _⟩ (⟨rk, congrArg Value.int (zI_c (by omega)), rfl⟩)
                  · skip
                    omega
              · skip
                omega
          · skip
            exact absurd c5 (by omega)
set_option maxHeartbeats 4000000 in
set_option maxRecDepth 100000 in
theorem s_M_spanTimesLong (l : Launch) (dC : Nat → ClassId) (dI : Nat → Nat → Nat) (cI cL : ClassId) (qT : Nat) (mo : Nat) (mw : Nat) (nv : Nat) (ma : Nat) (mb : Nat) (ns : Nat) (mlo : Nat) (mhi : Nat) (nw : Nat) (mwe : Nat) (mru : Nat) (mrd : Nat) (th : Int) (mg : Nat) (rr : Nat → Nat) (sg : Nat → Int) (up : Nat → Nat) (dn : Nat → Nat) (lo : Nat → Nat) (hi : Nat → Nat) (u : Nat) (v : Nat) (e1 : Nat) (e2 : Nat) (hV : okM sg up dn nv) (hE : ∀ i, i < ns → lo i < nv ∧ hi i < nv) (hu : u < ns) (hv : v < nv) (hns : ns < 30) (hnv : nv + 2 ≤ 100) (he1 : e1 = if sg v < 0 then hi u else lo u) (he2 : e2 = if sg v < 0 then lo u else hi u) (hfit : ¬ ((lwX (up e1 * up v) (dn e1 * dn v) < 10 ^ 48 ∧ lwZ (up e1 * up v) (dn e1 * dn v) < 10 ^ 48) ∧ (lwX (up e2 * up v) (dn e2 * dn v) < 10 ^ 48 ∧ lwZ (up e2 * up v) (dn e2 * dn v) < 10 ^ 48))) : Ct l y_M_spanTimes (Cond.code y_M_spanTimes c_M_spanTimes 6 (some .int) :: zB) { frames := 5, cells := 0, slots := 0, locals := 128 } (dC, dI) zcl [(cI, .int), (cL, .long)] (zG cI cL qT) [.ref mo, .int (zI (u : Int)), .int (zI (v : Int))] [oM mo th mw (nv : Int) mg ma mb (ns : Int) mlo mhi (nw : Int) mwe mru mrd, aL cL mw 160 (wkA rr), aI cI mg 100 (sgA sg), aL cL ma 800 (moA up), aL cL mb 800 (moA dn), aI cI mlo 30 (eA lo), aI cI mhi 30 (eA hi)] (fun rv wv => ∃ rr2 : Nat → Nat, ∃ sg2 : Nat → Int, ∃ up2 : Nat → Nat, ∃ dn2 : Nat → Nat, (∀ i, i < nv → sg2 i = sg i ∧ up2 i = up i ∧ dn2 i = dn i) ∧ rv = .int (zI (-1)) ∧ wv = [oM mo 0 mw (nv : Int) mg ma mb (ns : Int) mlo mhi (nw : Int) mwe mru mrd, aL cL mw 160 (wkA rr2), aI cI mg 100 (sgA sg2), aL cL ma 800 (moA up2), aL cL mb 800 (moA dn2), aI cI mlo 30 (eA lo), aI cI mhi 30 (eA hi)]) 0 0 := by
  refine Cm.ofZ (cc := c_M_spanTimes) (maxL := 6) (ret := (some .int)) (by decide) rfl (Nat.le_of_ble_eq_true rfl) rfl ?_
  intro p e s m below meth c A S hr hlo hnm hK hg hA hAe
  have hGok := zG_ok cI cL qT
  show ZZ _ _ _ _ _ _ _ _ _ _ _ _ _ _ _ _ _ _ 0 [(0, .ref mo), (1, .int (zI (u : Int))), (2, .int (zI (v : Int)))] [] [oM mo th mw (nv : Int) mg ma mb (ns : Int) mlo mhi (nw : Int) mwe mru mrd, aL cL mw 160 (wkA rr), aI cI mg 100 (sgA sg), aL cL ma 800 (moA up), aL cL mb 800 (moA dn), aI cI mlo 30 (eA lo), aI cI mhi 30 (eA hi)]
  obtain ⟨hlo1, hhi1⟩ := hE u hu
  have hx1 : e1 < nv := by rw [he1]; split <;> assumption
  have hx2 : e2 < nv := by rw [he2]; split <;> assumption
  have ku := hV e1 hx1
  have kw := hV e2 hx2
  have kv := hV v hv
  obtain ⟨u1, u2, u3, u4, u5, u6⟩ := id ku
  obtain ⟨v1, v2, v3, v4, v5, v6⟩ := id kv
  obtain ⟨w1, w2, w3, w4, w5, w6⟩ := id kw
  have m1 := mul96 u3 v3
  have m2 := mul96 u5 v5
  have m3 := mul96 w3 v3
  have m4 := mul96 w5 v5
  have hD1p := Nat.mul_pos u4 v4
  have hD2p := Nat.mul_pos w4 v4
  have hsr1 := sg_mul ⟨u1, u2⟩ ⟨v1, v2⟩
  have hsr2 := sg_mul ⟨w1, w2⟩ ⟨v1, v2⟩
  have hS1 : zs (lwX (up e1 * up v) (dn e1 * dn v)) (sg e1 * sg v) = sg e1 * sg v := (zs_lw hD1p).trans (zs_pr u6 v6)
  have hS2 : zs (lwX (up e2 * up v) (dn e2 * dn v)) (sg e2 * sg v) = sg e2 * sg v := (zs_lw hD2p).trans (zs_pr w6 v6)
  have n1 : e1 ≠ nv := by omega
  have n2 : e2 ≠ nv := by omega
  have n3 : v ≠ nv := by omega
  refine z_aload_n S d_M_spanTimes_0 0 rfl ?_
  refine z_iload_n S d_M_spanTimes_1 1 rfl ?_
  refine z_callVa (As := [.int (zI (u : Int))]) (st := []) (wc := [oM mo th mw (nv : Int) mg ma mb (ns : Int) mlo mhi (nw : Int) mwe mru mrd]) (wr := [aL cL mw 160 (wkA rr), aI cI mg 100 (sgA sg), aL cL ma 800 (moA up), aL cL mb 800 (moA dn), aI cI mlo 30 (eA lo), aI cI mhi 30 (eA hi)]) S hGok hK hg hA (s_M_isSpan l dC dI cI cL qT mo mw nv ma mb ns mlo mhi nw mwe mru mrd th mg (u : Int) (by omega) (by omega)) (zcwV S (List.mem_cons_of_mem _ k_M_144) mV_M_isSpan k_M_144 hd_M_isSpan rfl rfl ⟨Nat.le_of_ble_eq_true rfl, Nat.le_of_ble_eq_true rfl⟩) rfl (Nat.le_of_ble_eq_true rfl) d_M_spanTimes_2 ⟨Nat.le_of_ble_eq_true rfl, Nat.le_of_ble_eq_true rfl⟩ rfl [0] [1, 2, 3, 4, 5, 6] 0 rfl rfl rfl (by decide) rfl rfl rfl (by decide) (by decide) (fun x w hp => ?_)
  obtain ⟨rfl, rfl⟩ := hp
  show ZZ _ _ _ _ _ _ _ _ _ _ _ _ _ _ _ _ _ _ 5 [(0, .ref mo), (1, .int (zI (u : Int))), (2, .int (zI (v : Int)))] [.int (zI (b2 (0 ≤ (u : Int) ∧ (u : Int) < (ns : Int))))] [aL cL mw 160 (wkA rr), aI cI mg 100 (sgA sg), aL cL ma 800 (moA up), aL cL mb 800 (moA dn), aI cI mlo 30 (eA lo), aI cI mhi 30 (eA hi), oM mo th mw (nv : Int) mg ma mb (ns : Int) mlo mhi (nw : Int) mwe mru mrd]
  refine z_toi (a := 1) (zI_c (b2_t ⟨by omega, by omega⟩)) ?_
  refine z_if_eq (tgt := 20) S d_M_spanTimes_5 (by decide) (by omega) (fun c1 => ?_) (fun c1 => ?_)
  · skip
    exact absurd c1 (by omega)
  · skip
    refine z_aload_n S d_M_spanTimes_8 0 rfl ?_
    refine z_iload_n S d_M_spanTimes_9 2 rfl ?_
    refine z_callVa (As := [.int (zI (v : Int))]) (st := []) (wc := [oM mo th mw (nv : Int) mg ma mb (ns : Int) mlo mhi (nw : Int) mwe mru mrd]) (wr := [aL cL mw 160 (wkA rr), aI cI mg 100 (sgA sg), aL cL ma 800 (moA up), aL cL mb 800 (moA dn), aI cI mlo 30 (eA lo), aI cI mhi 30 (eA hi)]) S hGok hK hg hA (s_M_isValue l dC dI cI cL qT mo mw nv ma mb ns mlo mhi nw mwe mru mrd th mg (v : Int) (by omega) (by omega)) (zcwV S (List.mem_cons_of_mem _ k_M_125) mV_M_isValue k_M_125 hd_M_isValue rfl rfl ⟨Nat.le_of_ble_eq_true rfl, Nat.le_of_ble_eq_true rfl⟩) rfl (Nat.le_of_ble_eq_true rfl) d_M_spanTimes_10 ⟨Nat.le_of_ble_eq_true rfl, Nat.le_of_ble_eq_true rfl⟩ rfl [6] [0, 1, 2, 3, 4, 5] 6 rfl rfl rfl (by decide) rfl rfl rfl (by decide) (by decide) (fun x w hp => ?_)
    obtain ⟨rfl, rfl⟩ := hp
    show ZZ _ _ _ _ _ _ _ _ _ _ _ _ _ _ _ _ _ _ 13 [(0, .ref mo), (1, .int (zI (u : Int))), (2, .int (zI (v : Int)))] [.int (zI (b2 (0 ≤ (v : Int) ∧ (v : Int) < (nv : Int))))] [aL cL mw 160 (wkA rr), aI cI mg 100 (sgA sg), aL cL ma 800 (moA up), aL cL mb 800 (moA dn), aI cI mlo 30 (eA lo), aI cI mhi 30 (eA hi), oM mo th mw (nv : Int) mg ma mb (ns : Int) mlo mhi (nw : Int) mwe mru mrd]
    refine z_toi (a := 1) (zI_c (b2_t ⟨by omega, by omega⟩)) ?_
    refine z_if_eq (tgt := 20) S d_M_spanTimes_13 (by decide) (by omega) (fun c2 => ?_) (fun c2 => ?_)
    · skip
      exact absurd c2 (by omega)
    · skip
      refine z_iconst S d_M_spanTimes_16 ?_
      refine z_goto (tgt := 21) S d_M_spanTimes_17 (by decide) ?_
      refine z_istore_n (lv' := [(3, .int (zI 1)), (0, .ref mo), (1, .int (zI (u : Int))), (2, .int (zI (v : Int)))]) S d_M_spanTimes_21 rfl (by decide) rfl ?_
      refine z_aload_n S d_M_spanTimes_22 1 rfl ?_
      refine z_iload_n S d_M_spanTimes_23 0 rfl ?_
      refine z_aload_n S d_M_spanTimes_24 1 rfl ?_
      refine z_get S hK la_M 6 rfl rfl 6 (by decide) k_M_45 rfl d_M_spanTimes_25 ?_
      refine z_bipush S d_M_spanTimes_28 rfl ?_
      refine z_icmp_ge (tgt := 46) S d_M_spanTimes_30 (by decide) (by omega) (by omega) (fun c3 => ?_) (fun c3 => ?_)
      · skip
        omega
      · skip
        refine z_aload_n S d_M_spanTimes_33 1 rfl ?_
        refine z_get S hK la_M 6 rfl rfl 2 (by decide) k_M_42 rfl d_M_spanTimes_34 ?_
        refine z_bipush S d_M_spanTimes_37 rfl ?_
        refine z_icmp_gt (tgt := 46) S d_M_spanTimes_39 (by decide) (by omega) (by omega) (fun c4 => ?_) (fun c4 => ?_)
        · skip
          omega
        · skip
          refine z_iconst S d_M_spanTimes_42 ?_
          refine z_goto (tgt := 47) S d_M_spanTimes_43 (by decide) ?_
          refine z_iconst S d_M_spanTimes_47 ?_
          refine z_callVa (As := [.int (zI 1), .int (zI 1), .int (zI 1)]) (st := []) (wc := [oM mo th mw (nv : Int) mg ma mb (ns : Int) mlo mhi (nw : Int) mwe mru mrd]) (wr := [aL cL mw 160 (wkA rr), aI cI mg 100 (sgA sg), aL cL ma 800 (moA up), aL cL mb 800 (moA dn), aI cI mlo 30 (eA lo), aI cI mhi 30 (eA hi)]) S hGok hK hg hA (s_M_goes l dC dI cI cL qT mo mw nv ma mb ns mlo mhi nw mwe mru mrd th mg 1 1 1 (by omega) (by omega) (by omega)) (zcwV S (List.mem_cons_of_mem _ k_M_118) mV_M_goes k_M_118 hd_M_goes rfl rfl ⟨Nat.le_of_ble_eq_true rfl, Nat.le_of_ble_eq_true rfl⟩) rfl (Nat.le_of_ble_eq_true rfl) d_M_spanTimes_48 ⟨Nat.le_of_ble_eq_true rfl, Nat.le_of_ble_eq_true rfl⟩ rfl [6] [0, 1, 2, 3, 4, 5] 6 rfl rfl rfl (by decide) rfl rfl rfl (by decide) (by decide) (fun x w hp => ?_)
          obtain ⟨rfl, rfl⟩ := hp
          show ZZ _ _ _ _ _ _ _ _ _ _ _ _ _ _ _ _ _ _ 51 [(3, .int (zI 1)), (0, .ref mo), (1, .int (zI (u : Int))), (2, .int (zI (v : Int)))] [.int (zI (b2 (gth 1 1 1 = 0)))] [aL cL mw 160 (wkA rr), aI cI mg 100 (sgA sg), aL cL ma 800 (moA up), aL cL mb 800 (moA dn), aI cI mlo 30 (eA lo), aI cI mhi 30 (eA hi), oM mo (gth 1 1 1) mw (nv : Int) mg ma mb (ns : Int) mlo mhi (nw : Int) mwe mru mrd]
          refine z_toi (a := 1) rfl ?_
          refine z_wq (ws' := [aL cL mw 160 (wkA rr), aI cI mg 100 (sgA sg), aL cL ma 800 (moA up), aL cL mb 800 (moA dn), aI cI mlo 30 (eA lo), aI cI mhi 30 (eA hi), oM mo 0 mw (nv : Int) mg ma mb (ns : Int) mlo mhi (nw : Int) mwe mru mrd]) rfl ?_
          refine z_if_ne (tgt := 56) S d_M_spanTimes_51 (by decide) (by omega) (fun c5 => ?_) (fun c5 => ?_)
          · skip
            refine z_aload_n S d_M_spanTimes_56 1 rfl ?_
            refine z_aload_n S d_M_spanTimes_57 1 rfl ?_
            refine z_aload_n S d_M_spanTimes_58 1 rfl ?_
            refine z_get S hK la_M 6 rfl rfl 3 (by decide) k_M_13 rfl d_M_spanTimes_59 ?_
            refine z_iload_n S d_M_spanTimes_62 3 rfl ?_
            refine z_iald (x := sg v) S hK 1 0 rfl rfl v rfl (by omega) (by decide) rfl d_M_spanTimes_63 ?_
            refine z_if_ge (tgt := 76) S d_M_spanTimes_64 (by decide) (by omega) (fun c6 => ?_) (fun c6 => ?_)
            · skip
              refine z_aload_n S d_M_spanTimes_76 1 rfl ?_
              refine z_get S hK la_M 6 rfl rfl 7 (by decide) k_M_23 rfl d_M_spanTimes_77 ?_
              refine z_iload_n S d_M_spanTimes_80 2 rfl ?_
              refine z_iald (x := ((lo u : Nat) : Int)) S hK 4 0 rfl rfl u rfl (by omega) (by decide) rfl d_M_spanTimes_81 ?_
              refine z_toi (a := (e1 : Int)) (zI_c (by rw [he1, if_neg (by omega)])) ?_
              refine z_iload_n S d_M_spanTimes_82 3 rfl ?_
              refine z_callVa (As := [.int (zI (e1 : Int)), .int (zI (v : Int))]) (st := [.ref mo]) (wc := [oM mo 0 mw (nv : Int) mg ma mb (ns : Int) mlo mhi (nw : Int) mwe mru mrd, aL cL mw 160 (wkA rr), aI cI mg 100 (sgA sg), aL cL ma 800 (moA up), aL cL mb 800 (moA dn)]) (wr := [aI cI mlo 30 (eA lo), aI cI mhi 30 (eA hi)]) S hGok hK hg hA (s_M_product l dC dI cI cL qT mo mw nv ma mb ns mlo mhi nw mwe mru mrd 0 mg rr sg up dn e1 v (by omega) (by omega) u3 u5 ⟨u1, u2⟩ v3 v5 ⟨v1, v2⟩) (zcwV S (List.mem_cons_of_mem _ k_M_132) mV_M_product k_M_132 hd_M_product rfl rfl ⟨Nat.le_of_ble_eq_true rfl, Nat.le_of_ble_eq_true rfl⟩) rfl (Nat.le_of_ble_eq_true rfl) d_M_spanTimes_83 ⟨Nat.le_of_ble_eq_true rfl, Nat.le_of_ble_eq_true rfl⟩ rfl [6, 0, 1, 2, 3] [4, 5] 6 rfl rfl rfl (by decide) rfl rfl rfl (by decide) (by decide) (fun x w hp => ?_)
              obtain ⟨rp, p0, p1, rfl, rfl⟩ := hp
              show ZZ _ _ _ _ _ _ _ _ _ _ _ _ _ _ _ _ _ _ 86 [(3, .int (zI 1)), (0, .ref mo), (1, .int (zI (u : Int))), (2, .int (zI (v : Int)))] [.int (zI (sg e1 * sg v)), .ref mo] [aI cI mlo 30 (eA lo), aI cI mhi 30 (eA hi), oM mo 0 mw (nv : Int) mg ma mb (ns : Int) mlo mhi (nw : Int) mwe mru mrd, aL cL mw 160 (wkA rp), aI cI mg 100 (sgA sg), aL cL ma 800 (moA up), aL cL mb 800 (moA dn)]
              by_cases hf1 : lwX (up e1 * up v) (dn e1 * dn v) < 10 ^ 48 ∧ lwZ (up e1 * up v) (dn e1 * dn v) < 10 ^ 48
              · skip
                refine z_callVa (As := [.int (zI (sg e1 * sg v))]) (st := []) (wc := [oM mo 0 mw (nv : Int) mg ma mb (ns : Int) mlo mhi (nw : Int) mwe mru mrd, aL cL mw 160 (wkA rp), aI cI mg 100 (sgA sg), aL cL ma 800 (moA up), aL cL mb 800 (moA dn)]) (wr := [aI cI mlo 30 (eA lo), aI cI mhi 30 (eA hi)]) S hGok hK hg hA (s_M_keepFit l dC dI cI cL qT mo mw nv ma mb ns mlo mhi nw mwe mru mrd 0 mg rp sg up dn (sg e1 * sg v) (by omega) (by rw [p0]; omega) (by rw [p1]; omega) (by rw [p1]; exact hD1p) hsr1 (by rw [p0, p1]; exact hf1)) (zcwV S (List.mem_cons_of_mem _ k_M_122) mV_M_keep k_M_122 hd_M_keep rfl rfl ⟨Nat.le_of_ble_eq_true rfl, Nat.le_of_ble_eq_true rfl⟩) rfl (Nat.le_of_ble_eq_true rfl) d_M_spanTimes_86 ⟨Nat.le_of_ble_eq_true rfl, Nat.le_of_ble_eq_true rfl⟩ rfl [2, 3, 4, 5, 6] [0, 1] 2 rfl rfl rfl (by decide) rfl rfl rfl (by decide) (by decide) (fun x w hp => ?_)
                obtain ⟨rq, rfl, rfl⟩ := hp
                show ZZ _ _ _ _ _ _ _ _ _ _ _ _ _ _ _ _ _ _ 89 [(3, .int (zI 1)), (0, .ref mo), (1, .int (zI (u : Int))), (2, .int (zI (v : Int)))] [.int (zI (nv : Int))] [aI cI mlo 30 (eA lo), aI cI mhi 30 (eA hi), oM mo 0 mw ((nv + 1 : Nat) : Int) mg ma mb (ns : Int) mlo mhi (nw : Int) mwe mru mrd, aL cL mw 160 (wkA rq), aI cI mg 100 (sgA (uz sg nv (zs (lwX (rp 0) (rp 1)) (sg e1 * sg v)))), aL cL ma 800 (moA (un up nv (lwX (rp 0) (rp 1)))), aL cL mb 800 (moA (un dn nv (lwZ (rp 0) (rp 1))))]
                refine z_wq (ws' := [aI cI mlo 30 (eA lo), aI cI mhi 30 (eA hi), oM mo 0 mw ((nv + 1 : Nat) : Int) mg ma mb (ns : Int) mlo mhi (nw : Int) mwe mru mrd, aL cL mw 160 (wkA rq), aI cI mg 100 (sgA (uz sg nv (sg e1 * sg v))), aL cL ma 800 (moA (un up nv (lwX (up e1 * up v) (dn e1 * dn v)))), aL cL mb 800 (moA (un dn nv (lwZ (up e1 * up v) (dn e1 * dn v))))]) (by rw [p0, p1, hS1]) ?_
                refine z_istore (lv' := [(4, .int (zI (nv : Int))), (3, .int (zI 1)), (0, .ref mo), (1, .int (zI (u : Int))), (2, .int (zI (v : Int)))]) S d_M_spanTimes_89 (by decide) rfl ?_
                refine z_iload S d_M_spanTimes_91 0 rfl ?_
                refine z_if_ge (tgt := 98) S d_M_spanTimes_93 (by decide) (by omega) (fun c7 => ?_) (fun c7 => ?_)
                · skip
                  refine z_aload_n S d_M_spanTimes_98 2 rfl ?_
                  refine z_aload_n S d_M_spanTimes_99 2 rfl ?_
                  refine z_aload_n S d_M_spanTimes_100 2 rfl ?_
                  refine z_get S hK la_M 2 rfl rfl 3 (by decide) k_M_13 rfl d_M_spanTimes_101 ?_
                  refine z_iload_n S d_M_spanTimes_104 4 rfl ?_
                  refine z_iald (x := sg v) S hK 4 0 rfl rfl v rfl (by omega) (by decide) (show zI (uz sg nv _ v) = _ by rw [uz_n n3]) d_M_spanTimes_105 ?_
                  refine z_if_ge (tgt := 118) S d_M_spanTimes_106 (by decide) (by omega) (fun c8 => ?_) (fun c8 => ?_)
                  · skip
                    refine z_aload_n S d_M_spanTimes_118 2 rfl ?_
                    refine z_get S hK la_M 2 rfl rfl 8 (by decide) k_M_26 rfl d_M_spanTimes_119 ?_
                    refine z_iload_n S d_M_spanTimes_122 3 rfl ?_
                    refine z_iald (x := ((hi u : Nat) : Int)) S hK 1 0 rfl rfl u rfl (by omega) (by decide) rfl d_M_spanTimes_123 ?_
                    refine z_toi (a := (e2 : Int)) (zI_c (by rw [he2, if_neg (by omega)])) ?_
                    refine z_iload_n S d_M_spanTimes_124 4 rfl ?_
                    refine z_callVa (As := [.int (zI (e2 : Int)), .int (zI (v : Int))]) (st := [.ref mo]) (wc := [oM mo 0 mw ((nv + 1 : Nat) : Int) mg ma mb (ns : Int) mlo mhi (nw : Int) mwe mru mrd, aL cL mw 160 (wkA rq), aI cI mg 100 (sgA (uz sg nv (sg e1 * sg v))), aL cL ma 800 (moA (un up nv (lwX (up e1 * up v) (dn e1 * dn v)))), aL cL mb 800 (moA (un dn nv (lwZ (up e1 * up v) (dn e1 * dn v))))]) (wr := [aI cI mlo 30 (eA lo), aI cI mhi 30 (eA hi)]) S hGok hK hg hA (s_M_product l dC dI cI cL qT mo mw (nv + 1) ma mb ns mlo mhi nw mwe mru mrd 0 mg rq (uz sg nv (sg e1 * sg v)) (un up nv (lwX (up e1 * up v) (dn e1 * dn v))) (un dn nv (lwZ (up e1 * up v) (dn e1 * dn v))) e2 v (by omega) (by omega) (by rw [un_n n2]; exact w3) (by rw [un_n n2]; exact w5) (by rw [uz_n n2]; exact ⟨w1, w2⟩) (by rw [un_n n3]; exact v3) (by rw [un_n n3]; exact v5) (by rw [uz_n n3]; exact ⟨v1, v2⟩)) (zcwV S (List.mem_cons_of_mem _ k_M_132) mV_M_product k_M_132 hd_M_product rfl rfl ⟨Nat.le_of_ble_eq_true rfl, Nat.le_of_ble_eq_true rfl⟩) rfl (Nat.le_of_ble_eq_true rfl) d_M_spanTimes_125 ⟨Nat.le_of_ble_eq_true rfl, Nat.le_of_ble_eq_true rfl⟩ rfl [2, 3, 4, 5, 6] [0, 1] 2 rfl rfl rfl (by decide) rfl rfl rfl (by decide) (by decide) (fun x w hp => ?_)
                    obtain ⟨ro, o0x, o1x, rfl, rfl⟩ := hp
                    show ZZ _ _ _ _ _ _ _ _ _ _ _ _ _ _ _ _ _ _ 128 [(4, .int (zI (nv : Int))), (3, .int (zI 1)), (0, .ref mo), (1, .int (zI (u : Int))), (2, .int (zI (v : Int)))] [.int (zI ((uz sg nv (sg e1 * sg v)) e2 * (uz sg nv (sg e1 * sg v)) v)), .ref mo] [aI cI mlo 30 (eA lo), aI cI mhi 30 (eA hi), oM mo 0 mw ((nv + 1 : Nat) : Int) mg ma mb (ns : Int) mlo mhi (nw : Int) mwe mru mrd, aL cL mw 160 (wkA ro), aI cI mg 100 (sgA (uz sg nv (sg e1 * sg v))), aL cL ma 800 (moA (un up nv (lwX (up e1 * up v) (dn e1 * dn v)))), aL cL mb 800 (moA (un dn nv (lwZ (up e1 * up v) (dn e1 * dn v))))]
                    have o0 : ro 0 = up e2 * up v := by rw [o0x, un_n n2, un_n n3]
                    have o1 : ro 1 = dn e2 * dn v := by rw [o1x, un_n n2, un_n n3]
                    refine z_toi (a := sg e2 * sg v) (zI_c (by rw [uz_n n2, uz_n n3])) ?_
                    refine z_callVa (As := [.int (zI (sg e2 * sg v))]) (st := []) (wc := [oM mo 0 mw ((nv + 1 : Nat) : Int) mg ma mb (ns : Int) mlo mhi (nw : Int) mwe mru mrd, aL cL mw 160 (wkA ro), aI cI mg 100 (sgA (uz sg nv (sg e1 * sg v))), aL cL ma 800 (moA (un up nv (lwX (up e1 * up v) (dn e1 * dn v)))), aL cL mb 800 (moA (un dn nv (lwZ (up e1 * up v) (dn e1 * dn v))))]) (wr := [aI cI mlo 30 (eA lo), aI cI mhi 30 (eA hi)]) S hGok hK hg hA (s_M_keepLong l dC dI cI cL qT mo mw (nv + 1) ma mb ns mlo mhi nw mwe mru mrd 0 mg ro (uz sg nv (sg e1 * sg v)) (un up nv (lwX (up e1 * up v) (dn e1 * dn v))) (un dn nv (lwZ (up e1 * up v) (dn e1 * dn v))) (sg e2 * sg v) (by omega) (by rw [o0]; omega) (by rw [o1]; omega) (by rw [o1]; exact hD2p) hsr2 (by rw [o0, o1]; exact fun z => hfit ⟨hf1, z⟩)) (zcwV S (List.mem_cons_of_mem _ k_M_122) mV_M_keep k_M_122 hd_M_keep rfl rfl ⟨Nat.le_of_ble_eq_true rfl, Nat.le_of_ble_eq_true rfl⟩) rfl (Nat.le_of_ble_eq_true rfl) d_M_spanTimes_128 ⟨Nat.le_of_ble_eq_true rfl, Nat.le_of_ble_eq_true rfl⟩ rfl [2, 3, 4, 5, 6] [0, 1] 2 rfl rfl rfl (by decide) rfl rfl rfl (by decide) (by decide) (fun x w hp => ?_)
                    obtain ⟨rk, rfl, rfl⟩ := hp
                    show ZZ _ _ _ _ _ _ _ _ _ _ _ _ _ _ _ _ _ _ 131 [(4, .int (zI (nv : Int))), (3, .int (zI 1)), (0, .ref mo), (1, .int (zI (u : Int))), (2, .int (zI (v : Int)))] [.int (zI (-1))] [aI cI mlo 30 (eA lo), aI cI mhi 30 (eA hi), oM mo 0 mw ((nv + 1 : Nat) : Int) mg ma mb (ns : Int) mlo mhi (nw : Int) mwe mru mrd, aL cL mw 160 (wkA rk), aI cI mg 100 (sgA (uz sg nv (sg e1 * sg v))), aL cL ma 800 (moA (un up nv (lwX (up e1 * up v) (dn e1 * dn v)))), aL cL mb 800 (moA (un dn nv (lwZ (up e1 * up v) (dn e1 * dn v))))]
                    refine z_istore (lv' := [(5, .int (zI (-1))), (4, .int (zI (nv : Int))), (3, .int (zI 1)), (0, .ref mo), (1, .int (zI (u : Int))), (2, .int (zI (v : Int)))]) S d_M_spanTimes_131 (by decide) rfl ?_
                    refine z_iload S d_M_spanTimes_133 0 rfl ?_
                    refine z_if_ge (tgt := 150) S d_M_spanTimes_135 (by decide) (by omega) (fun c9 => ?_) (fun c9 => ?_)
                    · skip
                      omega
                    · skip
                      refine z_aload_n S d_M_spanTimes_138 3 rfl ?_
                      refine z_dup S d_M_spanTimes_139 rfl ?_
                      refine z_get S hK la_M 2 rfl rfl 2 (by decide) k_M_42 rfl d_M_spanTimes_140 ?_
                      refine z_iconst S d_M_spanTimes_143 ?_
                      refine z_isub S d_M_spanTimes_144 ?_
                      refine z_put (ws' := [aI cI mlo 30 (eA lo), aI cI mhi 30 (eA hi), oM mo 0 mw (((nv + 1 : Nat) : Int) - 1) mg ma mb (ns : Int) mlo mhi (nw : Int) mwe mru mrd, aL cL mw 160 (wkA rk), aI cI mg 100 (sgA (uz sg nv (sg e1 * sg v))), aL cL ma 800 (moA (un up nv (lwX (up e1 * up v) (dn e1 * dn v)))), aL cL mb 800 (moA (un dn nv (lwZ (up e1 * up v) (dn e1 * dn v))))]) S hK la_M ty_M tyok_M nm_M 2 rfl rfl 2 (by decide) k_M_42 rfl (ty := .int) (by decide +kernel) rfl rfl (Nat.le_of_ble_eq_true rfl) rfl d_M_spanTimes_145 ?_
                      refine z_wq (ws' := [aI cI mlo 30 (eA lo), aI cI mhi 30 (eA hi), oM mo 0 mw (nv : Int) mg ma mb (ns : Int) mlo mhi (nw : Int) mwe mru mrd, aL cL mw 160 (wkA rk), aI cI mg 100 (sgA (uz sg nv (sg e1 * sg v))), aL cL ma 800 (moA (un up nv (lwX (up e1 * up v) (dn e1 * dn v)))), aL cL mb 800 (moA (un dn nv (lwZ (up e1 * up v) (dn e1 * dn v))))]) (by rw [show ((nv + 1 : Nat) : Int) - 1 = (nv : Int) by omega]) ?_
                      refine z_iconst S d_M_spanTimes_148 ?_
                      exact z_iret (w := [oM mo 0 mw (nv : Int) mg ma mb (ns : Int) mlo mhi (nw : Int) mwe mru mrd, aL cL mw 160 (wkA rk), aI cI mg 100 (sgA (uz sg nv (sg e1 * sg v))), aL cL ma 800 (moA (un up nv (lwX (up e1 * up v) (dn e1 * dn v)))), aL cL mb 800 (moA (un dn nv (lwZ (up e1 * up v) (dn e1 * dn v)))), aI cI mlo 30 (eA lo), aI cI mhi 30 (eA hi)]) S hr hlo hAe d_M_spanTimes_149 [2, 3, 4, 5, 6, 0, 1] (by decide) rfl rfl ⟨Nat.le_refl _, Nat.le_refl _⟩ (⟨rk, uz sg nv (sg e1 * sg v), un up nv (lwX (up e1 * up v) (dn e1 * dn v)), un dn nv (lwZ (up e1 * up v) (dn e1 * dn v)), fun i hi => ⟨uz_n (by omega), un_n (by omega), un_n (by omega)⟩, rfl, rfl⟩)
                  · skip
                    omega
                · skip
                  omega
              · skip
                refine z_callVa (As := [.int (zI (sg e1 * sg v))]) (st := []) (wc := [oM mo 0 mw (nv : Int) mg ma mb (ns : Int) mlo mhi (nw : Int) mwe mru mrd, aL cL mw 160 (wkA rp), aI cI mg 100 (sgA sg), aL cL ma 800 (moA up), aL cL mb 800 (moA dn)]) (wr := [aI cI mlo 30 (eA lo), aI cI mhi 30 (eA hi)]) S hGok hK hg hA (s_M_keepLong l dC dI cI cL qT mo mw nv ma mb ns mlo mhi nw mwe mru mrd 0 mg rp sg up dn (sg e1 * sg v) (by omega) (by rw [p0]; omega) (by rw [p1]; omega) (by rw [p1]; exact hD1p) hsr1 (by rw [p0, p1]; exact hf1)) (zcwV S (List.mem_cons_of_mem _ k_M_122) mV_M_keep k_M_122 hd_M_keep rfl rfl ⟨Nat.le_of_ble_eq_true rfl, Nat.le_of_ble_eq_true rfl⟩) rfl (Nat.le_of_ble_eq_true rfl) d_M_spanTimes_86 ⟨Nat.le_of_ble_eq_true rfl, Nat.le_of_ble_eq_true rfl⟩ rfl [2, 3, 4, 5, 6] [0, 1] 2 rfl rfl rfl (by decide) rfl rfl rfl (by decide) (by decide) (fun x w hp => ?_)
                obtain ⟨rq, rfl, rfl⟩ := hp
                show ZZ _ _ _ _ _ _ _ _ _ _ _ _ _ _ _ _ _ _ 89 [(3, .int (zI 1)), (0, .ref mo), (1, .int (zI (u : Int))), (2, .int (zI (v : Int)))] [.int (zI (-1))] [aI cI mlo 30 (eA lo), aI cI mhi 30 (eA hi), oM mo 0 mw (nv : Int) mg ma mb (ns : Int) mlo mhi (nw : Int) mwe mru mrd, aL cL mw 160 (wkA rq), aI cI mg 100 (sgA sg), aL cL ma 800 (moA up), aL cL mb 800 (moA dn)]
                refine z_istore (lv' := [(4, .int (zI (-1))), (3, .int (zI 1)), (0, .ref mo), (1, .int (zI (u : Int))), (2, .int (zI (v : Int)))]) S d_M_spanTimes_89 (by decide) rfl ?_
                refine z_iload S d_M_spanTimes_91 0 rfl ?_
                refine z_if_ge (tgt := 98) S d_M_spanTimes_93 (by decide) (by omega) (fun c10 => ?_) (fun c10 => ?_)
                · skip
                  omega
                · skip
                  refine z_iconst S d_M_spanTimes_96 ?_
                  exact z_iret (w := [oM mo 0 mw (nv : Int) mg ma mb (ns : Int) mlo mhi (nw : Int) mwe mru mrd, aL cL mw 160 (wkA rq), aI cI mg 100 (sgA sg), aL cL ma 800 (moA up), aL cL mb 800 (moA dn), aI cI mlo 30 (eA lo), aI cI mhi 30 (eA hi)]) S hr hlo hAe d_M_spanTimes_97 [2, 3, 4, 5, 6, 0, 1] (by decide) rfl rfl ⟨Nat.le_refl _, Nat.le_refl _⟩ (⟨rq, sg, up, dn, fun i hi => ⟨rfl, rfl, rfl⟩, rfl, rfl⟩)
            · skip
              refine z_aload_n S d_M_spanTimes_67 1 rfl ?_
              refine z_get S hK la_M 6 rfl rfl 8 (by decide) k_M_26 rfl d_M_spanTimes_68 ?_
              refine z_iload_n S d_M_spanTimes_71 2 rfl ?_
              refine z_iald (x := ((hi u : Nat) : Int)) S hK 5 0 rfl rfl u rfl (by omega) (by decide) rfl d_M_spanTimes_72 ?_
              refine z_goto (tgt := 82) S d_M_spanTimes_73 (by decide) ?_
              refine z_toi (a := (e1 : Int)) (zI_c (by rw [he1, if_pos (by omega)])) ?_
              refine z_iload_n S d_M_spanTimes_82 3 rfl ?_
              refine z_callVa (As := [.int (zI (e1 : Int)), .int (zI (v : Int))]) (st := [.ref mo]) (wc := [oM mo 0 mw (nv : Int) mg ma mb (ns : Int) mlo mhi (nw : Int) mwe mru mrd, aL cL mw 160 (wkA rr), aI cI mg 100 (sgA sg), aL cL ma 800 (moA up), aL cL mb 800 (moA dn)]) (wr := [aI cI mlo 30 (eA lo), aI cI mhi 30 (eA hi)]) S hGok hK hg hA (s_M_product l dC dI cI cL qT mo mw nv ma mb ns mlo mhi nw mwe mru mrd 0 mg rr sg up dn e1 v (by omega) (by omega) u3 u5 ⟨u1, u2⟩ v3 v5 ⟨v1, v2⟩) (zcwV S (List.mem_cons_of_mem _ k_M_132) mV_M_product k_M_132 hd_M_product rfl rfl ⟨Nat.le_of_ble_eq_true rfl, Nat.le_of_ble_eq_true rfl⟩) rfl (Nat.le_of_ble_eq_true rfl) d_M_spanTimes_83 ⟨Nat.le_of_ble_eq_true rfl, Nat.le_of_ble_eq_true rfl⟩ rfl [6, 0, 1, 2, 3] [4, 5] 6 rfl rfl rfl (by decide) rfl rfl rfl (by decide) (by decide) (fun x w hp => ?_)
              obtain ⟨rp, p0, p1, rfl, rfl⟩ := hp
              show ZZ _ _ _ _ _ _ _ _ _ _ _ _ _ _ _ _ _ _ 86 [(3, .int (zI 1)), (0, .ref mo), (1, .int (zI (u : Int))), (2, .int (zI (v : Int)))] [.int (zI (sg e1 * sg v)), .ref mo] [aI cI mlo 30 (eA lo), aI cI mhi 30 (eA hi), oM mo 0 mw (nv : Int) mg ma mb (ns : Int) mlo mhi (nw : Int) mwe mru mrd, aL cL mw 160 (wkA rp), aI cI mg 100 (sgA sg), aL cL ma 800 (moA up), aL cL mb 800 (moA dn)]
              by_cases hf1 : lwX (up e1 * up v) (dn e1 * dn v) < 10 ^ 48 ∧ lwZ (up e1 * up v) (dn e1 * dn v) < 10 ^ 48
              · skip
                refine z_callVa (As := [.int (zI (sg e1 * sg v))]) (st := []) (wc := [oM mo 0 mw (nv : Int) mg ma mb (ns : Int) mlo mhi (nw : Int) mwe mru mrd, aL cL mw 160 (wkA rp), aI cI mg 100 (sgA sg), aL cL ma 800 (moA up), aL cL mb 800 (moA dn)]) (wr := [aI cI mlo 30 (eA lo), aI cI mhi 30 (eA hi)]) S hGok hK hg hA (s_M_keepFit l dC dI cI cL qT mo mw nv ma mb ns mlo mhi nw mwe mru mrd 0 mg rp sg up dn (sg e1 * sg v) (by omega) (by rw [p0]; omega) (by rw [p1]; omega) (by rw [p1]; exact hD1p) hsr1 (by rw [p0, p1]; exact hf1)) (zcwV S (List.mem_cons_of_mem _ k_M_122) mV_M_keep k_M_122 hd_M_keep rfl rfl ⟨Nat.le_of_ble_eq_true rfl, Nat.le_of_ble_eq_true rfl⟩) rfl (Nat.le_of_ble_eq_true rfl) d_M_spanTimes_86 ⟨Nat.le_of_ble_eq_true rfl, Nat.le_of_ble_eq_true rfl⟩ rfl [2, 3, 4, 5, 6] [0, 1] 2 rfl rfl rfl (by decide) rfl rfl rfl (by decide) (by decide) (fun x w hp => ?_)
                obtain ⟨rq, rfl, rfl⟩ := hp
                show ZZ _ _ _ _ _ _ _ _ _ _ _ _ _ _ _ _ _ _ 89 [(3, .int (zI 1)), (0, .ref mo), (1, .int (zI (u : Int))), (2, .int (zI (v : Int)))] [.int (zI (nv : Int))] [aI cI mlo 30 (eA lo), aI cI mhi 30 (eA hi), oM mo 0 mw ((nv + 1 : Nat) : Int) mg ma mb (ns : Int) mlo mhi (nw : Int) mwe mru mrd, aL cL mw 160 (wkA rq), aI cI mg 100 (sgA (uz sg nv (zs (lwX (rp 0) (rp 1)) (sg e1 * sg v)))), aL cL ma 800 (moA (un up nv (lwX (rp 0) (rp 1)))), aL cL mb 800 (moA (un dn nv (lwZ (rp 0) (rp 1))))]
                refine z_wq (ws' := [aI cI mlo 30 (eA lo), aI cI mhi 30 (eA hi), oM mo 0 mw ((nv + 1 : Nat) : Int) mg ma mb (ns : Int) mlo mhi (nw : Int) mwe mru mrd, aL cL mw 160 (wkA rq), aI cI mg 100 (sgA (uz sg nv (sg e1 * sg v))), aL cL ma 800 (moA (un up nv (lwX (up e1 * up v) (dn e1 * dn v)))), aL cL mb 800 (moA (un dn nv (lwZ (up e1 * up v) (dn e1 * dn v))))]) (by rw [p0, p1, hS1]) ?_
                refine z_istore (lv' := [(4, .int (zI (nv : Int))), (3, .int (zI 1)), (0, .ref mo), (1, .int (zI (u : Int))), (2, .int (zI (v : Int)))]) S d_M_spanTimes_89 (by decide) rfl ?_
                refine z_iload S d_M_spanTimes_91 0 rfl ?_
                refine z_if_ge (tgt := 98) S d_M_spanTimes_93 (by decide) (by omega) (fun c11 => ?_) (fun c11 => ?_)
                · skip
                  refine z_aload_n S d_M_spanTimes_98 2 rfl ?_
                  refine z_aload_n S d_M_spanTimes_99 2 rfl ?_
                  refine z_aload_n S d_M_spanTimes_100 2 rfl ?_
                  refine z_get S hK la_M 2 rfl rfl 3 (by decide) k_M_13 rfl d_M_spanTimes_101 ?_
                  refine z_iload_n S d_M_spanTimes_104 4 rfl ?_
                  refine z_iald (x := sg v) S hK 4 0 rfl rfl v rfl (by omega) (by decide) (show zI (uz sg nv _ v) = _ by rw [uz_n n3]) d_M_spanTimes_105 ?_
                  refine z_if_ge (tgt := 118) S d_M_spanTimes_106 (by decide) (by omega) (fun c12 => ?_) (fun c12 => ?_)
                  · skip
                    omega
                  · skip
                    refine z_aload_n S d_M_spanTimes_109 2 rfl ?_
                    refine z_get S hK la_M 2 rfl rfl 7 (by decide) k_M_23 rfl d_M_spanTimes_110 ?_
                    refine z_iload_n S d_M_spanTimes_113 3 rfl ?_
                    refine z_iald (x := ((lo u : Nat) : Int)) S hK 0 0 rfl rfl u rfl (by omega) (by decide) rfl d_M_spanTimes_114 ?_
                    refine z_goto (tgt := 124) S d_M_spanTimes_115 (by decide) ?_
                    refine z_toi (a := (e2 : Int)) (zI_c (by rw [he2, if_pos (by omega)])) ?_
                    refine z_iload_n S d_M_spanTimes_124 4 rfl ?_
                    refine z_callVa (As := [.int (zI (e2 : Int)), .int (zI (v : Int))]) (st := [.ref mo]) (wc := [oM mo 0 mw ((nv + 1 : Nat) : Int) mg ma mb (ns : Int) mlo mhi (nw : Int) mwe mru mrd, aL cL mw 160 (wkA rq), aI cI mg 100 (sgA (uz sg nv (sg e1 * sg v))), aL cL ma 800 (moA (un up nv (lwX (up e1 * up v) (dn e1 * dn v)))), aL cL mb 800 (moA (un dn nv (lwZ (up e1 * up v) (dn e1 * dn v))))]) (wr := [aI cI mlo 30 (eA lo), aI cI mhi 30 (eA hi)]) S hGok hK hg hA (s_M_product l dC dI cI cL qT mo mw (nv + 1) ma mb ns mlo mhi nw mwe mru mrd 0 mg rq (uz sg nv (sg e1 * sg v)) (un up nv (lwX (up e1 * up v) (dn e1 * dn v))) (un dn nv (lwZ (up e1 * up v) (dn e1 * dn v))) e2 v (by omega) (by omega) (by rw [un_n n2]; exact w3) (by rw [un_n n2]; exact w5) (by rw [uz_n n2]; exact ⟨w1, w2⟩) (by rw [un_n n3]; exact v3) (by rw [un_n n3]; exact v5) (by rw [uz_n n3]; exact ⟨v1, v2⟩)) (zcwV S (List.mem_cons_of_mem _ k_M_132) mV_M_product k_M_132 hd_M_product rfl rfl ⟨Nat.le_of_ble_eq_true rfl, Nat.le_of_ble_eq_true rfl⟩) rfl (Nat.le_of_ble_eq_true rfl) d_M_spanTimes_125 ⟨Nat.le_of_ble_eq_true rfl, Nat.le_of_ble_eq_true rfl⟩ rfl [2, 3, 4, 5, 6] [0, 1] 2 rfl rfl rfl (by decide) rfl rfl rfl (by decide) (by decide) (fun x w hp => ?_)
                    obtain ⟨ro, o0x, o1x, rfl, rfl⟩ := hp
                    show ZZ _ _ _ _ _ _ _ _ _ _ _ _ _ _ _ _ _ _ 128 [(4, .int (zI (nv : Int))), (3, .int (zI 1)), (0, .ref mo), (1, .int (zI (u : Int))), (2, .int (zI (v : Int)))] [.int (zI ((uz sg nv (sg e1 * sg v)) e2 * (uz sg nv (sg e1 * sg v)) v)), .ref mo] [aI cI mlo 30 (eA lo), aI cI mhi 30 (eA hi), oM mo 0 mw ((nv + 1 : Nat) : Int) mg ma mb (ns : Int) mlo mhi (nw : Int) mwe mru mrd, aL cL mw 160 (wkA ro), aI cI mg 100 (sgA (uz sg nv (sg e1 * sg v))), aL cL ma 800 (moA (un up nv (lwX (up e1 * up v) (dn e1 * dn v)))), aL cL mb 800 (moA (un dn nv (lwZ (up e1 * up v) (dn e1 * dn v))))]
                    have o0 : ro 0 = up e2 * up v := by rw [o0x, un_n n2, un_n n3]
                    have o1 : ro 1 = dn e2 * dn v := by rw [o1x, un_n n2, un_n n3]
                    refine z_toi (a := sg e2 * sg v) (zI_c (by rw [uz_n n2, uz_n n3])) ?_
                    refine z_callVa (As := [.int (zI (sg e2 * sg v))]) (st := []) (wc := [oM mo 0 mw ((nv + 1 : Nat) : Int) mg ma mb (ns : Int) mlo mhi (nw : Int) mwe mru mrd, aL cL mw 160 (wkA ro), aI cI mg 100 (sgA (uz sg nv (sg e1 * sg v))), aL cL ma 800 (moA (un up nv (lwX (up e1 * up v) (dn e1 * dn v)))), aL cL mb 800 (moA (un dn nv (lwZ (up e1 * up v) (dn e1 * dn v))))]) (wr := [aI cI mlo 30 (eA lo), aI cI mhi 30 (eA hi)]) S hGok hK hg hA (s_M_keepLong l dC dI cI cL qT mo mw (nv + 1) ma mb ns mlo mhi nw mwe mru mrd 0 mg ro (uz sg nv (sg e1 * sg v)) (un up nv (lwX (up e1 * up v) (dn e1 * dn v))) (un dn nv (lwZ (up e1 * up v) (dn e1 * dn v))) (sg e2 * sg v) (by omega) (by rw [o0]; omega) (by rw [o1]; omega) (by rw [o1]; exact hD2p) hsr2 (by rw [o0, o1]; exact fun z => hfit ⟨hf1, z⟩)) (zcwV S (List.mem_cons_of_mem _ k_M_122) mV_M_keep k_M_122 hd_M_keep rfl rfl ⟨Nat.le_of_ble_eq_true rfl, Nat.le_of_ble_eq_true rfl⟩) rfl (Nat.le_of_ble_eq_true rfl) d_M_spanTimes_128 ⟨Nat.le_of_ble_eq_true rfl, Nat.le_of_ble_eq_true rfl⟩ rfl [2, 3, 4, 5, 6] [0, 1] 2 rfl rfl rfl (by decide) rfl rfl rfl (by decide) (by decide) (fun x w hp => ?_)
                    obtain ⟨rk, rfl, rfl⟩ := hp
                    show ZZ _ _ _ _ _ _ _ _ _ _ _ _ _ _ _ _ _ _ 131 [(4, .int (zI (nv : Int))), (3, .int (zI 1)), (0, .ref mo), (1, .int (zI (u : Int))), (2, .int (zI (v : Int)))] [.int (zI (-1))] [aI cI mlo 30 (eA lo), aI cI mhi 30 (eA hi), oM mo 0 mw ((nv + 1 : Nat) : Int) mg ma mb (ns : Int) mlo mhi (nw : Int) mwe mru mrd, aL cL mw 160 (wkA rk), aI cI mg 100 (sgA (uz sg nv (sg e1 * sg v))), aL cL ma 800 (moA (un up nv (lwX (up e1 * up v) (dn e1 * dn v)))), aL cL mb 800 (moA (un dn nv (lwZ (up e1 * up v) (dn e1 * dn v))))]
                    refine z_istore (lv' := [(5, .int (zI (-1))), (4, .int (zI (nv : Int))), (3, .int (zI 1)), (0, .ref mo), (1, .int (zI (u : Int))), (2, .int (zI (v : Int)))]) S d_M_spanTimes_131 (by decide) rfl ?_
                    refine z_iload S d_M_spanTimes_133 0 rfl ?_
                    refine z_if_ge (tgt := 150) S d_M_spanTimes_135 (by decide) (by omega) (fun c13 => ?_) (fun c13 => ?_)
                    · skip
                      omega
                    · skip
                      refine z_aload_n S d_M_spanTimes_138 3 rfl ?_
                      refine z_dup S d_M_spanTimes_139 rfl ?_
                      refine z_get S hK la_M 2 rfl rfl 2 (by decide) k_M_42 rfl d_M_spanTimes_140 ?_
                      refine z_iconst S d_M_spanTimes_143 ?_
                      refine z_isub S d_M_spanTimes_144 ?_
                      refine z_put (ws' := [aI cI mlo 30 (eA lo), aI cI mhi 30 (eA hi), oM mo 0 mw (((nv + 1 : Nat) : Int) - 1) mg ma mb (ns : Int) mlo mhi (nw : Int) mwe mru mrd, aL cL mw 160 (wkA rk), aI cI mg 100 (sgA (uz sg nv (sg e1 * sg v))), aL cL ma 800 (moA (un up nv (lwX (up e1 * up v) (dn e1 * dn v)))), aL cL mb 800 (moA (un dn nv (lwZ (up e1 * up v) (dn e1 * dn v))))]) S hK la_M ty_M tyok_M nm_M 2 rfl rfl 2 (by decide) k_M_42 rfl (ty := .int) (by decide +kernel) rfl rfl (Nat.le_of_ble_eq_true rfl) rfl d_M_spanTimes_145 ?_
                      refine z_wq (ws' := [aI cI mlo 30 (eA lo), aI cI mhi 30 (eA hi), oM mo 0 mw (nv : Int) mg ma mb (ns : Int) mlo mhi (nw : Int) mwe mru mrd, aL cL mw 160 (wkA rk), aI cI mg 100 (sgA (uz sg nv (sg e1 * sg v))), aL cL ma 800 (moA (un up nv (lwX (up e1 * up v) (dn e1 * dn v)))), aL cL mb 800 (moA (un dn nv (lwZ (up e1 * up v) (dn e1 * dn v))))]) (by rw [show ((nv + 1 : Nat) : Int) - 1 = (nv : Int) by omega]) ?_
                      refine z_iconst S d_M_spanTimes_148 ?_
                      exact z_iret (w := [oM mo 0 mw (nv : Int) mg ma mb (ns : Int) mlo mhi (nw : Int) mwe mru mrd, aL cL mw 160 (wkA rk), aI cI mg 100 (sgA (uz sg nv (sg e1 * sg v))), aL cL ma 800 (moA (un up nv (lwX (up e1 * up v) (dn e1 * dn v)))), aL cL mb 800 (moA (un dn nv (lwZ (up e1 * up v) (dn e1 * dn v)))), aI cI mlo 30 (eA lo), aI cI mhi 30 (eA hi)]) S hr hlo hAe d_M_spanTimes_149 [2, 3, 4, 5, 6, 0, 1] (by decide) rfl rfl ⟨Nat.le_refl _, Nat.le_refl _⟩ (⟨rk, uz sg nv (sg e1 * sg v), un up nv (lwX (up e1 * up v) (dn e1 * dn v)), un dn nv (lwZ (up e1 * up v) (dn e1 * dn v)), fun i hi => ⟨uz_n (by omega), un_n (by omega), un_n (by omega)⟩, rfl, rfl⟩)
                · skip
                  omega
              · skip
                refine z_callVa (As := [.int (zI (sg e1 * sg v))]) (st := []) (wc := [oM mo 0 mw (nv : Int) mg ma mb (ns : Int) mlo mhi (nw : Int) mwe mru mrd, aL cL mw 160 (wkA rp), aI cI mg 100 (sgA sg), aL cL ma 800 (moA up), aL cL mb 800 (moA dn)]) (wr := [aI cI mlo 30 (eA lo), aI cI mhi 30 (eA hi)]) S hGok hK hg hA (s_M_keepLong l dC dI cI cL qT mo mw nv ma mb ns mlo mhi nw mwe mru mrd 0 mg rp sg up dn (sg e1 * sg v) (by omega) (by rw [p0]; omega) (by rw [p1]; omega) (by rw [p1]; exact hD1p) hsr1 (by rw [p0, p1]; exact hf1)) (zcwV S (List.mem_cons_of_mem _ k_M_122) mV_M_keep k_M_122 hd_M_keep rfl rfl ⟨Nat.le_of_ble_eq_true rfl, Nat.le_of_ble_eq_true rfl⟩) rfl (Nat.le_of_ble_eq_true rfl) d_M_spanTimes_86 ⟨Nat.le_of_ble_eq_true rfl, Nat.le_of_ble_eq_true rfl⟩ rfl [2, 3, 4, 5, 6] [0, 1] 2 rfl rfl rfl (by decide) rfl rfl rfl (by decide) (by decide) (fun x w hp => ?_)
                obtain ⟨rq, rfl, rfl⟩ := hp
                show ZZ _ _ _ _ _ _ _ _ _ _ _ _ _ _ _ _ _ _ 89 [(3, .int (zI 1)), (0, .ref mo), (1, .int (zI (u : Int))), (2, .int (zI (v : Int)))] [.int (zI (-1))] [aI cI mlo 30 (eA lo), aI cI mhi 30 (eA hi), oM mo 0 mw (nv : Int) mg ma mb (ns : Int) mlo mhi (nw : Int) mwe mru mrd, aL cL mw 160 (wkA rq), aI cI mg 100 (sgA sg), aL cL ma 800 (moA up), aL cL mb 800 (moA dn)]
                refine z_istore (lv' := [(4, .int (zI (-1))), (3, .int (zI 1)), (0, .ref mo), (1, .int (zI (u : Int))), (2, .int (zI (v : Int)))]) S d_M_spanTimes_89 (by decide) rfl ?_
                refine z_iload S d_M_spanTimes_91 0 rfl ?_
                refine z_if_ge (tgt := 98) S d_M_spanTimes_93 (by decide) (by omega) (fun c14 => ?_) (fun c14 => ?_)
                · skip
                  omega
                · skip
                  refine z_iconst S d_M_spanTimes_96 ?_
                  exact z_iret (w := [oM mo 0 mw (nv : Int) mg ma mb (ns : Int) mlo mhi (nw : Int) mwe mru mrd, aL cL mw 160 (wkA rq), aI cI mg 100 (sgA sg), aL cL ma 800 (moA up), aL cL mb 800 (moA dn), aI cI mlo 30 (eA lo), aI cI mhi 30 (eA hi)]) S hr hlo hAe d_M_spanTimes_97 [2, 3, 4, 5, 6, 0, 1] (by decide) rfl rfl ⟨Nat.le_refl _, Nat.le_refl _⟩ (⟨rq, sg, up, dn, fun i hi => ⟨rfl, rfl, rfl⟩, rfl, rfl⟩)
          · skip
            exact absurd c5 (by omega)
set_option maxHeartbeats 4000000 in
set_option maxRecDepth 100000 in
theorem f1_M_spanTimes (l : Launch) (dC : Nat → ClassId) (dI : Nat → Nat → Nat) (cI cL : ClassId) (qT : Nat) (mo : Nat) (mw : Nat) (nv : Nat) (ma : Nat) (mb : Nat) (ns : Nat) (mlo : Nat) (mhi : Nat) (nw : Nat) (mwe : Nat) (mru : Nat) (mrd : Nat) (th : Int) (mg : Nat) (u : Int) (v : Int) (hnv : nv ≤ 100) (hns : ns ≤ 30) (hur : -2147483648 ≤ u ∧ u < 2147483648) (hvr : -2147483648 ≤ v ∧ v < 2147483648) (hu : ¬ ((0 ≤ u ∧ u < (ns : Int)) ∧ (0 ≤ v ∧ v < (nv : Int)))) : Ct l y_M_spanTimes (Cond.code y_M_spanTimes c_M_spanTimes 6 (some .int) :: zB) { frames := 5, cells := 0, slots := 0, locals := 128 } (dC, dI) zcl [(cI, .int), (cL, .long)] (zG cI cL qT) [.ref mo, .int (zI u), .int (zI v)] [oM mo th mw (nv : Int) mg ma mb (ns : Int) mlo mhi (nw : Int) mwe mru mrd] (fun rv wv => rv = .int (zI 0) ∧ wv = [oM mo 1 mw (nv : Int) mg ma mb (ns : Int) mlo mhi (nw : Int) mwe mru mrd]) 0 0 := by
  refine Cm.ofZ (cc := c_M_spanTimes) (maxL := 6) (ret := (some .int)) (by decide) rfl (Nat.le_of_ble_eq_true rfl) rfl ?_
  intro p e s m below meth c A S hr hlo hnm hK hg hA hAe
  have hGok := zG_ok cI cL qT
  show ZZ _ _ _ _ _ _ _ _ _ _ _ _ _ _ _ _ _ _ 0 [(0, .ref mo), (1, .int (zI u)), (2, .int (zI v))] [] [oM mo th mw (nv : Int) mg ma mb (ns : Int) mlo mhi (nw : Int) mwe mru mrd]
  refine z_aload_n S d_M_spanTimes_0 0 rfl ?_
  refine z_iload_n S d_M_spanTimes_1 1 rfl ?_
  refine z_callVa (As := [.int (zI u)]) (st := []) (wc := [oM mo th mw (nv : Int) mg ma mb (ns : Int) mlo mhi (nw : Int) mwe mru mrd]) (wr := []) S hGok hK hg hA (s_M_isSpan l dC dI cI cL qT mo mw nv ma mb ns mlo mhi nw mwe mru mrd th mg u (by omega) (by omega)) (zcwV S (List.mem_cons_of_mem _ k_M_144) mV_M_isSpan k_M_144 hd_M_isSpan rfl rfl ⟨Nat.le_of_ble_eq_true rfl, Nat.le_of_ble_eq_true rfl⟩) rfl (Nat.le_of_ble_eq_true rfl) d_M_spanTimes_2 ⟨Nat.le_of_ble_eq_true rfl, Nat.le_of_ble_eq_true rfl⟩ rfl [0] [] 0 rfl rfl rfl (by decide) rfl rfl rfl (by decide) (by decide) (fun x w hp => ?_)
  obtain ⟨rfl, rfl⟩ := hp
  show ZZ _ _ _ _ _ _ _ _ _ _ _ _ _ _ _ _ _ _ 5 [(0, .ref mo), (1, .int (zI u)), (2, .int (zI v))] [.int (zI (b2 (0 ≤ u ∧ u < (ns : Int))))] [oM mo th mw (nv : Int) mg ma mb (ns : Int) mlo mhi (nw : Int) mwe mru mrd]
  have hb1 := b2_r (0 ≤ u ∧ u < (ns : Int))
  refine z_if_eq (tgt := 20) S d_M_spanTimes_5 (by decide) (by omega) (fun c1 => ?_) (fun c1 => ?_)
  · skip
    refine z_iconst S d_M_spanTimes_20 ?_
    refine z_istore_n (lv' := [(3, .int (zI 0)), (0, .ref mo), (1, .int (zI u)), (2, .int (zI v))]) S d_M_spanTimes_21 rfl (by decide) rfl ?_
    refine z_aload_n S d_M_spanTimes_22 1 rfl ?_
    refine z_iload_n S d_M_spanTimes_23 0 rfl ?_
    refine z_aload_n S d_M_spanTimes_24 1 rfl ?_
    refine z_get S hK la_M 0 rfl rfl 6 (by decide) k_M_45 rfl d_M_spanTimes_25 ?_
    refine z_bipush S d_M_spanTimes_28 rfl ?_
    refine z_icmp_ge (tgt := 46) S d_M_spanTimes_30 (by decide) (by omega) (by omega) (fun c2 => ?_) (fun c2 => ?_)
    · skip
      refine z_iconst S d_M_spanTimes_46 ?_
      refine z_iconst S d_M_spanTimes_47 ?_
      refine z_callVa (As := [.int (zI 0), .int (zI 0), .int (zI 1)]) (st := []) (wc := [oM mo th mw (nv : Int) mg ma mb (ns : Int) mlo mhi (nw : Int) mwe mru mrd]) (wr := []) S hGok hK hg hA (s_M_goes l dC dI cI cL qT mo mw nv ma mb ns mlo mhi nw mwe mru mrd th mg 0 0 1 (by omega) (by omega) (by omega)) (zcwV S (List.mem_cons_of_mem _ k_M_118) mV_M_goes k_M_118 hd_M_goes rfl rfl ⟨Nat.le_of_ble_eq_true rfl, Nat.le_of_ble_eq_true rfl⟩) rfl (Nat.le_of_ble_eq_true rfl) d_M_spanTimes_48 ⟨Nat.le_of_ble_eq_true rfl, Nat.le_of_ble_eq_true rfl⟩ rfl [0] [] 0 rfl rfl rfl (by decide) rfl rfl rfl (by decide) (by decide) (fun x w hp => ?_)
      obtain ⟨rfl, rfl⟩ := hp
      show ZZ _ _ _ _ _ _ _ _ _ _ _ _ _ _ _ _ _ _ 51 [(3, .int (zI 0)), (0, .ref mo), (1, .int (zI u)), (2, .int (zI v))] [.int (zI (b2 (gth 0 0 1 = 0)))] [oM mo (gth 0 0 1) mw (nv : Int) mg ma mb (ns : Int) mlo mhi (nw : Int) mwe mru mrd]
      refine z_toi (a := 0) rfl ?_
      refine z_wq (ws' := [oM mo 1 mw (nv : Int) mg ma mb (ns : Int) mlo mhi (nw : Int) mwe mru mrd]) rfl ?_
      refine z_if_ne (tgt := 56) S d_M_spanTimes_51 (by decide) (by omega) (fun c3 => ?_) (fun c3 => ?_)
      · skip
        exact absurd c3 (by omega)
      · skip
        refine z_iconst S d_M_spanTimes_54 ?_
        exact z_iret (w := [oM mo 1 mw (nv : Int) mg ma mb (ns : Int) mlo mhi (nw : Int) mwe mru mrd]) S hr hlo hAe d_M_spanTimes_55 [0] (by decide) rfl rfl ⟨Nat.le_refl _, Nat.le_refl _⟩ (⟨rfl, rfl⟩)
    · skip
      refine z_aload_n S d_M_spanTimes_33 1 rfl ?_
      refine z_get S hK la_M 0 rfl rfl 2 (by decide) k_M_42 rfl d_M_spanTimes_34 ?_
      refine z_bipush S d_M_spanTimes_37 rfl ?_
      refine z_icmp_gt (tgt := 46) S d_M_spanTimes_39 (by decide) (by omega) (by omega) (fun c4 => ?_) (fun c4 => ?_)
      · skip
        refine z_iconst S d_M_spanTimes_46 ?_
        refine z_iconst S d_M_spanTimes_47 ?_
        refine z_callVa (As := [.int (zI 0), .int (zI 0), .int (zI 1)]) (st := []) (wc := [oM mo th mw (nv : Int) mg ma mb (ns : Int) mlo mhi (nw : Int) mwe mru mrd]) (wr := []) S hGok hK hg hA (s_M_goes l dC dI cI cL qT mo mw nv ma mb ns mlo mhi nw mwe mru mrd th mg 0 0 1 (by omega) (by omega) (by omega)) (zcwV S (List.mem_cons_of_mem _ k_M_118) mV_M_goes k_M_118 hd_M_goes rfl rfl ⟨Nat.le_of_ble_eq_true rfl, Nat.le_of_ble_eq_true rfl⟩) rfl (Nat.le_of_ble_eq_true rfl) d_M_spanTimes_48 ⟨Nat.le_of_ble_eq_true rfl, Nat.le_of_ble_eq_true rfl⟩ rfl [0] [] 0 rfl rfl rfl (by decide) rfl rfl rfl (by decide) (by decide) (fun x w hp => ?_)
        obtain ⟨rfl, rfl⟩ := hp
        show ZZ _ _ _ _ _ _ _ _ _ _ _ _ _ _ _ _ _ _ 51 [(3, .int (zI 0)), (0, .ref mo), (1, .int (zI u)), (2, .int (zI v))] [.int (zI (b2 (gth 0 0 1 = 0)))] [oM mo (gth 0 0 1) mw (nv : Int) mg ma mb (ns : Int) mlo mhi (nw : Int) mwe mru mrd]
        refine z_toi (a := 0) rfl ?_
        refine z_wq (ws' := [oM mo 1 mw (nv : Int) mg ma mb (ns : Int) mlo mhi (nw : Int) mwe mru mrd]) rfl ?_
        refine z_if_ne (tgt := 56) S d_M_spanTimes_51 (by decide) (by omega) (fun c5 => ?_) (fun c5 => ?_)
        · skip
          exact absurd c5 (by omega)
        · skip
          refine z_iconst S d_M_spanTimes_54 ?_
          exact z_iret (w := [oM mo 1 mw (nv : Int) mg ma mb (ns : Int) mlo mhi (nw : Int) mwe mru mrd]) S hr hlo hAe d_M_spanTimes_55 [0] (by decide) rfl rfl ⟨Nat.le_refl _, Nat.le_refl _⟩ (⟨rfl, rfl⟩)
      · skip
        refine z_iconst S d_M_spanTimes_42 ?_
        refine z_goto (tgt := 47) S d_M_spanTimes_43 (by decide) ?_
        refine z_iconst S d_M_spanTimes_47 ?_
        refine z_callVa (As := [.int (zI 0), .int (zI 1), .int (zI 1)]) (st := []) (wc := [oM mo th mw (nv : Int) mg ma mb (ns : Int) mlo mhi (nw : Int) mwe mru mrd]) (wr := []) S hGok hK hg hA (s_M_goes l dC dI cI cL qT mo mw nv ma mb ns mlo mhi nw mwe mru mrd th mg 0 1 1 (by omega) (by omega) (by omega)) (zcwV S (List.mem_cons_of_mem _ k_M_118) mV_M_goes k_M_118 hd_M_goes rfl rfl ⟨Nat.le_of_ble_eq_true rfl, Nat.le_of_ble_eq_true rfl⟩) rfl (Nat.le_of_ble_eq_true rfl) d_M_spanTimes_48 ⟨Nat.le_of_ble_eq_true rfl, Nat.le_of_ble_eq_true rfl⟩ rfl [0] [] 0 rfl rfl rfl (by decide) rfl rfl rfl (by decide) (by decide) (fun x w hp => ?_)
        obtain ⟨rfl, rfl⟩ := hp
        show ZZ _ _ _ _ _ _ _ _ _ _ _ _ _ _ _ _ _ _ 51 [(3, .int (zI 0)), (0, .ref mo), (1, .int (zI u)), (2, .int (zI v))] [.int (zI (b2 (gth 0 1 1 = 0)))] [oM mo (gth 0 1 1) mw (nv : Int) mg ma mb (ns : Int) mlo mhi (nw : Int) mwe mru mrd]
        refine z_toi (a := 0) rfl ?_
        refine z_wq (ws' := [oM mo 1 mw (nv : Int) mg ma mb (ns : Int) mlo mhi (nw : Int) mwe mru mrd]) rfl ?_
        refine z_if_ne (tgt := 56) S d_M_spanTimes_51 (by decide) (by omega) (fun c6 => ?_) (fun c6 => ?_)
        · skip
          exact absurd c6 (by omega)
        · skip
          refine z_iconst S d_M_spanTimes_54 ?_
          exact z_iret (w := [oM mo 1 mw (nv : Int) mg ma mb (ns : Int) mlo mhi (nw : Int) mwe mru mrd]) S hr hlo hAe d_M_spanTimes_55 [0] (by decide) rfl rfl ⟨Nat.le_refl _, Nat.le_refl _⟩ (⟨rfl, rfl⟩)
  · skip
    have hq5 := b2_p c1
    refine z_aload_n S d_M_spanTimes_8 0 rfl ?_
    refine z_iload_n S d_M_spanTimes_9 2 rfl ?_
    refine z_callVa (As := [.int (zI v)]) (st := []) (wc := [oM mo th mw (nv : Int) mg ma mb (ns : Int) mlo mhi (nw : Int) mwe mru mrd]) (wr := []) S hGok hK hg hA (s_M_isValue l dC dI cI cL qT mo mw nv ma mb ns mlo mhi nw mwe mru mrd th mg v (by omega) (by omega)) (zcwV S (List.mem_cons_of_mem _ k_M_125) mV_M_isValue k_M_125 hd_M_isValue rfl rfl ⟨Nat.le_of_ble_eq_true rfl, Nat.le_of_ble_eq_true rfl⟩) rfl (Nat.le_of_ble_eq_true rfl) d_M_spanTimes_10 ⟨Nat.le_of_ble_eq_true rfl, Nat.le_of_ble_eq_true rfl⟩ rfl [0] [] 0 rfl rfl rfl (by decide) rfl rfl rfl (by decide) (by decide) (fun x w hp => ?_)
    obtain ⟨rfl, rfl⟩ := hp
    show ZZ _ _ _ _ _ _ _ _ _ _ _ _ _ _ _ _ _ _ 13 [(0, .ref mo), (1, .int (zI u)), (2, .int (zI v))] [.int (zI (b2 (0 ≤ v ∧ v < (nv : Int))))] [oM mo th mw (nv : Int) mg ma mb (ns : Int) mlo mhi (nw : Int) mwe mru mrd]
    have hb2 := b2_r (0 ≤ v ∧ v < (nv : Int))
    refine z_if_eq (tgt := 20) S d_M_spanTimes_13 (by decide) (by omega) (fun c7 => ?_) (fun c7 => ?_)
    · skip
      refine z_iconst S d_M_spanTimes_20 ?_
      refine z_istore_n (lv' := [(3, .int (zI 0)), (0, .ref mo), (1, .int (zI u)), (2, .int (zI v))]) S d_M_spanTimes_21 rfl (by decide) rfl ?_
      refine z_aload_n S d_M_spanTimes_22 1 rfl ?_
      refine z_iload_n S d_M_spanTimes_23 0 rfl ?_
      refine z_aload_n S d_M_spanTimes_24 1 rfl ?_
      refine z_get S hK la_M 0 rfl rfl 6 (by decide) k_M_45 rfl d_M_spanTimes_25 ?_
      refine z_bipush S d_M_spanTimes_28 rfl ?_
      refine z_icmp_ge (tgt := 46) S d_M_spanTimes_30 (by decide) (by omega) (by omega) (fun c8 => ?_) (fun c8 => ?_)
      · skip
        refine z_iconst S d_M_spanTimes_46 ?_
        refine z_iconst S d_M_spanTimes_47 ?_
        refine z_callVa (As := [.int (zI 0), .int (zI 0), .int (zI 1)]) (st := []) (wc := [oM mo th mw (nv : Int) mg ma mb (ns : Int) mlo mhi (nw : Int) mwe mru mrd]) (wr := []) S hGok hK hg hA (s_M_goes l dC dI cI cL qT mo mw nv ma mb ns mlo mhi nw mwe mru mrd th mg 0 0 1 (by omega) (by omega) (by omega)) (zcwV S (List.mem_cons_of_mem _ k_M_118) mV_M_goes k_M_118 hd_M_goes rfl rfl ⟨Nat.le_of_ble_eq_true rfl, Nat.le_of_ble_eq_true rfl⟩) rfl (Nat.le_of_ble_eq_true rfl) d_M_spanTimes_48 ⟨Nat.le_of_ble_eq_true rfl, Nat.le_of_ble_eq_true rfl⟩ rfl [0] [] 0 rfl rfl rfl (by decide) rfl rfl rfl (by decide) (by decide) (fun x w hp => ?_)
        obtain ⟨rfl, rfl⟩ := hp
        show ZZ _ _ _ _ _ _ _ _ _ _ _ _ _ _ _ _ _ _ 51 [(3, .int (zI 0)), (0, .ref mo), (1, .int (zI u)), (2, .int (zI v))] [.int (zI (b2 (gth 0 0 1 = 0)))] [oM mo (gth 0 0 1) mw (nv : Int) mg ma mb (ns : Int) mlo mhi (nw : Int) mwe mru mrd]
        refine z_toi (a := 0) rfl ?_
        refine z_wq (ws' := [oM mo 1 mw (nv : Int) mg ma mb (ns : Int) mlo mhi (nw : Int) mwe mru mrd]) rfl ?_
        refine z_if_ne (tgt := 56) S d_M_spanTimes_51 (by decide) (by omega) (fun c9 => ?_) (fun c9 => ?_)
        · skip
          exact absurd c9 (by omega)
        · skip
          refine z_iconst S d_M_spanTimes_54 ?_
          exact z_iret (w := [oM mo 1 mw (nv : Int) mg ma mb (ns : Int) mlo mhi (nw : Int) mwe mru mrd]) S hr hlo hAe d_M_spanTimes_55 [0] (by decide) rfl rfl ⟨Nat.le_refl _, Nat.le_refl _⟩ (⟨rfl, rfl⟩)
      · skip
        refine z_aload_n S d_M_spanTimes_33 1 rfl ?_
        refine z_get S hK la_M 0 rfl rfl 2 (by decide) k_M_42 rfl d_M_spanTimes_34 ?_
        refine z_bipush S d_M_spanTimes_37 rfl ?_
        refine z_icmp_gt (tgt := 46) S d_M_spanTimes_39 (by decide) (by omega) (by omega) (fun c10 => ?_) (fun c10 => ?_)
        · skip
          refine z_iconst S d_M_spanTimes_46 ?_
          refine z_iconst S d_M_spanTimes_47 ?_
          refine z_callVa (As := [.int (zI 0), .int (zI 0), .int (zI 1)]) (st := []) (wc := [oM mo th mw (nv : Int) mg ma mb (ns : Int) mlo mhi (nw : Int) mwe mru mrd]) (wr := []) S hGok hK hg hA (s_M_goes l dC dI cI cL qT mo mw nv ma mb ns mlo mhi nw mwe mru mrd th mg 0 0 1 (by omega) (by omega) (by omega)) (zcwV S (List.mem_cons_of_mem _ k_M_118) mV_M_goes k_M_118 hd_M_goes rfl rfl ⟨Nat.le_of_ble_eq_true rfl, Nat.le_of_ble_eq_true rfl⟩) rfl (Nat.le_of_ble_eq_true rfl) d_M_spanTimes_48 ⟨Nat.le_of_ble_eq_true rfl, Nat.le_of_ble_eq_true rfl⟩ rfl [0] [] 0 rfl rfl rfl (by decide) rfl rfl rfl (by decide) (by decide) (fun x w hp => ?_)
          obtain ⟨rfl, rfl⟩ := hp
          show ZZ _ _ _ _ _ _ _ _ _ _ _ _ _ _ _ _ _ _ 51 [(3, .int (zI 0)), (0, .ref mo), (1, .int (zI u)), (2, .int (zI v))] [.int (zI (b2 (gth 0 0 1 = 0)))] [oM mo (gth 0 0 1) mw (nv : Int) mg ma mb (ns : Int) mlo mhi (nw : Int) mwe mru mrd]
          refine z_toi (a := 0) rfl ?_
          refine z_wq (ws' := [oM mo 1 mw (nv : Int) mg ma mb (ns : Int) mlo mhi (nw : Int) mwe mru mrd]) rfl ?_
          refine z_if_ne (tgt := 56) S d_M_spanTimes_51 (by decide) (by omega) (fun c11 => ?_) (fun c11 => ?_)
          · skip
            exact absurd c11 (by omega)
          · skip
            refine z_iconst S d_M_spanTimes_54 ?_
            exact z_iret (w := [oM mo 1 mw (nv : Int) mg ma mb (ns : Int) mlo mhi (nw : Int) mwe mru mrd]) S hr hlo hAe d_M_spanTimes_55 [0] (by decide) rfl rfl ⟨Nat.le_refl _, Nat.le_refl _⟩ (⟨rfl, rfl⟩)
        · skip
          refine z_iconst S d_M_spanTimes_42 ?_
          refine z_goto (tgt := 47) S d_M_spanTimes_43 (by decide) ?_
          refine z_iconst S d_M_spanTimes_47 ?_
          refine z_callVa (As := [.int (zI 0), .int (zI 1), .int (zI 1)]) (st := []) (wc := [oM mo th mw (nv : Int) mg ma mb (ns : Int) mlo mhi (nw : Int) mwe mru mrd]) (wr := []) S hGok hK hg hA (s_M_goes l dC dI cI cL qT mo mw nv ma mb ns mlo mhi nw mwe mru mrd th mg 0 1 1 (by omega) (by omega) (by omega)) (zcwV S (List.mem_cons_of_mem _ k_M_118) mV_M_goes k_M_118 hd_M_goes rfl rfl ⟨Nat.le_of_ble_eq_true rfl, Nat.le_of_ble_eq_true rfl⟩) rfl (Nat.le_of_ble_eq_true rfl) d_M_spanTimes_48 ⟨Nat.le_of_ble_eq_true rfl, Nat.le_of_ble_eq_true rfl⟩ rfl [0] [] 0 rfl rfl rfl (by decide) rfl rfl rfl (by decide) (by decide) (fun x w hp => ?_)
          obtain ⟨rfl, rfl⟩ := hp
          show ZZ _ _ _ _ _ _ _ _ _ _ _ _ _ _ _ _ _ _ 51 [(3, .int (zI 0)), (0, .ref mo), (1, .int (zI u)), (2, .int (zI v))] [.int (zI (b2 (gth 0 1 1 = 0)))] [oM mo (gth 0 1 1) mw (nv : Int) mg ma mb (ns : Int) mlo mhi (nw : Int) mwe mru mrd]
          refine z_toi (a := 0) rfl ?_
          refine z_wq (ws' := [oM mo 1 mw (nv : Int) mg ma mb (ns : Int) mlo mhi (nw : Int) mwe mru mrd]) rfl ?_
          refine z_if_ne (tgt := 56) S d_M_spanTimes_51 (by decide) (by omega) (fun c12 => ?_) (fun c12 => ?_)
          · skip
            exact absurd c12 (by omega)
          · skip
            refine z_iconst S d_M_spanTimes_54 ?_
            exact z_iret (w := [oM mo 1 mw (nv : Int) mg ma mb (ns : Int) mlo mhi (nw : Int) mwe mru mrd]) S hr hlo hAe d_M_spanTimes_55 [0] (by decide) rfl rfl ⟨Nat.le_refl _, Nat.le_refl _⟩ (⟨rfl, rfl⟩)
    · skip
      exact absurd c7 (fun z => hu ⟨hq5, b2_p z⟩)
set_option maxHeartbeats 4000000 in
set_option maxRecDepth 100000 in
theorem f2_M_spanTimes (l : Launch) (dC : Nat → ClassId) (dI : Nat → Nat → Nat) (cI cL : ClassId) (qT : Nat) (mo : Nat) (mw : Nat) (nv : Nat) (ma : Nat) (mb : Nat) (ns : Nat) (mlo : Nat) (mhi : Nat) (nw : Nat) (mwe : Nat) (mru : Nat) (mrd : Nat) (th : Int) (mg : Nat) (u : Nat) (v : Nat) (hnv : nv ≤ 100) (hns : ns ≤ 30) (hu : u < ns) (hv : v < nv) (hf : ns = 30 ∨ ¬ nv + 2 ≤ 100) : Ct l y_M_spanTimes (Cond.code y_M_spanTimes c_M_spanTimes 6 (some .int) :: zB) { frames := 5, cells := 0, slots := 0, locals := 128 } (dC, dI) zcl [(cI, .int), (cL, .long)] (zG cI cL qT) [.ref mo, .int (zI (u : Int)), .int (zI (v : Int))] [oM mo th mw (nv : Int) mg ma mb (ns : Int) mlo mhi (nw : Int) mwe mru mrd] (fun rv wv => rv = .int (zI 0) ∧ wv = [oM mo 2 mw (nv : Int) mg ma mb (ns : Int) mlo mhi (nw : Int) mwe mru mrd]) 0 0 := by
  refine Cm.ofZ (cc := c_M_spanTimes) (maxL := 6) (ret := (some .int)) (by decide) rfl (Nat.le_of_ble_eq_true rfl) rfl ?_
  intro p e s m below meth c A S hr hlo hnm hK hg hA hAe
  have hGok := zG_ok cI cL qT
  show ZZ _ _ _ _ _ _ _ _ _ _ _ _ _ _ _ _ _ _ 0 [(0, .ref mo), (1, .int (zI (u : Int))), (2, .int (zI (v : Int)))] [] [oM mo th mw (nv : Int) mg ma mb (ns : Int) mlo mhi (nw : Int) mwe mru mrd]
  refine z_aload_n S d_M_spanTimes_0 0 rfl ?_
  refine z_iload_n S d_M_spanTimes_1 1 rfl ?_
  refine z_callVa (As := [.int (zI (u : Int))]) (st := []) (wc := [oM mo th mw (nv : Int) mg ma mb (ns : Int) mlo mhi (nw : Int) mwe mru mrd]) (wr := []) S hGok hK hg hA (s_M_isSpan l dC dI cI cL qT mo mw nv ma mb ns mlo mhi nw mwe mru mrd th mg (u : Int) (by omega) (by omega)) (zcwV S (List.mem_cons_of_mem _ k_M_144) mV_M_isSpan k_M_144 hd_M_isSpan rfl rfl ⟨Nat.le_of_ble_eq_true rfl, Nat.le_of_ble_eq_true rfl⟩) rfl (Nat.le_of_ble_eq_true rfl) d_M_spanTimes_2 ⟨Nat.le_of_ble_eq_true rfl, Nat.le_of_ble_eq_true rfl⟩ rfl [0] [] 0 rfl rfl rfl (by decide) rfl rfl rfl (by decide) (by decide) (fun x w hp => ?_)
  obtain ⟨rfl, rfl⟩ := hp
  show ZZ _ _ _ _ _ _ _ _ _ _ _ _ _ _ _ _ _ _ 5 [(0, .ref mo), (1, .int (zI (u : Int))), (2, .int (zI (v : Int)))] [.int (zI (b2 (0 ≤ (u : Int) ∧ (u : Int) < (ns : Int))))] [oM mo th mw (nv : Int) mg ma mb (ns : Int) mlo mhi (nw : Int) mwe mru mrd]
  refine z_toi (a := 1) (zI_c (b2_t ⟨by omega, by omega⟩)) ?_
  refine z_if_eq (tgt := 20) S d_M_spanTimes_5 (by decide) (by omega) (fun c1 => ?_) (fun c1 => ?_)
  · skip
    exact absurd c1 (by omega)
  · skip
    refine z_aload_n S d_M_spanTimes_8 0 rfl ?_
    refine z_iload_n S d_M_spanTimes_9 2 rfl ?_
    refine z_callVa (As := [.int (zI (v : Int))]) (st := []) (wc := [oM mo th mw (nv : Int) mg ma mb (ns : Int) mlo mhi (nw : Int) mwe mru mrd]) (wr := []) S hGok hK hg hA (s_M_isValue l dC dI cI cL qT mo mw nv ma mb ns mlo mhi nw mwe mru mrd th mg (v : Int) (by omega) (by omega)) (zcwV S (List.mem_cons_of_mem _ k_M_125) mV_M_isValue k_M_125 hd_M_isValue rfl rfl ⟨Nat.le_of_ble_eq_true rfl, Nat.le_of_ble_eq_true rfl⟩) rfl (Nat.le_of_ble_eq_true rfl) d_M_spanTimes_10 ⟨Nat.le_of_ble_eq_true rfl, Nat.le_of_ble_eq_true rfl⟩ rfl [0] [] 0 rfl rfl rfl (by decide) rfl rfl rfl (by decide) (by decide) (fun x w hp => ?_)
    obtain ⟨rfl, rfl⟩ := hp
    show ZZ _ _ _ _ _ _ _ _ _ _ _ _ _ _ _ _ _ _ 13 [(0, .ref mo), (1, .int (zI (u : Int))), (2, .int (zI (v : Int)))] [.int (zI (b2 (0 ≤ (v : Int) ∧ (v : Int) < (nv : Int))))] [oM mo th mw (nv : Int) mg ma mb (ns : Int) mlo mhi (nw : Int) mwe mru mrd]
    refine z_toi (a := 1) (zI_c (b2_t ⟨by omega, by omega⟩)) ?_
    refine z_if_eq (tgt := 20) S d_M_spanTimes_13 (by decide) (by omega) (fun c2 => ?_) (fun c2 => ?_)
    · skip
      exact absurd c2 (by omega)
    · skip
      refine z_iconst S d_M_spanTimes_16 ?_
      refine z_goto (tgt := 21) S d_M_spanTimes_17 (by decide) ?_
      refine z_istore_n (lv' := [(3, .int (zI 1)), (0, .ref mo), (1, .int (zI (u : Int))), (2, .int (zI (v : Int)))]) S d_M_spanTimes_21 rfl (by decide) rfl ?_
      refine z_aload_n S d_M_spanTimes_22 1 rfl ?_
      refine z_iload_n S d_M_spanTimes_23 0 rfl ?_
      refine z_aload_n S d_M_spanTimes_24 1 rfl ?_
      refine z_get S hK la_M 0 rfl rfl 6 (by decide) k_M_45 rfl d_M_spanTimes_25 ?_
      refine z_bipush S d_M_spanTimes_28 rfl ?_
      refine z_icmp_ge (tgt := 46) S d_M_spanTimes_30 (by decide) (by omega) (by omega) (fun c3 => ?_) (fun c3 => ?_)
      · skip
        refine z_iconst S d_M_spanTimes_46 ?_
        refine z_iconst S d_M_spanTimes_47 ?_
        refine z_callVa (As := [.int (zI 1), .int (zI 0), .int (zI 1)]) (st := []) (wc := [oM mo th mw (nv : Int) mg ma mb (ns : Int) mlo mhi (nw : Int) mwe mru mrd]) (wr := []) S hGok hK hg hA (s_M_goes l dC dI cI cL qT mo mw nv ma mb ns mlo mhi nw mwe mru mrd th mg 1 0 1 (by omega) (by omega) (by omega)) (zcwV S (List.mem_cons_of_mem _ k_M_118) mV_M_goes k_M_118 hd_M_goes rfl rfl ⟨Nat.le_of_ble_eq_true rfl, Nat.le_of_ble_eq_true rfl⟩) rfl (Nat.le_of_ble_eq_true rfl) d_M_spanTimes_48 ⟨Nat.le_of_ble_eq_true rfl, Nat.le_of_ble_eq_true rfl⟩ rfl [0] [] 0 rfl rfl rfl (by decide) rfl rfl rfl (by decide) (by decide) (fun x w hp => ?_)
        obtain ⟨rfl, rfl⟩ := hp
        show ZZ _ _ _ _ _ _ _ _ _ _ _ _ _ _ _ _ _ _ 51 [(3, .int (zI 1)), (0, .ref mo), (1, .int (zI (u : Int))), (2, .int (zI (v : Int)))] [.int (zI (b2 (gth 1 0 1 = 0)))] [oM mo (gth 1 0 1) mw (nv : Int) mg ma mb (ns : Int) mlo mhi (nw : Int) mwe mru mrd]
        refine z_toi (a := 0) rfl ?_
        refine z_wq (ws' := [oM mo 2 mw (nv : Int) mg ma mb (ns : Int) mlo mhi (nw : Int) mwe mru mrd]) rfl ?_
        refine z_if_ne (tgt := 56) S d_M_spanTimes_51 (by decide) (by omega) (fun c4 => ?_) (fun c4 => ?_)
        · skip
          exact absurd c4 (by omega)
        · skip
          refine z_iconst S d_M_spanTimes_54 ?_
          exact z_iret (w := [oM mo 2 mw (nv : Int) mg ma mb (ns : Int) mlo mhi (nw : Int) mwe mru mrd]) S hr hlo hAe d_M_spanTimes_55 [0] (by decide) rfl rfl ⟨Nat.le_refl _, Nat.le_refl _⟩ (⟨rfl, rfl⟩)
      · skip
        refine z_aload_n S d_M_spanTimes_33 1 rfl ?_
        refine z_get S hK la_M 0 rfl rfl 2 (by decide) k_M_42 rfl d_M_spanTimes_34 ?_
        refine z_bipush S d_M_spanTimes_37 rfl ?_
        refine z_icmp_gt (tgt := 46) S d_M_spanTimes_39 (by decide) (by omega) (by omega) (fun c5 => ?_) (fun c5 => ?_)
        · skip
          refine z_iconst S d_M_spanTimes_46 ?_
          refine z_iconst S d_M_spanTimes_47 ?_
          refine z_callVa (As := [.int (zI 1), .int (zI 0), .int (zI 1)]) (st := []) (wc := [oM mo th mw (nv : Int) mg ma mb (ns : Int) mlo mhi (nw : Int) mwe mru mrd]) (wr := []) S hGok hK hg hA (s_M_goes l dC dI cI cL qT mo mw nv ma mb ns mlo mhi nw mwe mru mrd th mg 1 0 1 (by omega) (by omega) (by omega)) (zcwV S (List.mem_cons_of_mem _ k_M_118) mV_M_goes k_M_118 hd_M_goes rfl rfl ⟨Nat.le_of_ble_eq_true rfl, Nat.le_of_ble_eq_true rfl⟩) rfl (Nat.le_of_ble_eq_true rfl) d_M_spanTimes_48 ⟨Nat.le_of_ble_eq_true rfl, Nat.le_of_ble_eq_true rfl⟩ rfl [0] [] 0 rfl rfl rfl (by decide) rfl rfl rfl (by decide) (by decide) (fun x w hp => ?_)
          obtain ⟨rfl, rfl⟩ := hp
          show ZZ _ _ _ _ _ _ _ _ _ _ _ _ _ _ _ _ _ _ 51 [(3, .int (zI 1)), (0, .ref mo), (1, .int (zI (u : Int))), (2, .int (zI (v : Int)))] [.int (zI (b2 (gth 1 0 1 = 0)))] [oM mo (gth 1 0 1) mw (nv : Int) mg ma mb (ns : Int) mlo mhi (nw : Int) mwe mru mrd]
          refine z_toi (a := 0) rfl ?_
          refine z_wq (ws' := [oM mo 2 mw (nv : Int) mg ma mb (ns : Int) mlo mhi (nw : Int) mwe mru mrd]) rfl ?_
          refine z_if_ne (tgt := 56) S d_M_spanTimes_51 (by decide) (by omega) (fun c6 => ?_) (fun c6 => ?_)
          · skip
            exact absurd c6 (by omega)
          · skip
            refine z_iconst S d_M_spanTimes_54 ?_
            exact z_iret (w := [oM mo 2 mw (nv : Int) mg ma mb (ns : Int) mlo mhi (nw : Int) mwe mru mrd]) S hr hlo hAe d_M_spanTimes_55 [0] (by decide) rfl rfl ⟨Nat.le_refl _, Nat.le_refl _⟩ (⟨rfl, rfl⟩)
        · skip
          omega
