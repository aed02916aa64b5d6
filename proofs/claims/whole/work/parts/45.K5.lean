set_option maxHeartbeats 4000000 in
set_option maxRecDepth 100000 in
theorem s_K_sumOfWeights (l : Launch) (dC : Nat → ClassId) (dI : Nat → Nat → Nat) (cI cL : ClassId) (qT : Nat) (k : Nat) (ka : Nat) (kz : Nat) (ns : Nat) (kw : Nat) (nw : Nat) (j : Nat) (kb : Nat) (a : Nat) (b : Nat) (d : Nat) (g : Nat) (h : Nat) (we : Nat → Nat) (hnw : nw ≤ 20) : Ct l y_K_sumOfWeights (Cond.code y_K_sumOfWeights c_K_sumOfWeights 4 (some .long) :: zB) { frames := 0, cells := 0, slots := 0, locals := 0 } (dC, dI) zcl [(cI, .int), (cL, .long)] (zG cI cL qT) [.ref k] [oK k h ka kz (ns : Int) kw (nw : Int) j kb a b d g, aL cL kw 20 (wA we)] (fun rv wv => rv = .long (zL ((smW we nw : Nat) : Int)) ∧ wv = [oK k h ka kz (ns : Int) kw (nw : Int) j kb a b d g, aL cL kw 20 (wA we)]) 0 0 := by
  refine Cm.ofZ (cc := c_K_sumOfWeights) (maxL := 4) (ret := (some .long)) (by decide) rfl (Nat.le_of_ble_eq_true rfl) rfl ?_
  intro p e s m below meth c A S hr hlo hnm hK hg hA hAe
  have hGok := zG_ok cI cL qT
  show ZZ _ _ _ _ _ _ _ _ _ _ _ _ _ _ _ _ _ _ 0 [(0, .ref k)] [] [oK k h ka kz (ns : Int) kw (nw : Int) j kb a b d g, aL cL kw 20 (wA we)]
  have h0 : smW we 0 = 0 := rfl
  refine z_lconst (z := 0) S d_K_sumOfWeights_0 rfl ?_
  refine z_lstore_n (lv' := [(1, .long (zL 0)), (0, .ref k)]) S d_K_sumOfWeights_1 rfl (by decide) rfl ?_
  refine z_iconst S d_K_sumOfWeights_2 ?_
  refine z_istore_n (lv' := [(3, .int (zI 0)), (1, .long (zL 0)), (0, .ref k)]) S d_K_sumOfWeights_3 rfl (by decide) rfl ?_
  refine z_lv (lv' := [(0, .ref k), (1, .long (zL 0)), (3, .int (zI 0))]) [2, 1, 0] rfl ?_
  refine z_lq (lv' := [(0, .ref k), (1, .long (zL ((smW we 0 : Nat) : Int))), (3, .int (zI ((0 : Nat) : Int)))]) (Eq.trans ((congrArg (fun zzz : Int => ([(0, .ref k), (1, .long (zL zzz)), (3, .int (zI 0))] : List (Nat × Value))) (show (0 : Int) = ((smW we 0 : Nat) : Int) by omega))) (congrArg (fun zzz : Int => ([(0, .ref k), (1, .long (zL ((smW we 0 : Nat) : Int))), (3, .int (zI zzz))] : List (Nat × Value))) (show (0 : Int) = ((0 : Nat) : Int) by omega))) ?_
  refine z_loop (I := fun (i : Nat) => (i ≤ nw)) (μ := fun (i : Nat) => nw - i) (LV := fun (i : Nat) => [(0, .ref k), (1, .long (zL ((smW we i : Nat) : Int))), (3, .int (zI (i : Int)))]) (WS := fun (i : Nat) => [oK k h ka kz (ns : Int) kw (nw : Int) j kb a b d g, aL cL kw 20 (wA we)]) (a := 0) ?_ ?_
  · exact (show (0 ≤ nw) from by omega)
  · intro i hI ih4
    have hi : i ≤ nw := hI
    show ZZ _ _ _ _ _ _ _ _ _ _ _ _ _ _ _ _ _ _ 4 [(0, .ref k), (1, .long (zL ((smW we i : Nat) : Int))), (3, .int (zI (i : Int)))] [] [oK k h ka kz (ns : Int) kw (nw : Int) j kb a b d g, aL cL kw 20 (wA we)]
    refine z_iload_n S d_K_sumOfWeights_4 2 rfl ?_
    refine z_aload_n S d_K_sumOfWeights_5 0 rfl ?_
    refine z_get S hK la_K 0 rfl rfl 5 (by decide) k_K_31 rfl d_K_sumOfWeights_6 ?_
    refine z_icmp_ge (tgt := 27) S d_K_sumOfWeights_9 (by decide) (by omega) (by omega) (fun c1 => ?_) (fun c1 => ?_)
    · skip
      refine z_lload_n S d_K_sumOfWeights_27 1 rfl ?_
      exact z_lret (w := [oK k h ka kz (ns : Int) kw (nw : Int) j kb a b d g, aL cL kw 20 (wA we)]) S hr hlo hAe d_K_sumOfWeights_28 [0, 1] (by decide) rfl rfl ⟨Nat.le_refl _, Nat.le_refl _⟩ (⟨by rw [show i = nw by omega], rfl⟩)
    · skip
      refine z_lload_n S d_K_sumOfWeights_12 1 rfl ?_
      refine z_aload_n S d_K_sumOfWeights_13 0 rfl ?_
      refine z_get S hK la_K 0 rfl rfl 4 (by decide) k_K_27 rfl d_K_sumOfWeights_14 ?_
      refine z_iload_n S d_K_sumOfWeights_17 2 rfl ?_
      refine z_lald (x := ((we i : Nat) : Int)) S hK 1 1 rfl rfl i rfl (by omega) (by decide) rfl d_K_sumOfWeights_18 ?_
      refine z_ladd S d_K_sumOfWeights_19 ?_
      refine z_topl (fun x2 ex2 => ?_)
      refine z_lstore_n (lv' := [(1, .long (zL x2)), (0, .ref k), (3, .int (zI (i : Int)))]) S d_K_sumOfWeights_20 rfl (by decide) rfl ?_
      refine z_iinc (y := ((i + 1 : Nat) : Int)) (lv' := [(3, .int (zI ((i + 1 : Nat) : Int))), (1, .long (zL x2)), (0, .ref k)]) S d_K_sumOfWeights_21 2 rfl (by omega) (by decide) rfl ?_
      have hs1 : smW we (i + 1) = smW we i + we i := rfl
      refine z_goto (tgt := 4) S d_K_sumOfWeights_24 (by decide) ?_
      refine z_lv (lv' := [(0, .ref k), (1, .long (zL x2)), (3, .int (zI ((i + 1 : Nat) : Int)))]) [2, 1, 0] rfl ?_
      refine z_lq (lv' := [(0, .ref k), (1, .long (zL ((smW we (i + 1) : Nat) : Int))), (3, .int (zI ((i + 1 : Nat) : Int)))]) (congrArg (fun zzz : Int => ([(0, .ref k), (1, .long (zL zzz)), (3, .int (zI ((i + 1 : Nat) : Int)))] : List (Nat × Value))) (show (x2 : Int) = ((smW we (i + 1) : Nat) : Int) by omega)) ?_
      exact ih4 (i + 1) (show ((i + 1) ≤ nw) from by omega) (show nw - (i + 1) < nw - i from by omega)
set_option maxHeartbeats 4000000 in
set_option maxRecDepth 100000 in
theorem s_K_getsOneMore (l : Launch) (dC : Nat → ClassId) (dI : Nat → Nat → Nat) (cI cL : ClassId) (qT : Nat) (k : Nat) (ka : Nat) (kz : Nat) (ns : Nat) (kw : Nat) (nw : Nat) (j : Nat) (kb : Nat) (a : Nat) (b : Nat) (d : Nat) (g : Nat) (h : Nat) (we : Nat → Nat) (wh : Nat) (su : Nat) (kx : Nat) (hnw : nw ≤ 20) (hW : ∀ i, i < nw → we i ≤ 1000000000) (hwh : wh ≤ 1000000000) (hsu : 0 < su ∧ su ≤ 20000000000) (hk : kx < nw) (hws : ∀ i, i < nw → we i ≤ su) : Ct l y_K_getsOneMore (Cond.code y_K_getsOneMore c_K_getsOneMore 16 (some .boolean) :: zB) { frames := 0, cells := 0, slots := 0, locals := 0 } (dC, dI) zcl [(cI, .int), (cL, .long)] (zG cI cL qT) [.ref k, .long (zL (wh : Int)), .long (zL (su : Int)), .int (zI (kx : Int))] [oK k h ka kz (ns : Int) kw (nw : Int) j kb a b d g, aL cL kw 20 (wA we)] (fun rv wv => rv = .int (zI (b2 (((bfW we wh su (wh * we kx % su) kx nw : Nat) : Int) < lfW we wh su nw))) ∧ wv = [oK k h ka kz (ns : Int) kw (nw : Int) j kb a b d g, aL cL kw 20 (wA we)]) 0 0 := by
  refine Cm.ofZ (cc := c_K_getsOneMore) (maxL := 16) (ret := (some .boolean)) (by decide) rfl (Nat.le_of_ble_eq_true rfl) rfl ?_
  intro p e s m below meth c A S hr hlo hnm hK hg hA hAe
  have hGok := zG_ok cI cL qT
  show ZZ _ _ _ _ _ _ _ _ _ _ _ _ _ _ _ _ _ _ 0 [(0, .ref k), (1, .long (zL (wh : Int))), (3, .long (zL (su : Int))), (5, .int (zI (kx : Int)))] [] [oK k h ka kz (ns : Int) kw (nw : Int) j kb a b d g, aL cL kw 20 (wA we)]
  have hwk := hW kx hk
  have hpk := w18 hwh hwk
  have hmk := Nat.mod_lt (wh * we kx) hsu.1
  have hb0 : bfW we wh su (wh * we kx % su) kx 0 = 0 := rfl
  have hl0 : lfW we wh su 0 = (wh : Int) := rfl
  have hn0 : (0 : Int) ≤ ((wh * we kx : Nat) : Int) := Int.natCast_nonneg _
  refine z_lload_n S d_K_getsOneMore_0 1 rfl ?_
  refine z_aload_n S d_K_getsOneMore_1 0 rfl ?_
  refine z_get S hK la_K 0 rfl rfl 4 (by decide) k_K_27 rfl d_K_getsOneMore_2 ?_
  refine z_iload S d_K_getsOneMore_5 3 rfl ?_
  refine z_lald (x := ((we kx : Nat) : Int)) S hK 1 1 rfl rfl kx rfl (by omega) (by decide) rfl d_K_getsOneMore_7 ?_
  refine z_lmul S d_K_getsOneMore_8 ?_
  refine z_tol (a := ((wh * we kx : Nat) : Int)) (zL_c (rfl)) ?_
  refine z_lload_n S d_K_getsOneMore_9 2 rfl ?_
  refine z_lrem S d_K_getsOneMore_10 ⟨by omega, by omega⟩ (by omega) ?_
  refine z_tol (a := ((wh * we kx % su : Nat) : Int)) (zL_c (rfl)) ?_
  refine z_topl (fun ow how => ?_)
  refine z_lstore (lv' := [(6, .long (zL ow)), (0, .ref k), (1, .long (zL (wh : Int))), (3, .long (zL (su : Int))), (5, .int (zI (kx : Int)))]) S d_K_getsOneMore_11 (by decide) rfl ?_
  refine z_lload_n S d_K_getsOneMore_13 2 rfl ?_
  refine z_lstore (lv' := [(8, .long (zL (wh : Int))), (6, .long (zL ow)), (0, .ref k), (1, .long (zL (wh : Int))), (3, .long (zL (su : Int))), (5, .int (zI (kx : Int)))]) S d_K_getsOneMore_14 (by decide) rfl ?_
  refine z_iconst S d_K_getsOneMore_16 ?_
  refine z_istore (lv' := [(10, .int (zI 0)), (8, .long (zL (wh : Int))), (6, .long (zL ow)), (0, .ref k), (1, .long (zL (wh : Int))), (3, .long (zL (su : Int))), (5, .int (zI (kx : Int)))]) S d_K_getsOneMore_17 (by decide) rfl ?_
  refine z_iconst S d_K_getsOneMore_19 ?_
  refine z_istore (lv' := [(11, .int (zI 0)), (10, .int (zI 0)), (8, .long (zL (wh : Int))), (6, .long (zL ow)), (0, .ref k), (1, .long (zL (wh : Int))), (3, .long (zL (su : Int))), (5, .int (zI (kx : Int)))]) S d_K_getsOneMore_20 (by decide) rfl ?_
  refine z_lv (lv' := [(0, .ref k), (1, .long (zL (wh : Int))), (3, .long (zL (su : Int))), (5, .int (zI (kx : Int))), (6, .long (zL ow)), (8, .long (zL (wh : Int))), (10, .int (zI 0)), (11, .int (zI 0))]) [4, 5, 6, 7, 3, 2, 1, 0] rfl ?_
  refine z_lq (lv' := [(0, .ref k), (1, .long (zL (wh : Int))), (3, .long (zL (su : Int))), (5, .int (zI (kx : Int))), (6, .long (zL ow)), (8, .long (zL (lfW we wh su 0))), (10, .int (zI ((bfW we wh su (wh * we kx % su) kx 0 : Nat) : Int))), (11, .int (zI ((0 : Nat) : Int)))]) (Eq.trans (Eq.trans ((congrArg (fun zzz : Int => ([(0, .ref k), (1, .long (zL (wh : Int))), (3, .long (zL (su : Int))), (5, .int (zI (kx : Int))), (6, .long (zL ow)), (8, .long (zL zzz)), (10, .int (zI 0)), (11, .int (zI 0))] : List (Nat × Value))) (show ((wh : Int) : Int) = lfW we wh su 0 by omega))) (congrArg (fun zzz : Int => ([(0, .ref k), (1, .long (zL (wh : Int))), (3, .long (zL (su : Int))), (5, .int (zI (kx : Int))), (6, .long (zL ow)), (8, .long (zL (lfW we wh su 0))), (10, .int (zI zzz)), (11, .int (zI 0))] : List (Nat × Value))) (show (0 : Int) = ((bfW we wh su (wh * we kx % su) kx 0 : Nat) : Int) by omega))) (congrArg (fun zzz : Int => ([(0, .ref k), (1, .long (zL (wh : Int))), (3, .long (zL (su : Int))), (5, .int (zI (kx : Int))), (6, .long (zL ow)), (8, .long (zL (lfW we wh su 0))), (10, .int (zI ((bfW we wh su (wh * we kx % su) kx 0 : Nat) : Int))), (11, .int (zI zzz))] : List (Nat × Value))) (show (0 : Int) = ((0 : Nat) : Int) by omega))) ?_
  refine z_loop (I := fun (i : Nat) => (i ≤ nw)) (μ := fun (i : Nat) => nw - i) (LV := fun (i : Nat) => [(0, .ref k), (1, .long (zL (wh : Int))), (3, .long (zL (su : Int))), (5, .int (zI (kx : Int))), (6, .long (zL ow)), (8, .long (zL (lfW we wh su i))), (10, .int (zI ((bfW we wh su (wh * we kx % su) kx i : Nat) : Int))), (11, .int (zI (i : Int)))]) (WS := fun (i : Nat) => [oK k h ka kz (ns : Int) kw (nw : Int) j kb a b d g, aL cL kw 20 (wA we)]) (a := 0) ?_ ?_
  · exact (show (0 ≤ nw) from by omega)
  · intro i hI ih22
    have hi : i ≤ nw := hI
    show ZZ _ _ _ _ _ _ _ _ _ _ _ _ _ _ _ _ _ _ 22 [(0, .ref k), (1, .long (zL (wh : Int))), (3, .long (zL (su : Int))), (5, .int (zI (kx : Int))), (6, .long (zL ow)), (8, .long (zL (lfW we wh su i))), (10, .int (zI ((bfW we wh su (wh * we kx % su) kx i : Nat) : Int))), (11, .int (zI (i : Int)))] [] [oK k h ka kz (ns : Int) kw (nw : Int) j kb a b d g, aL cL kw 20 (wA we)]
    refine z_iload S d_K_getsOneMore_22 7 rfl ?_
    refine z_aload_n S d_K_getsOneMore_24 0 rfl ?_
    refine z_get S hK la_K 0 rfl rfl 5 (by decide) k_K_31 rfl d_K_getsOneMore_25 ?_
    refine z_icmp_ge (tgt := 89) S d_K_getsOneMore_28 (by decide) (by omega) (by omega) (fun c1 => ?_) (fun c1 => ?_)
    · skip
      have ei : i = nw := by omega
      have hbl := bfW_le (f := we) (wh := wh) (su := su) (ow := wh * we kx % su) (kx := kx) i
      have hlr := lfW_r (wh := wh) hsu.1 hws i (by omega)
      have hm20 := Nat.mul_le_mul (show i ≤ 20 by omega) hwh
      refine z_iload S d_K_getsOneMore_89 6 rfl ?_
      refine z_i2l S d_K_getsOneMore_91 (by omega) ?_
      refine z_lload S d_K_getsOneMore_92 5 rfl ?_
      refine z_lcmp_ge (tgt := 102) S d_K_getsOneMore_94 d_K_getsOneMore_95 (by decide) (by omega) (by omega) (fun c2 => ?_) (fun c2 => ?_)
      · skip
        refine z_iconst S d_K_getsOneMore_102 ?_
        exact z_zret (w := [oK k h ka kz (ns : Int) kw (nw : Int) j kb a b d g, aL cL kw 20 (wA we)]) S hr hlo hAe (by first | exact Or.inl rfl | exact Or.inr rfl) d_K_getsOneMore_103 [0, 1] (by decide) rfl rfl ⟨Nat.le_refl _, Nat.le_refl _⟩ (⟨by rw [b2_f (by rw [← ei]; omega)], rfl⟩)
      · skip
        refine z_iconst S d_K_getsOneMore_98 ?_
        refine z_goto (tgt := 103) S d_K_getsOneMore_99 (by decide) ?_
        exact z_zret (w := [oK k h ka kz (ns : Int) kw (nw : Int) j kb a b d g, aL cL kw 20 (wA we)]) S hr hlo hAe (by first | exact Or.inl rfl | exact Or.inr rfl) d_K_getsOneMore_103 [0, 1] (by decide) rfl rfl ⟨Nat.le_refl _, Nat.le_refl _⟩ (⟨by rw [b2_t (P := _) (by rw [← ei]; omega)], rfl⟩)
    · skip
      have hwi := hW i (by omega)
      have hpi := w18 hwh hwi
      have hmi := Nat.mod_lt (wh * we i) hsu.1
      have hn1 : (0 : Int) ≤ ((wh * we i : Nat) : Int) := Int.natCast_nonneg _
      refine z_lload_n S d_K_getsOneMore_31 1 rfl ?_
      refine z_aload_n S d_K_getsOneMore_32 0 rfl ?_
      refine z_get S hK la_K 0 rfl rfl 4 (by decide) k_K_27 rfl d_K_getsOneMore_33 ?_
      refine z_iload S d_K_getsOneMore_36 7 rfl ?_
      refine z_lald (x := ((we i : Nat) : Int)) S hK 1 1 rfl rfl i rfl (by omega) (by decide) rfl d_K_getsOneMore_38 ?_
      refine z_lmul S d_K_getsOneMore_39 ?_
      refine z_tol (a := ((wh * we i : Nat) : Int)) (zL_c (rfl)) ?_
      refine z_lstore (lv' := [(12, .long (zL ((wh * we i : Nat) : Int))), (0, .ref k), (1, .long (zL (wh : Int))), (3, .long (zL (su : Int))), (5, .int (zI (kx : Int))), (6, .long (zL ow)), (8, .long (zL (lfW we wh su i))), (10, .int (zI ((bfW we wh su (wh * we kx % su) kx i : Nat) : Int))), (11, .int (zI (i : Int)))]) S d_K_getsOneMore_40 (by decide) rfl ?_
      refine z_lload S d_K_getsOneMore_42 0 rfl ?_
      refine z_lload_n S d_K_getsOneMore_44 3 rfl ?_
      refine z_lrem S d_K_getsOneMore_45 ⟨by omega, by omega⟩ (by omega) ?_
      refine z_tol (a := ((wh * we i % su : Nat) : Int)) (zL_c (rfl)) ?_
      refine z_lstore (lv' := [(14, .long (zL ((wh * we i % su : Nat) : Int))), (12, .long (zL ((wh * we i : Nat) : Int))), (0, .ref k), (1, .long (zL (wh : Int))), (3, .long (zL (su : Int))), (5, .int (zI (kx : Int))), (6, .long (zL ow)), (8, .long (zL (lfW we wh su i))), (10, .int (zI ((bfW we wh su (wh * we kx % su) kx i : Nat) : Int))), (11, .int (zI (i : Int)))]) S d_K_getsOneMore_46 (by decide) rfl ?_
      refine z_lload S d_K_getsOneMore_48 7 rfl ?_
      refine z_lload S d_K_getsOneMore_50 1 rfl ?_
      refine z_lload_n S d_K_getsOneMore_52 4 rfl ?_
      refine z_ldiv S d_K_getsOneMore_53 ⟨by omega, by omega⟩ (by omega) ?_
      refine z_tol (a := ((wh * we i / su : Nat) : Int)) (zL_c (rfl)) ?_
      refine z_lsub S d_K_getsOneMore_54 ?_
      refine z_tol (a := lfW we wh su (i + 1)) (zL_c (rfl)) ?_
      refine z_topl (fun x3 ex3 => ?_)
      refine z_lstore (lv' := [(8, .long (zL x3)), (14, .long (zL ((wh * we i % su : Nat) : Int))), (12, .long (zL ((wh * we i : Nat) : Int))), (0, .ref k), (1, .long (zL (wh : Int))), (3, .long (zL (su : Int))), (5, .int (zI (kx : Int))), (6, .long (zL ow)), (10, .int (zI ((bfW we wh su (wh * we kx % su) kx i : Nat) : Int))), (11, .int (zI (i : Int)))]) S d_K_getsOneMore_55 (by decide) rfl ?_
      refine z_lload S d_K_getsOneMore_57 1 rfl ?_
      refine z_lload S d_K_getsOneMore_59 7 rfl ?_
      refine z_lcmp_gt (tgt := 80) S d_K_getsOneMore_61 d_K_getsOneMore_62 (by decide) (by omega) (by omega) (fun c4 => ?_) (fun c4 => ?_)
      · skip
        refine z_iinc (y := ((bfW we wh su (wh * we kx % su) kx i : Nat) : Int) + 1) (lv' := [(10, .int (zI (((bfW we wh su (wh * we kx % su) kx i : Nat) : Int) + 1))), (8, .long (zL x3)), (14, .long (zL ((wh * we i % su : Nat) : Int))), (12, .long (zL ((wh * we i : Nat) : Int))), (0, .ref k), (1, .long (zL (wh : Int))), (3, .long (zL (su : Int))), (5, .int (zI (kx : Int))), (6, .long (zL ow)), (11, .int (zI (i : Int)))]) S d_K_getsOneMore_80 8 rfl (by omega) (by decide) rfl ?_
        refine z_iinc (y := ((i + 1 : Nat) : Int)) (lv' := [(11, .int (zI ((i + 1 : Nat) : Int))), (10, .int (zI (((bfW we wh su (wh * we kx % su) kx i : Nat) : Int) + 1))), (8, .long (zL x3)), (14, .long (zL ((wh * we i % su : Nat) : Int))), (12, .long (zL ((wh * we i : Nat) : Int))), (0, .ref k), (1, .long (zL (wh : Int))), (3, .long (zL (su : Int))), (5, .int (zI (kx : Int))), (6, .long (zL ow))]) S d_K_getsOneMore_83 9 rfl (by omega) (by decide) rfl ?_
        have hb1 : bfW we wh su (wh * we kx % su) kx (i + 1) = bfW we wh su (wh * we kx % su) kx i + 1 := by show bfW we wh su (wh * we kx % su) kx i + (if wh * we kx % su < wh * we i % su ∨ (wh * we i % su = wh * we kx % su ∧ i < kx) then 1 else 0) = _; rw [if_pos (by omega)]
        refine z_goto (tgt := 22) S d_K_getsOneMore_86 (by decide) ?_
        refine z_lv (lv' := [(0, .ref k), (1, .long (zL (wh : Int))), (3, .long (zL (su : Int))), (5, .int (zI (kx : Int))), (6, .long (zL ow)), (8, .long (zL x3)), (10, .int (zI (((bfW we wh su (wh * we kx % su) kx i : Nat) : Int) + 1))), (11, .int (zI ((i + 1 : Nat) : Int)))]) [5, 6, 7, 8, 9, 2, 1, 0] rfl ?_
        refine z_lq (lv' := [(0, .ref k), (1, .long (zL (wh : Int))), (3, .long (zL (su : Int))), (5, .int (zI (kx : Int))), (6, .long (zL ow)), (8, .long (zL (lfW we wh su (i + 1)))), (10, .int (zI ((bfW we wh su (wh * we kx % su) kx (i + 1) : Nat) : Int))), (11, .int (zI ((i + 1 : Nat) : Int)))]) (Eq.trans ((congrArg (fun zzz : Int => ([(0, .ref k), (1, .long (zL (wh : Int))), (3, .long (zL (su : Int))), (5, .int (zI (kx : Int))), (6, .long (zL ow)), (8, .long (zL zzz)), (10, .int (zI (((bfW we wh su (wh * we kx % su) kx i : Nat) : Int) + 1))), (11, .int (zI ((i + 1 : Nat) : Int)))] : List (Nat × Value))) (show (x3 : Int) = lfW we wh su (i + 1) by omega))) (congrArg (fun zzz : Int => ([(0, .ref k), (1, .long (zL (wh : Int))), (3, .long (zL (su : Int))), (5, .int (zI (kx : Int))), (6, .long (zL ow)), (8, .long (zL (lfW we wh su (i + 1)))), (10, .int (zI zzz)), (11, .int (zI ((i + 1 : Nat) : Int)))] : List (Nat × Value))) (show (((bfW we wh su (wh * we kx % su) kx i : Nat) : Int) + 1 : Int) = ((bfW we wh su (wh * we kx % su) kx (i + 1) : Nat) : Int) by omega))) ?_
        exact ih22 (i + 1) (show ((i + 1) ≤ nw) from by omega) (show nw - (i + 1) < nw - i from by omega)
      · skip
        refine z_lload S d_K_getsOneMore_65 1 rfl ?_
        refine z_lload S d_K_getsOneMore_67 7 rfl ?_
        refine z_lcmp_ne (tgt := 83) S d_K_getsOneMore_69 d_K_getsOneMore_70 (by decide) (by omega) (by omega) (fun c5 => ?_) (fun c5 => ?_)
        · skip
          refine z_iinc (y := ((i + 1 : Nat) : Int)) (lv' := [(11, .int (zI ((i + 1 : Nat) : Int))), (8, .long (zL x3)), (14, .long (zL ((wh * we i % su : Nat) : Int))), (12, .long (zL ((wh * we i : Nat) : Int))), (0, .ref k), (1, .long (zL (wh : Int))), (3, .long (zL (su : Int))), (5, .int (zI (kx : Int))), (6, .long (zL ow)), (10, .int (zI ((bfW we wh su (wh * we kx % su) kx i : Nat) : Int)))]) S d_K_getsOneMore_83 9 rfl (by omega) (by decide) rfl ?_
          have hb1 : bfW we wh su (wh * we kx % su) kx (i + 1) = bfW we wh su (wh * we kx % su) kx i := by show bfW we wh su (wh * we kx % su) kx i + (if wh * we kx % su < wh * we i % su ∨ (wh * we i % su = wh * we kx % su ∧ i < kx) then 1 else 0) = _; rw [if_neg (by omega), Nat.add_zero]
          refine z_goto (tgt := 22) S d_K_getsOneMore_86 (by decide) ?_
          refine z_lv (lv' := [(0, .ref k), (1, .long (zL (wh : Int))), (3, .long (zL (su : Int))), (5, .int (zI (kx : Int))), (6, .long (zL ow)), (8, .long (zL x3)), (10, .int (zI ((bfW we wh su (wh * we kx % su) kx i : Nat) : Int))), (11, .int (zI ((i + 1 : Nat) : Int)))]) [4, 5, 6, 7, 8, 1, 9, 0] rfl ?_
          refine z_lq (lv' := [(0, .ref k), (1, .long (zL (wh : Int))), (3, .long (zL (su : Int))), (5, .int (zI (kx : Int))), (6, .long (zL ow)), (8, .long (zL (lfW we wh su (i + 1)))), (10, .int (zI ((bfW we wh su (wh * we kx % su) kx (i + 1) : Nat) : Int))), (11, .int (zI ((i + 1 : Nat) : Int)))]) (Eq.trans ((congrArg (fun zzz : Int => ([(0, .ref k), (1, .long (zL (wh : Int))), (3, .long (zL (su : Int))), (5, .int (zI (kx : Int))), (6, .long (zL ow)), (8, .long (zL zzz)), (10, .int (zI ((bfW we wh su (wh * we kx % su) kx i : Nat) : Int))), (11, .int (zI ((i + 1 : Nat) : Int)))] : List (Nat × Value))) (show (x3 : Int) = lfW we wh su (i + 1) by omega))) (congrArg (fun zzz : Int => ([(0, .ref k), (1, .long (zL (wh : Int))), (3, .long (zL (su : Int))), (5, .int (zI (kx : Int))), (6, .long (zL ow)), (8, .long (zL (lfW we wh su (i + 1)))), (10, .int (zI zzz)), (11, .int (zI ((i + 1 : Nat) : Int)))] : List (Nat × Value))) (show (((bfW we wh su (wh * we kx % su) kx i : Nat) : Int) : Int) = ((bfW we wh su (wh * we kx % su) kx (i + 1) : Nat) : Int) by omega))) ?_
          exact ih22 (i + 1) (show ((i + 1) ≤ nw) from by omega) (show nw - (i + 1) < nw - i from by omega)
        · skip
          refine z_iload S d_K_getsOneMore_73 9 rfl ?_
          refine z_iload S d_K_getsOneMore_75 6 rfl ?_
          refine z_icmp_ge (tgt := 83) S d_K_getsOneMore_77 (by decide) (by omega) (by omega) (fun c6 => ?_) (fun c6 => ?_)
          · skip
            refine z_iinc (y := ((i + 1 : Nat) : Int)) (lv' := [(11, .int (zI ((i + 1 : Nat) : Int))), (8, .long (zL x3)), (14, .long (zL ((wh * we i % su : Nat) : Int))), (12, .long (zL ((wh * we i : Nat) : Int))), (0, .ref k), (1, .long (zL (wh : Int))), (3, .long (zL (su : Int))), (5, .int (zI (kx : Int))), (6, .long (zL ow)), (10, .int (zI ((bfW we wh su (wh * we kx % su) kx i : Nat) : Int)))]) S d_K_getsOneMore_83 9 rfl (by omega) (by decide) rfl ?_
            have hb1 : bfW we wh su (wh * we kx % su) kx (i + 1) = bfW we wh su (wh * we kx % su) kx i := by show bfW we wh su (wh * we kx % su) kx i + (if wh * we kx % su < wh * we i % su ∨ (wh * we i % su = wh * we kx % su ∧ i < kx) then 1 else 0) = _; rw [if_neg (by omega), Nat.add_zero]
            refine z_goto (tgt := 22) S d_K_getsOneMore_86 (by decide) ?_
            refine z_lv (lv' := [(0, .ref k), (1, .long (zL (wh : Int))), (3, .long (zL (su : Int))), (5, .int (zI (kx : Int))), (6, .long (zL ow)), (8, .long (zL x3)), (10, .int (zI ((bfW we wh su (wh * we kx % su) kx i : Nat) : Int))), (11, .int (zI ((i + 1 : Nat) : Int)))]) [4, 5, 6, 7, 8, 1, 9, 0] rfl ?_
            refine z_lq (lv' := [(0, .ref k), (1, .long (zL (wh : Int))), (3, .long (zL (su : Int))), (5, .int (zI (kx : Int))), (6, .long (zL ow)), (8, .long (zL (lfW we wh su (i + 1)))), (10, .int (zI ((bfW we wh su (wh * we kx % su) kx (i + 1) : Nat) : Int))), (11, .int (zI ((i + 1 : Nat) : Int)))]) (Eq.trans ((congrArg (fun zzz : Int => ([(0, .ref k), (1, .long (zL (wh : Int))), (3, .long (zL (su : Int))), (5, .int (zI (kx : Int))), (6, .long (zL ow)), (8, .long (zL zzz)), (10, .int (zI ((bfW we wh su (wh * we kx % su) kx i : Nat) : Int))), (11, .int (zI ((i + 1 : Nat) : Int)))] : List (Nat × Value))) (show (x3 : Int) = lfW we wh su (i + 1) by omega))) (congrArg (fun zzz : Int => ([(0, .ref k), (1, .long (zL (wh : Int))), (3, .long (zL (su : Int))), (5, .int (zI (kx : Int))), (6, .long (zL ow)), (8, .long (zL (lfW we wh su (i + 1)))), (10, .int (zI zzz)), (11, .int (zI ((i + 1 : Nat) : Int)))] : List (Nat × Value))) (show (((bfW we wh su (wh * we kx % su) kx i : Nat) : Int) : Int) = ((bfW we wh su (wh * we kx % su) kx (i + 1) : Nat) : Int) by omega))) ?_
            exact ih22 (i + 1) (show ((i + 1) ≤ nw) from by omega) (show nw - (i + 1) < nw - i from by omega)
          · skip
            refine z_iinc (y := ((bfW we wh su (wh * we kx % su) kx i : Nat) : Int) + 1) (lv' := [(10, .int (zI (((bfW we wh su (wh * we kx % su) kx i : Nat) : Int) + 1))), (8, .long (zL x3)), (14, .long (zL ((wh * we i % su : Nat) : Int))), (12, .long (zL ((wh * we i : Nat) : Int))), (0, .ref k), (1, .long (zL (wh : Int))), (3, .long (zL (su : Int))), (5, .int (zI (kx : Int))), (6, .long (zL ow)), (11, .int (zI (i : Int)))]) S d_K_getsOneMore_80 8 rfl (by omega) (by decide) rfl ?_
            refine z_iinc (y := ((i + 1 : Nat) : Int)) (lv' := [(11, .int (zI ((i + 1 : Nat) : Int))), (10, .int (zI (((bfW we wh su (wh * we kx % su) kx i : Nat) : Int) + 1))), (8, .long (zL x3)), (14, .long (zL ((wh * we i % su : Nat) : Int))), (12, .long (zL ((wh * we i : Nat) : Int))), (0, .ref k), (1, .long (zL (wh : Int))), (3, .long (zL (su : Int))), (5, .int (zI (kx : Int))), (6, .long (zL ow))]) S d_K_getsOneMore_83 9 rfl (by omega) (by decide) rfl ?_
            have hb1 : bfW we wh su (wh * we kx % su) kx (i + 1) = bfW we wh su (wh * we kx % su) kx i + 1 := by show bfW we wh su (wh * we kx % su) kx i + (if wh * we kx % su < wh * we i % su ∨ (wh * we i % su = wh * we kx % su ∧ i < kx) then 1 else 0) = _; rw [if_pos (by omega)]
            refine z_goto (tgt := 22) S d_K_getsOneMore_86 (by decide) ?_
            refine z_lv (lv' := [(0, .ref k), (1, .long (zL (wh : Int))), (3, .long (zL (su : Int))), (5, .int (zI (kx : Int))), (6, .long (zL ow)), (8, .long (zL x3)), (10, .int (zI (((bfW we wh su (wh * we kx % su) kx i : Nat) : Int) + 1))), (11, .int (zI ((i + 1 : Nat) : Int)))]) [5, 6, 7, 8, 9, 2, 1, 0] rfl ?_
            refine z_lq (lv' := [(0, .ref k), (1, .long (zL (wh : Int))), (3, .long (zL (su : Int))), (5, .int (zI (kx : Int))), (6, .long (zL ow)), (8, .long (zL (lfW we wh su (i + 1)))), (10, .int (zI ((bfW we wh su (wh * we kx % su) kx (i + 1) : Nat) : Int))), (11, .int (zI ((i + 1 : Nat) : Int)))]) (Eq.trans ((congrArg (fun zzz : Int => ([(0, .ref k), (1, .long (zL (wh : Int))), (3, .long (zL (su : Int))), (5, .int (zI (kx : Int))), (6, .long (zL ow)), (8, .long (zL zzz)), (10, .int (zI (((bfW we wh su (wh * we kx % su) kx i : Nat) : Int) + 1))), (11, .int (zI ((i + 1 : Nat) : Int)))] : List (Nat × Value))) (show (x3 : Int) = lfW we wh su (i + 1) by omega))) (congrArg (fun zzz : Int => ([(0, .ref k), (1, .long (zL (wh : Int))), (3, .long (zL (su : Int))), (5, .int (zI (kx : Int))), (6, .long (zL ow)), (8, .long (zL (lfW we wh su (i + 1)))), (10, .int (zI zzz)), (11, .int (zI ((i + 1 : Nat) : Int)))] : List (Nat × Value))) (show (((bfW we wh su (wh * we kx % su) kx i : Nat) : Int) + 1 : Int) = ((bfW we wh su (wh * we kx % su) kx (i + 1) : Nat) : Int) by omega))) ?_
            exact ih22 (i + 1) (show ((i + 1) ≤ nw) from by omega) (show nw - (i + 1) < nw - i from by omega)
set_option maxHeartbeats 4000000 in
set_option maxRecDepth 100000 in
theorem s_K_share (l : Launch) (dC : Nat → ClassId) (dI : Nat → Nat → Nat) (cI cL : ClassId) (qT : Nat) (k : Nat) (ka : Nat) (kz : Nat) (ns : Nat) (kw : Nat) (nw : Nat) (j : Nat) (kb : Nat) (a : Nat) (b : Nat) (d : Nat) (g : Nat) (h : Nat) (we : Nat → Nat) (wh : Nat) (kx : Nat) (hnw : nw ≤ 20) (hW : ∀ i, i < nw → we i ≤ 1000000000) (hwh : wh ≤ 1000000000) (hk : kx < nw) (hs0 : 0 < smW we nw) : Ct l y_K_share (Cond.code y_K_share c_K_share 8 (some .long) :: zB) { frames := 6, cells := 0, slots := 0, locals := 110 } (dC, dI) zcl [(cI, .int), (cL, .long)] (zG cI cL qT) [.ref k, .long (zL (wh : Int)), .int (zI (kx : Int))] [oK k h ka kz (ns : Int) kw (nw : Int) j kb a b d g, aL cL kw 20 (wA we)] (fun rv wv => rv = .long (zL (((wh * we kx / smW we nw : Nat) : Int) + b2 (((bfW we wh (smW we nw) (wh * we kx % smW we nw) kx nw : Nat) : Int) < lfW we wh (smW we nw) nw))) ∧ wv = [oK k h ka kz (ns : Int) kw (nw : Int) j kb a b d g, aL cL kw 20 (wA we)]) 0 0 := by
  refine Cm.ofZ (cc := c_K_share) (maxL := 8) (ret := (some .long)) (by decide) rfl (Nat.le_of_ble_eq_true rfl) rfl ?_
  intro p e s m below meth c A S hr hlo hnm hK hg hA hAe
  have hGok := zG_ok cI cL qT
  show ZZ _ _ _ _ _ _ _ _ _ _ _ _ _ _ _ _ _ _ 0 [(0, .ref k), (1, .long (zL (wh : Int))), (3, .int (zI (kx : Int)))] [] [oK k h ka kz (ns : Int) kw (nw : Int) j kb a b d g, aL cL kw 20 (wA we)]
  have hsb := smW_b hW nw (Nat.le_refl _)
  have hwk := hW kx hk
  have hpk := w18 hwh hwk
  have hbr := b2_r (((bfW we wh (smW we nw) (wh * we kx % smW we nw) kx nw : Nat) : Int) < lfW we wh (smW we nw) nw)
  refine z_iload_n S d_K_share_0 2 rfl ?_
  refine z_if_lt (tgt := 12) S d_K_share_1 (by decide) (by omega) (fun c1 => ?_) (fun c1 => ?_)
  · skip
    omega
  · skip
    refine z_iload_n S d_K_share_4 2 rfl ?_
    refine z_aload_n S d_K_share_5 0 rfl ?_
    refine z_get S hK la_K 0 rfl rfl 5 (by decide) k_K_31 rfl d_K_share_6 ?_
    refine z_icmp_lt (tgt := 22) S d_K_share_9 (by decide) (by omega) (by omega) (fun c2 => ?_) (fun c2 => ?_)
    · skip
      refine z_lload_n S d_K_share_22 1 rfl ?_
      refine z_lconst (z := 0) S d_K_share_23 rfl ?_
      refine z_lcmp_lt (tgt := 36) S d_K_share_24 d_K_share_25 (by decide) (by omega) (by omega) (fun c3 => ?_) (fun c3 => ?_)
      · skip
        omega
      · skip
        refine z_lload_n S d_K_share_28 1 rfl ?_
        refine z_ldc2 (v := 1000000000) (z := 1000000000) S k_K_115 d_K_share_29 (by decide) ?_
        refine z_lcmp_le (tgt := 46) S d_K_share_32 d_K_share_33 (by decide) (by omega) (by omega) (fun c4 => ?_) (fun c4 => ?_)
        · skip
          refine z_aload_n S d_K_share_46 0 rfl ?_
          refine z_callVa (As := []) (st := []) (wc := [oK k h ka kz (ns : Int) kw (nw : Int) j kb a b d g, aL cL kw 20 (wA we)]) (wr := []) S hGok hK hg hA (s_K_sumOfWeights l dC dI cI cL qT k ka kz ns kw nw j kb a b d g h we (by omega)) (zcwV S (List.mem_cons_of_mem _ k_K_163) mV_K_sumOfWeights k_K_163 hd_K_sumOfWeights rfl rfl ⟨Nat.le_of_ble_eq_true rfl, Nat.le_of_ble_eq_true rfl⟩) rfl (Nat.le_of_ble_eq_true rfl) d_K_share_47 ⟨Nat.le_of_ble_eq_true rfl, Nat.le_of_ble_eq_true rfl⟩ rfl [0, 1] [] 0 rfl rfl rfl (by decide) rfl rfl rfl (by decide) (by decide) (fun x w hp => ?_)
          obtain ⟨rfl, rfl⟩ := hp
          show ZZ _ _ _ _ _ _ _ _ _ _ _ _ _ _ _ _ _ _ 50 [(0, .ref k), (1, .long (zL (wh : Int))), (3, .int (zI (kx : Int)))] [.long (zL ((smW we nw : Nat) : Int))] [oK k h ka kz (ns : Int) kw (nw : Int) j kb a b d g, aL cL kw 20 (wA we)]
          refine z_lstore (lv' := [(4, .long (zL ((smW we nw : Nat) : Int))), (0, .ref k), (1, .long (zL (wh : Int))), (3, .int (zI (kx : Int)))]) S d_K_share_50 (by decide) rfl ?_
          refine z_lload S d_K_share_52 0 rfl ?_
          refine z_lconst (z := 0) S d_K_share_54 rfl ?_
          refine z_lcmp_ne (tgt := 69) S d_K_share_55 d_K_share_56 (by decide) (by omega) (by omega) (fun c5 => ?_) (fun c5 => ?_)
          · skip
            refine z_lload_n S d_K_share_69 2 rfl ?_
            refine z_aload_n S d_K_share_70 1 rfl ?_
            refine z_get S hK la_K 0 rfl rfl 4 (by decide) k_K_27 rfl d_K_share_71 ?_
            refine z_iload_n S d_K_share_74 3 rfl ?_
            refine z_lald (x := ((we kx : Nat) : Int)) S hK 1 1 rfl rfl kx rfl (by omega) (by decide) rfl d_K_share_75 ?_
            refine z_lmul S d_K_share_76 ?_
            refine z_tol (a := ((wh * we kx : Nat) : Int)) (zL_c (rfl)) ?_
            refine z_lstore (lv' := [(6, .long (zL ((wh * we kx : Nat) : Int))), (4, .long (zL ((smW we nw : Nat) : Int))), (0, .ref k), (1, .long (zL (wh : Int))), (3, .int (zI (kx : Int)))]) S d_K_share_77 (by decide) rfl ?_
            refine z_lload S d_K_share_79 0 rfl ?_
            refine z_lload S d_K_share_81 1 rfl ?_
            refine z_ldiv S d_K_share_83 ⟨Int.natCast_nonneg _, by omega⟩ (by omega) ?_
            refine z_tol (a := ((wh * we kx / smW we nw : Nat) : Int)) (zL_c (rfl)) ?_
            refine z_aload_n S d_K_share_84 2 rfl ?_
            refine z_lload_n S d_K_share_85 3 rfl ?_
            refine z_lload S d_K_share_86 1 rfl ?_
            refine z_iload_n S d_K_share_88 4 rfl ?_
            refine z_callVa (As := [.long (zL (wh : Int)), .long (zL ((smW we nw : Nat) : Int)), .int (zI (kx : Int))]) (st := [.long (zL ((wh * we kx / smW we nw : Nat) : Int))]) (wc := [oK k h ka kz (ns : Int) kw (nw : Int) j kb a b d g, aL cL kw 20 (wA we)]) (wr := []) S hGok hK hg hA (s_K_getsOneMore l dC dI cI cL qT k ka kz ns kw nw j kb a b d g h we wh (smW we nw) kx (by omega) hW (by omega) (by omega) (by omega) (fun i hi => smW_g hi)) (zcwV S (List.mem_cons_of_mem _ k_K_169) mV_K_getsOneMore k_K_169 hd_K_getsOneMore rfl rfl ⟨Nat.le_of_ble_eq_true rfl, Nat.le_of_ble_eq_true rfl⟩) rfl (Nat.le_of_ble_eq_true rfl) d_K_share_89 ⟨Nat.le_of_ble_eq_true rfl, Nat.le_of_ble_eq_true rfl⟩ rfl [0, 1] [] 0 rfl rfl rfl (by decide) rfl rfl rfl (by decide) (by decide) (fun x w hp => ?_)
            obtain ⟨rfl, rfl⟩ := hp
            show ZZ _ _ _ _ _ _ _ _ _ _ _ _ _ _ _ _ _ _ 92 [(6, .long (zL ((wh * we kx : Nat) : Int))), (4, .long (zL ((smW we nw : Nat) : Int))), (0, .ref k), (1, .long (zL (wh : Int))), (3, .int (zI (kx : Int)))] [.int (zI (b2 (((bfW we wh (smW we nw) (wh * we kx % (smW we nw)) kx nw : Nat) : Int) < lfW we wh (smW we nw) nw))), .long (zL ((wh * we kx / smW we nw : Nat) : Int))] [oK k h ka kz (ns : Int) kw (nw : Int) j kb a b d g, aL cL kw 20 (wA we)]
            refine z_if_eq (tgt := 99) S d_K_share_92 (by decide) (by omega) (fun c6 => ?_) (fun c6 => ?_)
            · skip
              refine z_iconst S d_K_share_99 ?_
              refine z_i2l S d_K_share_100 (by omega) ?_
              refine z_ladd S d_K_share_101 ?_
              refine z_tol (a := ((wh * we kx / smW we nw : Nat) : Int) + b2 (((bfW we wh (smW we nw) (wh * we kx % smW we nw) kx nw : Nat) : Int) < lfW we wh (smW we nw) nw)) (zL_c (by omega)) ?_
              exact z_lret (w := [oK k h ka kz (ns : Int) kw (nw : Int) j kb a b d g, aL cL kw 20 (wA we)]) S hr hlo hAe d_K_share_102 [0, 1] (by decide) rfl rfl ⟨Nat.le_refl _, Nat.le_refl _⟩ (⟨rfl, rfl⟩)
            · skip
              refine z_iconst S d_K_share_95 ?_
              refine z_goto (tgt := 100) S d_K_share_96 (by decide) ?_
              refine z_i2l S d_K_share_100 (by omega) ?_
              refine z_ladd S d_K_share_101 ?_
              refine z_tol (a := ((wh * we kx / smW we nw : Nat) : Int) + b2 (((bfW we wh (smW we nw) (wh * we kx % smW we nw) kx nw : Nat) : Int) < lfW we wh (smW we nw) nw)) (zL_c (by omega)) ?_
              exact z_lret (w := [oK k h ka kz (ns : Int) kw (nw : Int) j kb a b d g, aL cL kw 20 (wA we)]) S hr hlo hAe d_K_share_102 [0, 1] (by decide) rfl rfl ⟨Nat.le_refl _, Nat.le_refl _⟩ (⟨rfl, rfl⟩)
          · skip
            omega
        · skip
          omega
    · skip
      omega
set_option maxHeartbeats 4000000 in
set_option maxRecDepth 100000 in
theorem t1_K_share (l : Launch) (dC : Nat → ClassId) (dI : Nat → Nat → Nat) (cI cL : ClassId) (qT : Nat) (hst : l.stackTraces = false) (k : Nat) (ka : Nat) (kz : Nat) (ns : Nat) (kw : Nat) (nw : Nat) (j : Nat) (kb : Nat) (a : Nat) (b : Nat) (d : Nat) (g : Nat) (h : Nat) (wh : Int) (kx : Int) (hnw : nw ≤ 20) (hkr : -2147483648 ≤ kx ∧ kx < 2147483648) (hk : ¬ (0 ≤ kx ∧ kx < (nw : Int))) : Tm l y_K_share (Cond.code y_K_share c_K_share 8 (some .long) :: zB) { frames := 6, cells := 1, slots := 6, locals := 110 } (dC, dI) zcl [(cI, .int), (cL, .long)] (zG cI cL qT) [.ref k, .long (zL wh), .int (zI kx)] [oK k h ka kz (ns : Int) kw (nw : Int) j kb a b d g] "java/lang/IndexOutOfBoundsException" (fun wv => wv = [oK k h ka kz (ns : Int) kw (nw : Int) j kb a b d g]) 1 6 := by
  refine Tm.ofZ (cc := c_K_share) (maxL := 8) (ret := (some .long)) (by decide) rfl (Nat.le_of_ble_eq_true rfl) rfl ?_
  intro p e s m below meth c A S hr hlo hnm hK hg hA hAe htab
  have hGok := zG_ok cI cL qT
  show ZZ _ _ _ _ _ _ _ _ _ _ _ _ _ _ _ _ _ _ 0 [(0, .ref k), (1, .long (zL wh)), (3, .int (zI kx))] [] [oK k h ka kz (ns : Int) kw (nw : Int) j kb a b d g]
  refine z_iload_n S d_K_share_0 2 rfl ?_
  refine z_if_lt (tgt := 12) S d_K_share_1 (by decide) (by omega) (fun c1 => ?_) (fun c1 => ?_)
  · skip
    exact z_throwS (w := [oK k h ka kz (ns : Int) kw (nw : Int) j kb a b d g]) S hst hg hlo hAe htab tw_114 k_K_110 (List.mem_of_getElem? (i := 12) rfl) d_K_share_12 d_K_share_15 d_K_share_16 d_K_share_18 d_K_share_21 (Nat.le_of_ble_eq_true rfl) (Nat.le_of_ble_eq_true rfl) ⟨Nat.le_of_ble_eq_true rfl, Nat.le_of_ble_eq_true rfl⟩ ⟨Nat.le_refl _, Nat.le_refl _⟩ [0] (by decide) rfl (rfl)
  · skip
    refine z_iload_n S d_K_share_4 2 rfl ?_
    refine z_aload_n S d_K_share_5 0 rfl ?_
    refine z_get S hK la_K 0 rfl rfl 5 (by decide) k_K_31 rfl d_K_share_6 ?_
    refine z_icmp_lt (tgt := 22) S d_K_share_9 (by decide) (by omega) (by omega) (fun c2 => ?_) (fun c2 => ?_)
    · skip
      omega
    · skip
      exact z_throwS (w := [oK k h ka kz (ns : Int) kw (nw : Int) j kb a b d g]) S hst hg hlo hAe htab tw_114 k_K_110 (List.mem_of_getElem? (i := 12) rfl) d_K_share_12 d_K_share_15 d_K_share_16 d_K_share_18 d_K_share_21 (Nat.le_of_ble_eq_true rfl) (Nat.le_of_ble_eq_true rfl) ⟨Nat.le_of_ble_eq_true rfl, Nat.le_of_ble_eq_true rfl⟩ ⟨Nat.le_refl _, Nat.le_refl _⟩ [0] (by decide) rfl (rfl)
set_option maxHeartbeats 4000000 in
set_option maxRecDepth 100000 in
theorem t2_K_share (l : Launch) (dC : Nat → ClassId) (dI : Nat → Nat → Nat) (cI cL : ClassId) (qT : Nat) (hst : l.stackTraces = false) (k : Nat) (ka : Nat) (kz : Nat) (ns : Nat) (kw : Nat) (nw : Nat) (j : Nat) (kb : Nat) (a : Nat) (b : Nat) (d : Nat) (g : Nat) (h : Nat) (wh : Int) (kx : Nat) (hnw : nw ≤ 20) (hk : kx < nw) (hwr : -9223372036854775808 ≤ wh ∧ wh < 9223372036854775808) (hwh : ¬ (0 ≤ wh ∧ wh ≤ 1000000000)) : Tm l y_K_share (Cond.code y_K_share c_K_share 8 (some .long) :: zB) { frames := 6, cells := 1, slots := 6, locals := 110 } (dC, dI) zcl [(cI, .int), (cL, .long)] (zG cI cL qT) [.ref k, .long (zL wh), .int (zI (kx : Int))] [oK k h ka kz (ns : Int) kw (nw : Int) j kb a b d g] "java/lang/IllegalArgumentException" (fun wv => wv = [oK k h ka kz (ns : Int) kw (nw : Int) j kb a b d g]) 1 6 := by
  refine Tm.ofZ (cc := c_K_share) (maxL := 8) (ret := (some .long)) (by decide) rfl (Nat.le_of_ble_eq_true rfl) rfl ?_
  intro p e s m below meth c A S hr hlo hnm hK hg hA hAe htab
  have hGok := zG_ok cI cL qT
  show ZZ _ _ _ _ _ _ _ _ _ _ _ _ _ _ _ _ _ _ 0 [(0, .ref k), (1, .long (zL wh)), (3, .int (zI (kx : Int)))] [] [oK k h ka kz (ns : Int) kw (nw : Int) j kb a b d g]
  refine z_iload_n S d_K_share_0 2 rfl ?_
  refine z_if_lt (tgt := 12) S d_K_share_1 (by decide) (by omega) (fun c1 => ?_) (fun c1 => ?_)
  · skip
    omega
  · skip
    refine z_iload_n S d_K_share_4 2 rfl ?_
    refine z_aload_n S d_K_share_5 0 rfl ?_
    refine z_get S hK la_K 0 rfl rfl 5 (by decide) k_K_31 rfl d_K_share_6 ?_
    refine z_icmp_lt (tgt := 22) S d_K_share_9 (by decide) (by omega) (by omega) (fun c2 => ?_) (fun c2 => ?_)
    · skip
      refine z_lload_n S d_K_share_22 1 rfl ?_
      refine z_lconst (z := 0) S d_K_share_23 rfl ?_
      refine z_lcmp_lt (tgt := 36) S d_K_share_24 d_K_share_25 (by decide) (by omega) (by omega) (fun c3 => ?_) (fun c3 => ?_)
      · skip
        exact z_throwS (w := [oK k h ka kz (ns : Int) kw (nw : Int) j kb a b d g]) S hst hg hlo hAe htab tw_121 k_K_117 (List.mem_of_getElem? (i := 13) rfl) d_K_share_36 d_K_share_39 d_K_share_40 d_K_share_42 d_K_share_45 (Nat.le_of_ble_eq_true rfl) (Nat.le_of_ble_eq_true rfl) ⟨Nat.le_of_ble_eq_true rfl, Nat.le_of_ble_eq_true rfl⟩ ⟨Nat.le_refl _, Nat.le_refl _⟩ [0] (by decide) rfl (rfl)
      · skip
        refine z_lload_n S d_K_share_28 1 rfl ?_
        refine z_ldc2 (v := 1000000000) (z := 1000000000) S k_K_115 d_K_share_29 (by decide) ?_
        refine z_lcmp_le (tgt := 46) S d_K_share_32 d_K_share_33 (by decide) (by omega) (by omega) (fun c4 => ?_) (fun c4 => ?_)
        · skip
          omega
        · skip
          exact z_throwS (w := [oK k h ka kz (ns : Int) kw (nw : Int) j kb a b d g]) S hst hg hlo hAe htab tw_121 k_K_117 (List.mem_of_getElem? (i := 13) rfl) d_K_share_36 d_K_share_39 d_K_share_40 d_K_share_42 d_K_share_45 (Nat.le_of_ble_eq_true rfl) (Nat.le_of_ble_eq_true rfl) ⟨Nat.le_of_ble_eq_true rfl, Nat.le_of_ble_eq_true rfl⟩ ⟨Nat.le_refl _, Nat.le_refl _⟩ [0] (by decide) rfl (rfl)
    · skip
      omega
set_option maxHeartbeats 4000000 in
set_option maxRecDepth 100000 in
theorem t3_K_share (l : Launch) (dC : Nat → ClassId) (dI : Nat → Nat → Nat) (cI cL : ClassId) (qT : Nat) (hst : l.stackTraces = false) (k : Nat) (ka : Nat) (kz : Nat) (ns : Nat) (kw : Nat) (nw : Nat) (j : Nat) (kb : Nat) (a : Nat) (b : Nat) (d : Nat) (g : Nat) (h : Nat) (we : Nat → Nat) (wh : Nat) (kx : Nat) (hnw : nw ≤ 20) (hwh : wh ≤ 1000000000) (hk : kx < nw) (hs0 : smW we nw = 0) : Tm l y_K_share (Cond.code y_K_share c_K_share 8 (some .long) :: zB) { frames := 6, cells := 1, slots := 6, locals := 110 } (dC, dI) zcl [(cI, .int), (cL, .long)] (zG cI cL qT) [.ref k, .long (zL (wh : Int)), .int (zI (kx : Int))] [oK k h ka kz (ns : Int) kw (nw : Int) j kb a b d g, aL cL kw 20 (wA we)] "java/lang/ArithmeticException" (fun wv => wv = [oK k h ka kz (ns : Int) kw (nw : Int) j kb a b d g, aL cL kw 20 (wA we)]) 1 6 := by
  refine Tm.ofZ (cc := c_K_share) (maxL := 8) (ret := (some .long)) (by decide) rfl (Nat.le_of_ble_eq_true rfl) rfl ?_
  intro p e s m below meth c A S hr hlo hnm hK hg hA hAe htab
  have hGok := zG_ok cI cL qT
  show ZZ _ _ _ _ _ _ _ _ _ _ _ _ _ _ _ _ _ _ 0 [(0, .ref k), (1, .long (zL (wh : Int))), (3, .int (zI (kx : Int)))] [] [oK k h ka kz (ns : Int) kw (nw : Int) j kb a b d g, aL cL kw 20 (wA we)]
  refine z_iload_n S d_K_share_0 2 rfl ?_
  refine z_if_lt (tgt := 12) S d_K_share_1 (by decide) (by omega) (fun c1 => ?_) (fun c1 => ?_)
  · skip
    omega
  · skip
    refine z_iload_n S d_K_share_4 2 rfl ?_
    refine z_aload_n S d_K_share_5 0 rfl ?_
    refine z_get S hK la_K 0 rfl rfl 5 (by decide) k_K_31 rfl d_K_share_6 ?_
    refine z_icmp_lt (tgt := 22) S d_K_share_9 (by decide) (by omega) (by omega) (fun c2 => ?_) (fun c2 => ?_)
    · skip
      refine z_lload_n S d_K_share_22 1 rfl ?_
      refine z_lconst (z := 0) S d_K_share_23 rfl ?_
      refine z_lcmp_lt (tgt := 36) S d_K_share_24 d_K_share_25 (by decide) (by omega) (by omega) (fun c3 => ?_) (fun c3 => ?_)
      · skip
        omega
      · skip
        refine z_lload_n S d_K_share_28 1 rfl ?_
        refine z_ldc2 (v := 1000000000) (z := 1000000000) S k_K_115 d_K_share_29 (by decide) ?_
        refine z_lcmp_le (tgt := 46) S d_K_share_32 d_K_share_33 (by decide) (by omega) (by omega) (fun c4 => ?_) (fun c4 => ?_)
        · skip
          refine z_aload_n S d_K_share_46 0 rfl ?_
          refine z_callVa (As := []) (st := []) (wc := [oK k h ka kz (ns : Int) kw (nw : Int) j kb a b d g, aL cL kw 20 (wA we)]) (wr := []) S hGok hK hg hA (s_K_sumOfWeights l dC dI cI cL qT k ka kz ns kw nw j kb a b d g h we (by omega)) (zcwV S (List.mem_cons_of_mem _ k_K_163) mV_K_sumOfWeights k_K_163 hd_K_sumOfWeights rfl rfl ⟨Nat.le_of_ble_eq_true rfl, Nat.le_of_ble_eq_true rfl⟩) rfl (Nat.le_of_ble_eq_true rfl) d_K_share_47 ⟨Nat.le_of_ble_eq_true rfl, Nat.le_of_ble_eq_true rfl⟩ rfl [0, 1] [] 0 rfl rfl rfl (by decide) rfl rfl rfl (by decide) (by decide) (fun x w hp => ?_)
          obtain ⟨rfl, rfl⟩ := hp
          show ZZ _ _ _ _ _ _ _ _ _ _ _ _ _ _ _ _ _ _ 50 [(0, .ref k), (1, .long (zL (wh : Int))), (3, .int (zI (kx : Int)))] [.long (zL ((smW we nw : Nat) : Int))] [oK k h ka kz (ns : Int) kw (nw : Int) j kb a b d g, aL cL kw 20 (wA we)]
          refine z_lstore (lv' := [(4, .long (zL ((smW we nw : Nat) : Int))), (0, .ref k), (1, .long (zL (wh : Int))), (3, .int (zI (kx : Int)))]) S d_K_share_50 (by decide) rfl ?_
          refine z_lload S d_K_share_52 0 rfl ?_
          refine z_lconst (z := 0) S d_K_share_54 rfl ?_
          refine z_lcmp_ne (tgt := 69) S d_K_share_55 d_K_share_56 (by decide) (by omega) (by omega) (fun c5 => ?_) (fun c5 => ?_)
          · skip
            omega
          · skip
            exact z_throwS (w := [oK k h ka kz (ns : Int) kw (nw : Int) j kb a b d g, aL cL kw 20 (wA we)]) S hst hg hlo hAe htab tw_68 k_K_64 (List.mem_of_getElem? (i := 14) rfl) d_K_share_59 d_K_share_62 d_K_share_63 d_K_share_65 d_K_share_68 (Nat.le_of_ble_eq_true rfl) (Nat.le_of_ble_eq_true rfl) ⟨Nat.le_of_ble_eq_true rfl, Nat.le_of_ble_eq_true rfl⟩ ⟨Nat.le_refl _, Nat.le_refl _⟩ [0, 1] (by decide) rfl (rfl)
        · skip
          omega
    · skip
      omega
set_option maxHeartbeats 4000000 in
set_option maxRecDepth 100000 in
theorem s_K_within (l : Launch) (dC : Nat → ClassId) (dI : Nat → Nat → Nat) (cI cL : ClassId) (qT : Nat) (k : Nat) (ka : Nat) (kz : Nat) (ns : Nat) (kw : Nat) (nw : Nat) (j : Nat) (kb : Nat) (a : Nat) (b : Nat) (d : Nat) (g : Nat) (h : Nat) (hl : Nat) (hs : Nat) (nn : Nat → Nat) (sg : Nat → Int) (n : Nat) (an : Int) (au : Nat) (aua : Nat) (ax : Nat) (al : Nat) (ala : Nat) (az : Nat) (bn : Int) (bu : Nat) (bua : Nat) (bx : Nat) (bl : Nat) (bla : Nat) (bz : Nat) (dn : Int) (du : Nat) (dua : Nat) (dx : Nat) (dl : Nat) (dla : Nat) (dz : Nat) (kl : Nat) (kla : Nat) (lx : Nat) (kr : Nat) (kra : Nat) (rx : Nat) (kq : Nat) (kqa : Nat) (qx : Nat) (lo : Nat → Nat) (hi : Nat → Nat) (u : Nat) (v : Nat) (hn : n ≤ 100) (hV : okVs sg nn n) (hns : ns ≤ 30) (hE : ∀ i, i < ns → lo i < n ∧ hi i < n) (hu : u < ns) (hv : v < n) (hax : ax < 1000000000 ^ 12) (haz : az < 1000000000 ^ 12) (hbx : bx < 1000000000 ^ 12) (hbz : bz < 1000000000 ^ 12) (hdx : dx < 1000000000 ^ 12) (hdz : dz < 1000000000 ^ 12) (hlx : lx < 1000000000 ^ 12) (hrx : rx < 1000000000 ^ 12) (hqx : qx < 1000000000 ^ 12) : Ct l y_K_within (Cond.code y_K_within c_K_within 3 (some .boolean) :: zB) { frames := 7, cells := 0, slots := 0, locals := 131 } (dC, dI) zcl [(cI, .int), (cL, .long)] (zG cI cL qT) [.ref k, .int (zI (u : Int)), .int (zI (v : Int))] [oK k h ka kz (ns : Int) kw (nw : Int) j kb a b d g, aI cI ka 30 (eA lo), aI cI kz 30 (eA hi), oH h hl hs (n : Int), aI cI hl 1200 (shA nn), aI cI hs 100 (sgA sg), oF a an au al, oW au aua ((us ax : Nat) : Int), aI cI aua 12 (wa ax), oW al ala ((us az : Nat) : Int), aI cI ala 12 (wa az), oF b bn bu bl, oW bu bua ((us bx : Nat) : Int), aI cI bua 12 (wa bx), oW bl bla ((us bz : Nat) : Int), aI cI bla 12 (wa bz), oF d dn du dl, oW du dua ((us dx : Nat) : Int), aI cI dua 12 (wa dx), oW dl dla ((us dz : Nat) : Int), aI cI dla 12 (wa dz), oB kb kl kr kq, oW kl kla ((us lx : Nat) : Int), aI cI kla 12 (wa lx), oW kr kra ((us rx : Nat) : Int), aI cI kra 12 (wa rx), oW kq kqa ((us qx : Nat) : Int), aI cI kqa 12 (wa qx)] (fun rv wv => ∃ an2 : Int, ∃ ax2 : Nat, ∃ az2 : Nat, ∃ dn2 : Int, ∃ dx2 : Nat, ∃ dz2 : Nat, ∃ r2 : Nat, (ax2 < 1000000000 ^ 12) ∧ (az2 < 1000000000 ^ 12) ∧ (dx2 < 1000000000 ^ 12) ∧ (dz2 < 1000000000 ^ 12) ∧ (r2 < 1000000000 ^ 12) ∧ rv = .int (zI (b2 (¬ 0 < suS (sg (lo u)) (-sg v) (nn (2 * (lo u)) * nn (2 * v + 1)) (nn (2 * v) * nn (2 * (lo u) + 1)) ∧ 0 ≤ suS (sg (hi u)) (-sg v) (nn (2 * (hi u)) * nn (2 * v + 1)) (nn (2 * v) * nn (2 * (hi u) + 1))))) ∧ wv = [oK k h ka kz (ns : Int) kw (nw : Int) j kb a b d g, aI cI ka 30 (eA lo), aI cI kz 30 (eA hi), oH h hl hs (n : Int), aI cI hl 1200 (shA nn), aI cI hs 100 (sgA sg), oF a an2 au al, oW au aua ((us ax2 : Nat) : Int), aI cI aua 12 (wa ax2), oW al ala ((us az2 : Nat) : Int), aI cI ala 12 (wa az2), oF b (sg v) bu bl, oW bu bua ((us (nn (2 * v)) : Nat) : Int), aI cI bua 12 (wa (nn (2 * v))), oW bl bla ((us (nn (2 * v + 1)) : Nat) : Int), aI cI bla 12 (wa (nn (2 * v + 1))), oF d dn2 du dl, oW du dua ((us dx2 : Nat) : Int), aI cI dua 12 (wa dx2), oW dl dla ((us dz2 : Nat) : Int), aI cI dla 12 (wa dz2), oB kb kl kr kq, oW kl kla ((us lx : Nat) : Int), aI cI kla 12 (wa lx), oW kr kra ((us r2 : Nat) : Int), aI cI kra 12 (wa r2), oW kq kqa ((us qx : Nat) : Int), aI cI kqa 12 (wa qx)]) 0 0 := by
  refine Cm.ofZ (cc := c_K_within) (maxL := 3) (ret := (some .boolean)) (by decide) rfl (Nat.le_of_ble_eq_true rfl) rfl ?_
  intro p e s m below meth c A S hr hlo hnm hK hg hA hAe
  have hGok := zG_ok cI cL qT
  show ZZ _ _ _ _ _ _ _ _ _ _ _ _ _ _ _ _ _ _ 0 [(0, .ref k), (1, .int (zI (u : Int))), (2, .int (zI (v : Int)))] [] [oK k h ka kz (ns : Int) kw (nw : Int) j kb a b d g, aI cI ka 30 (eA lo), aI cI kz 30 (eA hi), oH h hl hs (n : Int), aI cI hl 1200 (shA nn), aI cI hs 100 (sgA sg), oF a an au al, oW au aua ((us ax : Nat) : Int), aI cI aua 12 (wa ax), oW al ala ((us az : Nat) : Int), aI cI ala 12 (wa az), oF b bn bu bl, oW bu bua ((us bx : Nat) : Int), aI cI bua 12 (wa bx), oW bl bla ((us bz : Nat) : Int), aI cI bla 12 (wa bz), oF d dn du dl, oW du dua ((us dx : Nat) : Int), aI cI dua 12 (wa dx), oW dl dla ((us dz : Nat) : Int), aI cI dla 12 (wa dz), oB kb kl kr kq, oW kl kla ((us lx : Nat) : Int), aI cI kla 12 (wa lx), oW kr kra ((us rx : Nat) : Int), aI cI kra 12 (wa rx), oW kq kqa ((us qx : Nat) : Int), aI cI kqa 12 (wa qx)]
  obtain ⟨hlo1, hhi1⟩ := hE u hu
  obtain ⟨u1, u2, u3, u4, u5, u6⟩ := id (hV (lo u) hlo1)
  obtain ⟨w1, w2, w3, w4, w5, w6⟩ := id (hV (hi u) hhi1)
  obtain ⟨v1, v2, v3, v4, v5, v6⟩ := id (hV v hv)
  have m1 := mul96 u3 v5
  have m2 := mul96 v3 u5
  have m3 := mul96 u5 v5
  have m4 := mul96 w3 v5
  have m5 := mul96 v3 w5
  have m6 := mul96 w5 v5
  have hs1 : -1 ≤ suS (sg (lo u)) (-sg v) (nn (2 * (lo u)) * nn (2 * v + 1)) (nn (2 * v) * nn (2 * (lo u) + 1)) ∧ suS (sg (lo u)) (-sg v) (nn (2 * (lo u)) * nn (2 * v + 1)) (nn (2 * v) * nn (2 * (lo u) + 1)) ≤ 1 := suS_r ⟨by omega, by omega⟩ ⟨by omega, by omega⟩
  have hs2 : -1 ≤ suS (sg (hi u)) (-sg v) (nn (2 * (hi u)) * nn (2 * v + 1)) (nn (2 * v) * nn (2 * (hi u) + 1)) ∧ suS (sg (hi u)) (-sg v) (nn (2 * (hi u)) * nn (2 * v + 1)) (nn (2 * v) * nn (2 * (hi u) + 1)) ≤ 1 := suS_r ⟨by omega, by omega⟩ ⟨by omega, by omega⟩
  have hn1 : suN (sg (lo u)) (-sg v) (nn (2 * (lo u)) * nn (2 * v + 1)) (nn (2 * v) * nn (2 * (lo u) + 1)) < 1000000000 ^ 12 := suN_le (by omega)
  have hn2 : suN (sg (hi u)) (-sg v) (nn (2 * (hi u)) * nn (2 * v + 1)) (nn (2 * v) * nn (2 * (hi u) + 1)) < 1000000000 ^ 12 := suN_le (by omega)
  refine z_aload_n S d_K_within_0 0 rfl ?_
  refine z_iload_n S d_K_within_1 1 rfl ?_
  refine z_callVv (As := [.int (zI (u : Int))]) (st := []) (wc := [oK k h ka kz (ns : Int) kw (nw : Int) j kb a b d g]) (wr := [aI cI ka 30 (eA lo), aI cI kz 30 (eA hi), oH h hl hs (n : Int), aI cI hl 1200 (shA nn), aI cI hs 100 (sgA sg), oF a an au al, oW au aua ((us ax : Nat) : Int), aI cI aua 12 (wa ax), oW al ala ((us az : Nat) : Int), aI cI ala 12 (wa az), oF b bn bu bl, oW bu bua ((us bx : Nat) : Int), aI cI bua 12 (wa bx), oW bl bla ((us bz : Nat) : Int), aI cI bla 12 (wa bz), oF d dn du dl, oW du dua ((us dx : Nat) : Int), aI cI dua 12 (wa dx), oW dl dla ((us dz : Nat) : Int), aI cI dla 12 (wa dz), oB kb kl kr kq, oW kl kla ((us lx : Nat) : Int), aI cI kla 12 (wa lx), oW kr kra ((us rx : Nat) : Int), aI cI kra 12 (wa rx), oW kq kqa ((us qx : Nat) : Int), aI cI kqa 12 (wa qx)]) S hGok hK hg hA (s_K_needSpan l dC dI cI cL qT k ka kz ns kw nw j kb a b d g h (u : Int) (by omega) (by omega)) (zcwV S (List.mem_cons_of_mem _ k_K_142) mV_K_needSpan k_K_142 hd_K_needSpan rfl rfl ⟨Nat.le_of_ble_eq_true rfl, Nat.le_of_ble_eq_true rfl⟩) rfl (Nat.le_of_ble_eq_true rfl) d_K_within_2 ⟨Nat.le_of_ble_eq_true rfl, Nat.le_of_ble_eq_true rfl⟩ rfl [0] [1, 2, 3, 4, 5, 6, 7, 8, 9, 10, 11, 12, 13, 14, 15, 16, 17, 18, 19, 20, 21, 22, 23, 24, 25, 26, 27] 0 rfl rfl rfl (by decide) rfl rfl rfl (by decide) (by decide) (fun w hp => ?_)
  subst hp
  show ZZ _ _ _ _ _ _ _ _ _ _ _ _ _ _ _ _ _ _ 5 [(0, .ref k), (1, .int (zI (u : Int))), (2, .int (zI (v : Int)))] [] [aI cI ka 30 (eA lo), aI cI kz 30 (eA hi), oH h hl hs (n : Int), aI cI hl 1200 (shA nn), aI cI hs 100 (sgA sg), oF a an au al, oW au aua ((us ax : Nat) : Int), aI cI aua 12 (wa ax), oW al ala ((us az : Nat) : Int), aI cI ala 12 (wa az), oF b bn bu bl, oW bu bua ((us bx : Nat) : Int), aI cI bua 12 (wa bx), oW bl bla ((us bz : Nat) : Int), aI cI bla 12 (wa bz), oF d dn du dl, oW du dua ((us dx : Nat) : Int), aI cI dua 12 (wa dx), oW dl dla ((us dz : Nat) : Int), aI cI dla 12 (wa dz), oB kb kl kr kq, oW kl kla ((us lx : Nat) : Int), aI cI kla 12 (wa lx), oW kr kra ((us rx : Nat) : Int), aI cI kra 12 (wa rx), oW kq kqa ((us qx : Nat) : Int), aI cI kqa 12 (wa qx), oK k h ka kz (ns : Int) kw (nw : Int) j kb a b d g]
  refine z_aload_n S d_K_within_5 0 rfl ?_
  refine z_iload_n S d_K_within_6 2 rfl ?_
  refine z_callVv (As := [.int (zI (v : Int))]) (st := []) (wc := [oK k h ka kz (ns : Int) kw (nw : Int) j kb a b d g, oH h hl hs (n : Int)]) (wr := [aI cI ka 30 (eA lo), aI cI kz 30 (eA hi), aI cI hl 1200 (shA nn), aI cI hs 100 (sgA sg), oF a an au al, oW au aua ((us ax : Nat) : Int), aI cI aua 12 (wa ax), oW al ala ((us az : Nat) : Int), aI cI ala 12 (wa az), oF b bn bu bl, oW bu bua ((us bx : Nat) : Int), aI cI bua 12 (wa bx), oW bl bla ((us bz : Nat) : Int), aI cI bla 12 (wa bz), oF d dn du dl, oW du dua ((us dx : Nat) : Int), aI cI dua 12 (wa dx), oW dl dla ((us dz : Nat) : Int), aI cI dla 12 (wa dz), oB kb kl kr kq, oW kl kla ((us lx : Nat) : Int), aI cI kla 12 (wa lx), oW kr kra ((us rx : Nat) : Int), aI cI kra 12 (wa rx), oW kq kqa ((us qx : Nat) : Int), aI cI kqa 12 (wa qx)]) S hGok hK hg hA (s_K_needValue l dC dI cI cL qT k ka kz ns kw nw j kb a b d g h hl hs n (v : Int) (by omega) (by omega)) (zcwV S (List.mem_cons_of_mem _ k_K_107) mV_K_needValue k_K_107 hd_K_needValue rfl rfl ⟨Nat.le_of_ble_eq_true rfl, Nat.le_of_ble_eq_true rfl⟩) rfl (Nat.le_of_ble_eq_true rfl) d_K_within_7 ⟨Nat.le_of_ble_eq_true rfl, Nat.le_of_ble_eq_true rfl⟩ rfl [27, 2] [0, 1, 3, 4, 5, 6, 7, 8, 9, 10, 11, 12, 13, 14, 15, 16, 17, 18, 19, 20, 21, 22, 23, 24, 25, 26] 27 rfl rfl rfl (by decide) rfl rfl rfl (by decide) (by decide) (fun w hp => ?_)
  subst hp
  show ZZ _ _ _ _ _ _ _ _ _ _ _ _ _ _ _ _ _ _ 10 [(0, .ref k), (1, .int (zI (u : Int))), (2, .int (zI (v : Int)))] [] [aI cI ka 30 (eA lo), aI cI kz 30 (eA hi), aI cI hl 1200 (shA nn), aI cI hs 100 (sgA sg), oF a an au al, oW au aua ((us ax : Nat) : Int), aI cI aua 12 (wa ax), oW al ala ((us az : Nat) : Int), aI cI ala 12 (wa az), oF b bn bu bl, oW bu bua ((us bx : Nat) : Int), aI cI bua 12 (wa bx), oW bl bla ((us bz : Nat) : Int), aI cI bla 12 (wa bz), oF d dn du dl, oW du dua ((us dx : Nat) : Int), aI cI dua 12 (wa dx), oW dl dla ((us dz : Nat) : Int), aI cI dla 12 (wa dz), oB kb kl kr kq, oW kl kla ((us lx : Nat) : Int), aI cI kla 12 (wa lx), oW kr kra ((us rx : Nat) : Int), aI cI kra 12 (wa rx), oW kq kqa ((us qx : Nat) : Int), aI cI kqa 12 (wa qx), oK k h ka kz (ns : Int) kw (nw : Int) j kb a b d g, oH h hl hs (n : Int)]
  refine z_aload_n S d_K_within_10 0 rfl ?_
  refine z_get S hK la_K 26 rfl rfl 0 (by decide) k_K_10 rfl d_K_within_11 ?_
  refine z_iload_n S d_K_within_14 2 rfl ?_
  refine z_aload_n S d_K_within_15 0 rfl ?_
  refine z_get S hK la_K 26 rfl rfl 9 (by decide) k_K_51 rfl d_K_within_16 ?_
  refine z_callVv (As := [.int (zI (v : Int)), .ref b]) (st := []) (wc := [oH h hl hs (n : Int), aI cI hl 1200 (shA nn), aI cI hs 100 (sgA sg), oF b bn bu bl, oW bu bua ((us bx : Nat) : Int), aI cI bua 12 (wa bx), oW bl bla ((us bz : Nat) : Int), aI cI bla 12 (wa bz)]) (wr := [aI cI ka 30 (eA lo), aI cI kz 30 (eA hi), oF a an au al, oW au aua ((us ax : Nat) : Int), aI cI aua 12 (wa ax), oW al ala ((us az : Nat) : Int), aI cI ala 12 (wa az), oF d dn du dl, oW du dua ((us dx : Nat) : Int), aI cI dua 12 (wa dx), oW dl dla ((us dz : Nat) : Int), aI cI dla 12 (wa dz), oB kb kl kr kq, oW kl kla ((us lx : Nat) : Int), aI cI kla 12 (wa lx), oW kr kra ((us rx : Nat) : Int), aI cI kra 12 (wa rx), oW kq kqa ((us qx : Nat) : Int), aI cI kqa 12 (wa qx), oK k h ka kz (ns : Int) kw (nw : Int) j kb a b d g]) S hGok hK hg hA (s_H_fetch l dC dI cI cL qT h hl hs nn sg n v b bn bu bua bx bl bla bz (by omega) (okV_6 (hV v hv)).1 (okV_6 (hV v hv)).2 (by omega) (by omega)) (zcwV S (List.mem_cons_of_mem _ k_K_122) mV_H_fetch k_K_122 hd_H_fetch rfl rfl ⟨Nat.le_of_ble_eq_true rfl, Nat.le_of_ble_eq_true rfl⟩) rfl (Nat.le_of_ble_eq_true rfl) d_K_within_19 ⟨Nat.le_of_ble_eq_true rfl, Nat.le_of_ble_eq_true rfl⟩ rfl [27, 2, 3, 9, 10, 11, 12, 13] [0, 1, 4, 5, 6, 7, 8, 14, 15, 16, 17, 18, 19, 20, 21, 22, 23, 24, 25, 26] 27 rfl rfl rfl (by decide) rfl rfl rfl (by decide) (by decide) (fun w hp => ?_)
  subst hp
  show ZZ _ _ _ _ _ _ _ _ _ _ _ _ _ _ _ _ _ _ 22 [(0, .ref k), (1, .int (zI (u : Int))), (2, .int (zI (v : Int)))] [] [aI cI ka 30 (eA lo), aI cI kz 30 (eA hi), oF a an au al, oW au aua ((us ax : Nat) : Int), aI cI aua 12 (wa ax), oW al ala ((us az : Nat) : Int), aI cI ala 12 (wa az), oF d dn du dl, oW du dua ((us dx : Nat) : Int), aI cI dua 12 (wa dx), oW dl dla ((us dz : Nat) : Int), aI cI dla 12 (wa dz), oB kb kl kr kq, oW kl kla ((us lx : Nat) : Int), aI cI kla 12 (wa lx), oW kr kra ((us rx : Nat) : Int), aI cI kra 12 (wa rx), oW kq kqa ((us qx : Nat) : Int), aI cI kqa 12 (wa qx), oK k h ka kz (ns : Int) kw (nw : Int) j kb a b d g, oH h hl hs (n : Int), aI cI hl 1200 (shA nn), aI cI hs 100 (sgA sg), oF b (sg v) bu bl, oW bu bua ((us (nn (2 * v)) : Nat) : Int), aI cI bua 12 (wa (nn (2 * v))), oW bl bla ((us (nn (2 * v + 1)) : Nat) : Int), aI cI bla 12 (wa (nn (2 * v + 1)))]
  refine z_aload_n S d_K_within_22 0 rfl ?_
  refine z_get S hK la_K 19 rfl rfl 0 (by decide) k_K_10 rfl d_K_within_23 ?_
  refine z_aload_n S d_K_within_26 0 rfl ?_
  refine z_get S hK la_K 19 rfl rfl 1 (by decide) k_K_16 rfl d_K_within_27 ?_
  refine z_iload_n S d_K_within_30 1 rfl ?_
  refine z_iald (x := ((lo u : Nat) : Int)) S hK 0 0 rfl rfl u rfl (by omega) (by decide) rfl d_K_within_31 ?_
  refine z_aload_n S d_K_within_32 0 rfl ?_
  refine z_get S hK la_K 19 rfl rfl 8 (by decide) k_K_48 rfl d_K_within_33 ?_
  refine z_callVv (As := [.int (zI ((lo u : Nat) : Int)), .ref a]) (st := []) (wc := [oH h hl hs (n : Int), aI cI hl 1200 (shA nn), aI cI hs 100 (sgA sg), oF a an au al, oW au aua ((us ax : Nat) : Int), aI cI aua 12 (wa ax), oW al ala ((us az : Nat) : Int), aI cI ala 12 (wa az)]) (wr := [aI cI ka 30 (eA lo), aI cI kz 30 (eA hi), oF d dn du dl, oW du dua ((us dx : Nat) : Int), aI cI dua 12 (wa dx), oW dl dla ((us dz : Nat) : Int), aI cI dla 12 (wa dz), oB kb kl kr kq, oW kl kla ((us lx : Nat) : Int), aI cI kla 12 (wa lx), oW kr kra ((us rx : Nat) : Int), aI cI kra 12 (wa rx), oW kq kqa ((us qx : Nat) : Int), aI cI kqa 12 (wa qx), oK k h ka kz (ns : Int) kw (nw : Int) j kb a b d g, oF b (sg v) bu bl, oW bu bua ((us (nn (2 * v)) : Nat) : Int), aI cI bua 12 (wa (nn (2 * v))), oW bl bla ((us (nn (2 * v + 1)) : Nat) : Int), aI cI bla 12 (wa (nn (2 * v + 1)))]) S hGok hK hg hA (s_H_fetch l dC dI cI cL qT h hl hs nn sg n (lo u) a an au aua ax al ala az (by omega) (okV_6 (hV (lo u) hlo1)).1 (okV_6 (hV (lo u) hlo1)).2 (by omega) (by omega)) (zcwV S (List.mem_cons_of_mem _ k_K_122) mV_H_fetch k_K_122 hd_H_fetch rfl rfl ⟨Nat.le_of_ble_eq_true rfl, Nat.le_of_ble_eq_true rfl⟩) rfl (Nat.le_of_ble_eq_true rfl) d_K_within_36 ⟨Nat.le_of_ble_eq_true rfl, Nat.le_of_ble_eq_true rfl⟩ rfl [20, 21, 22, 2, 3, 4, 5, 6] [0, 1, 7, 8, 9, 10, 11, 12, 13, 14, 15, 16, 17, 18, 19, 23, 24, 25, 26, 27] 20 rfl rfl rfl (by decide) rfl rfl rfl (by decide) (by decide) (fun w hp => ?_)
  subst hp
  show ZZ _ _ _ _ _ _ _ _ _ _ _ _ _ _ _ _ _ _ 39 [(0, .ref k), (1, .int (zI (u : Int))), (2, .int (zI (v : Int)))] [] [aI cI ka 30 (eA lo), aI cI kz 30 (eA hi), oF d dn du dl, oW du dua ((us dx : Nat) : Int), aI cI dua 12 (wa dx), oW dl dla ((us dz : Nat) : Int), aI cI dla 12 (wa dz), oB kb kl kr kq, oW kl kla ((us lx : Nat) : Int), aI cI kla 12 (wa lx), oW kr kra ((us rx : Nat) : Int), aI cI kra 12 (wa rx), oW kq kqa ((us qx : Nat) : Int), aI cI kqa 12 (wa qx), oK k h ka kz (ns : Int) kw (nw : Int) j kb a b d g, oF b (sg v) bu bl, oW bu bua ((us (nn (2 * v)) : Nat) : Int), aI cI bua 12 (wa (nn (2 * v))), oW bl bla ((us (nn (2 * v + 1)) : Nat) : Int), aI cI bla 12 (wa (nn (2 * v + 1))), oH h hl hs (n : Int), aI cI hl 1200 (shA nn), aI cI hs 100 (sgA sg), oF a (sg (lo u)) au al, oW au aua ((us (nn (2 * (lo u))) : Nat) : Int), aI cI aua 12 (wa (nn (2 * (lo u)))), oW al ala ((us (nn (2 * (lo u) + 1)) : Nat) : Int), aI cI ala 12 (wa (nn (2 * (lo u) + 1)))]
  refine z_aload_n S d_K_within_39 0 rfl ?_
  refine z_get S hK la_K 14 rfl rfl 7 (by decide) k_K_44 rfl d_K_within_40 ?_
  refine z_aload_n S d_K_within_43 0 rfl ?_
  refine z_get S hK la_K 14 rfl rfl 8 (by decide) k_K_48 rfl d_K_within_44 ?_
  refine z_aload_n S d_K_within_47 0 rfl ?_
  refine z_get S hK la_K 14 rfl rfl 9 (by decide) k_K_51 rfl d_K_within_48 ?_
  refine z_aload_n S d_K_within_51 0 rfl ?_
  refine z_get S hK la_K 14 rfl rfl 10 (by decide) k_K_54 rfl d_K_within_52 ?_
  refine z_callVa (As := [.ref a, .ref b, .ref d]) (st := []) (wc := [oB kb kl kr kq, oW kr kra ((us rx : Nat) : Int), aI cI kra 12 (wa rx), oF a (sg (lo u)) au al, oW au aua ((us (nn (2 * (lo u))) : Nat) : Int), aI cI aua 12 (wa (nn (2 * (lo u)))), oW al ala ((us (nn (2 * (lo u) + 1)) : Nat) : Int), aI cI ala 12 (wa (nn (2 * (lo u) + 1))), oF b (sg v) bu bl, oW bu bua ((us (nn (2 * v)) : Nat) : Int), aI cI bua 12 (wa (nn (2 * v))), oW bl bla ((us (nn (2 * v + 1)) : Nat) : Int), aI cI bla 12 (wa (nn (2 * v + 1))), oF d dn du dl, oW du dua ((us dx : Nat) : Int), aI cI dua 12 (wa dx), oW dl dla ((us dz : Nat) : Int), aI cI dla 12 (wa dz)]) (wr := [aI cI ka 30 (eA lo), aI cI kz 30 (eA hi), oW kl kla ((us lx : Nat) : Int), aI cI kla 12 (wa lx), oW kq kqa ((us qx : Nat) : Int), aI cI kqa 12 (wa qx), oK k h ka kz (ns : Int) kw (nw : Int) j kb a b d g, oH h hl hs (n : Int), aI cI hl 1200 (shA nn), aI cI hs 100 (sgA sg)]) S hGok hK hg hA (s_B_compare l dC dI cI cL qT kb kl kr kra rx kq a (sg (lo u)) au aua (nn (2 * (lo u))) al ala (nn (2 * (lo u) + 1)) b (sg v) bu bua (nn (2 * v)) bl bla (nn (2 * v + 1)) d dn du dua dx dl dla dz (by omega) (by omega) (by omega) (by omega) (by omega) (by omega) (by omega) (by omega) (by omega)) (zcwV S (List.mem_cons_of_mem _ k_K_103) mV_B_compare k_K_103 hd_B_compare rfl rfl ⟨Nat.le_of_ble_eq_true rfl, Nat.le_of_ble_eq_true rfl⟩) rfl (Nat.le_of_ble_eq_true rfl) d_K_within_55 ⟨Nat.le_of_ble_eq_true rfl, Nat.le_of_ble_eq_true rfl⟩ rfl [7, 10, 11, 23, 24, 25, 26, 27, 15, 16, 17, 18, 19, 2, 3, 4, 5, 6] [0, 1, 8, 9, 12, 13, 14, 20, 21, 22] 7 rfl rfl rfl (by decide) rfl rfl rfl (by decide) (by decide) (fun x w hp => ?_)
  obtain ⟨r4, hr4, rfl, rfl⟩ := hp
  show ZZ _ _ _ _ _ _ _ _ _ _ _ _ _ _ _ _ _ _ 58 [(0, .ref k), (1, .int (zI (u : Int))), (2, .int (zI (v : Int)))] [.int (zI (suS (sg (lo u)) (-(sg v)) ((nn (2 * (lo u))) * (nn (2 * v + 1))) ((nn (2 * v)) * (nn (2 * (lo u) + 1)))))] [aI cI ka 30 (eA lo), aI cI kz 30 (eA hi), oW kl kla ((us lx : Nat) : Int), aI cI kla 12 (wa lx), oW kq kqa ((us qx : Nat) : Int), aI cI kqa 12 (wa qx), oK k h ka kz (ns : Int) kw (nw : Int) j kb a b d g, oH h hl hs (n : Int), aI cI hl 1200 (shA nn), aI cI hs 100 (sgA sg), oB kb kl kr kq, oW kr kra ((us r4 : Nat) : Int), aI cI kra 12 (wa r4), oF a (sg (lo u)) au al, oW au aua ((us (nn (2 * (lo u))) : Nat) : Int), aI cI aua 12 (wa (nn (2 * (lo u)))), oW al ala ((us (nn (2 * (lo u) + 1)) : Nat) : Int), aI cI ala 12 (wa (nn (2 * (lo u) + 1))), oF b (sg v) bu bl, oW bu bua ((us (nn (2 * v)) : Nat) : Int), aI cI bua 12 (wa (nn (2 * v))), oW bl bla ((us (nn (2 * v + 1)) : Nat) : Int), aI cI bla 12 (wa (nn (2 * v + 1))), oF d (suS (sg (lo u)) (-(sg v)) ((nn (2 * (lo u))) * (nn (2 * v + 1))) ((nn (2 * v)) * (nn (2 * (lo u) + 1)))) du dl, oW du dua ((us (suN (sg (lo u)) (-(sg v)) ((nn (2 * (lo u))) * (nn (2 * v + 1))) ((nn (2 * v)) * (nn (2 * (lo u) + 1)))) : Nat) : Int), aI cI dua 12 (wa (suN (sg (lo u)) (-(sg v)) ((nn (2 * (lo u))) * (nn (2 * v + 1))) ((nn (2 * v)) * (nn (2 * (lo u) + 1))))), oW dl dla ((us ((nn (2 * (lo u) + 1)) * (nn (2 * v + 1))) : Nat) : Int), aI cI dla 12 (wa ((nn (2 * (lo u) + 1)) * (nn (2 * v + 1))))]
  refine z_if_le (tgt := 63) S d_K_within_58 (by decide) (by omega) (fun c1 => ?_) (fun c1 => ?_)
  · skip
    refine z_aload_n S d_K_within_63 0 rfl ?_
    refine z_get S hK la_K 6 rfl rfl 0 (by decide) k_K_10 rfl d_K_within_64 ?_
    refine z_aload_n S d_K_within_67 0 rfl ?_
    refine z_get S hK la_K 6 rfl rfl 2 (by decide) k_K_20 rfl d_K_within_68 ?_
    refine z_iload_n S d_K_within_71 1 rfl ?_
    refine z_iald (x := ((hi u : Nat) : Int)) S hK 1 0 rfl rfl u rfl (by omega) (by decide) rfl d_K_within_72 ?_
    refine z_aload_n S d_K_within_73 0 rfl ?_
    refine z_get S hK la_K 6 rfl rfl 8 (by decide) k_K_48 rfl d_K_within_74 ?_
    refine z_callVv (As := [.int (zI ((hi u : Nat) : Int)), .ref a]) (st := []) (wc := [oH h hl hs (n : Int), aI cI hl 1200 (shA nn), aI cI hs 100 (sgA sg), oF a (sg (lo u)) au al, oW au aua ((us (nn (2 * (lo u))) : Nat) : Int), aI cI aua 12 (wa (nn (2 * (lo u)))), oW al ala ((us (nn (2 * (lo u) + 1)) : Nat) : Int), aI cI ala 12 (wa (nn (2 * (lo u) + 1)))]) (wr := [aI cI ka 30 (eA lo), aI cI kz 30 (eA hi), oW kl kla ((us lx : Nat) : Int), aI cI kla 12 (wa lx), oW kq kqa ((us qx : Nat) : Int), aI cI kqa 12 (wa qx), oK k h ka kz (ns : Int) kw (nw : Int) j kb a b d g, oB kb kl kr kq, oW kr kra ((us r4 : Nat) : Int), aI cI kra 12 (wa r4), oF b (sg v) bu bl, oW bu bua ((us (nn (2 * v)) : Nat) : Int), aI cI bua 12 (wa (nn (2 * v))), oW bl bla ((us (nn (2 * v + 1)) : Nat) : Int), aI cI bla 12 (wa (nn (2 * v + 1))), oF d (suS (sg (lo u)) (-(sg v)) ((nn (2 * (lo u))) * (nn (2 * v + 1))) ((nn (2 * v)) * (nn (2 * (lo u) + 1)))) du dl, oW du dua ((us (suN (sg (lo u)) (-(sg v)) ((nn (2 * (lo u))) * (nn (2 * v + 1))) ((nn (2 * v)) * (nn (2 * (lo u) + 1)))) : Nat) : Int), aI cI dua 12 (wa (suN (sg (lo u)) (-(sg v)) ((nn (2 * (lo u))) * (nn (2 * v + 1))) ((nn (2 * v)) * (nn (2 * (lo u) + 1))))), oW dl dla ((us ((nn (2 * (lo u) + 1)) * (nn (2 * v + 1))) : Nat) : Int), aI cI dla 12 (wa ((nn (2 * (lo u) + 1)) * (nn (2 * v + 1))))]) S hGok hK hg hA (s_H_fetch l dC dI cI cL qT h hl hs nn sg n (hi u) a (sg (lo u)) au aua (nn (2 * (lo u))) al ala (nn (2 * (lo u) + 1)) (by omega) (okV_6 (hV (hi u) hhi1)).1 (okV_6 (hV (hi u) hhi1)).2 (by omega) (by omega)) (zcwV S (List.mem_cons_of_mem _ k_K_122) mV_H_fetch k_K_122 hd_H_fetch rfl rfl ⟨Nat.le_of_ble_eq_true rfl, Nat.le_of_ble_eq_true rfl⟩) rfl (Nat.le_of_ble_eq_true rfl) d_K_within_77 ⟨Nat.le_of_ble_eq_true rfl, Nat.le_of_ble_eq_true rfl⟩ rfl [7, 8, 9, 13, 14, 15, 16, 17] [0, 1, 2, 3, 4, 5, 6, 10, 11, 12, 18, 19, 20, 21, 22, 23, 24, 25, 26, 27] 7 rfl rfl rfl (by decide) rfl rfl rfl (by decide) (by decide) (fun w hp => ?_)
    subst hp
    show ZZ _ _ _ _ _ _ _ _ _ _ _ _ _ _ _ _ _ _ 80 [(0, .ref k), (1, .int (zI (u : Int))), (2, .int (zI (v : Int)))] [] [aI cI ka 30 (eA lo), aI cI kz 30 (eA hi), oW kl kla ((us lx : Nat) : Int), aI cI kla 12 (wa lx), oW kq kqa ((us qx : Nat) : Int), aI cI kqa 12 (wa qx), oK k h ka kz (ns : Int) kw (nw : Int) j kb a b d g, oB kb kl kr kq, oW kr kra ((us r4 : Nat) : Int), aI cI kra 12 (wa r4), oF b (sg v) bu bl, oW bu bua ((us (nn (2 * v)) : Nat) : Int), aI cI bua 12 (wa (nn (2 * v))), oW bl bla ((us (nn (2 * v + 1)) : Nat) : Int), aI cI bla 12 (wa (nn (2 * v + 1))), oF d (suS (sg (lo u)) (-(sg v)) ((nn (2 * (lo u))) * (nn (2 * v + 1))) ((nn (2 * v)) * (nn (2 * (lo u) + 1)))) du dl, oW du dua ((us (suN (sg (lo u)) (-(sg v)) ((nn (2 * (lo u))) * (nn (2 * v + 1))) ((nn (2 * v)) * (nn (2 * (lo u) + 1)))) : Nat) : Int), aI cI dua 12 (wa (suN (sg (lo u)) (-(sg v)) ((nn (2 * (lo u))) * (nn (2 * v + 1))) ((nn (2 * v)) * (nn (2 * (lo u) + 1))))), oW dl dla ((us ((nn (2 * (lo u) + 1)) * (nn (2 * v + 1))) : Nat) : Int), aI cI dla 12 (wa ((nn (2 * (lo u) + 1)) * (nn (2 * v + 1)))), oH h hl hs (n : Int), aI cI hl 1200 (shA nn), aI cI hs 100 (sgA sg), oF a (sg (hi u)) au al, oW au aua ((us (nn (2 * (hi u))) : Nat) : Int), aI cI aua 12 (wa (nn (2 * (hi u)))), oW al ala ((us (nn (2 * (hi u) + 1)) : Nat) : Int), aI cI ala 12 (wa (nn (2 * (hi u) + 1)))]
    refine z_aload_n S d_K_within_80 0 rfl ?_
    refine z_get S hK la_K 6 rfl rfl 7 (by decide) k_K_44 rfl d_K_within_81 ?_
    refine z_aload_n S d_K_within_84 0 rfl ?_
    refine z_get S hK la_K 6 rfl rfl 8 (by decide) k_K_48 rfl d_K_within_85 ?_
    refine z_aload_n S d_K_within_88 0 rfl ?_
    refine z_get S hK la_K 6 rfl rfl 9 (by decide) k_K_51 rfl d_K_within_89 ?_
    refine z_aload_n S d_K_within_92 0 rfl ?_
    refine z_get S hK la_K 6 rfl rfl 10 (by decide) k_K_54 rfl d_K_within_93 ?_
    refine z_callVa (As := [.ref a, .ref b, .ref d]) (st := []) (wc := [oB kb kl kr kq, oW kr kra ((us r4 : Nat) : Int), aI cI kra 12 (wa r4), oF a (sg (hi u)) au al, oW au aua ((us (nn (2 * (hi u))) : Nat) : Int), aI cI aua 12 (wa (nn (2 * (hi u)))), oW al ala ((us (nn (2 * (hi u) + 1)) : Nat) : Int), aI cI ala 12 (wa (nn (2 * (hi u) + 1))), oF b (sg v) bu bl, oW bu bua ((us (nn (2 * v)) : Nat) : Int), aI cI bua 12 (wa (nn (2 * v))), oW bl bla ((us (nn (2 * v + 1)) : Nat) : Int), aI cI bla 12 (wa (nn (2 * v + 1))), oF d (suS (sg (lo u)) (-(sg v)) ((nn (2 * (lo u))) * (nn (2 * v + 1))) ((nn (2 * v)) * (nn (2 * (lo u) + 1)))) du dl, oW du dua ((us (suN (sg (lo u)) (-(sg v)) ((nn (2 * (lo u))) * (nn (2 * v + 1))) ((nn (2 * v)) * (nn (2 * (lo u) + 1)))) : Nat) : Int), aI cI dua 12 (wa (suN (sg (lo u)) (-(sg v)) ((nn (2 * (lo u))) * (nn (2 * v + 1))) ((nn (2 * v)) * (nn (2 * (lo u) + 1))))), oW dl dla ((us ((nn (2 * (lo u) + 1)) * (nn (2 * v + 1))) : Nat) : Int), aI cI dla 12 (wa ((nn (2 * (lo u) + 1)) * (nn (2 * v + 1))))]) (wr := [aI cI ka 30 (eA lo), aI cI kz 30 (eA hi), oW kl kla ((us lx : Nat) : Int), aI cI kla 12 (wa lx), oW kq kqa ((us qx : Nat) : Int), aI cI kqa 12 (wa qx), oK k h ka kz (ns : Int) kw (nw : Int) j kb a b d g, oH h hl hs (n : Int), aI cI hl 1200 (shA nn), aI cI hs 100 (sgA sg)]) S hGok hK hg hA (s_B_compare l dC dI cI cL qT kb kl kr kra r4 kq a (sg (hi u)) au aua (nn (2 * (hi u))) al ala (nn (2 * (hi u) + 1)) b (sg v) bu bua (nn (2 * v)) bl bla (nn (2 * v + 1)) d (suS (sg (lo u)) (-(sg v)) ((nn (2 * (lo u))) * (nn (2 * v + 1))) ((nn (2 * v)) * (nn (2 * (lo u) + 1)))) du dua (suN (sg (lo u)) (-(sg v)) ((nn (2 * (lo u))) * (nn (2 * v + 1))) ((nn (2 * v)) * (nn (2 * (lo u) + 1)))) dl dla ((nn (2 * (lo u) + 1)) * (nn (2 * v + 1))) (by omega) (by omega) (by omega) (by omega) (by omega) (by omega) (by omega) (by omega) (by omega)) (zcwV S (List.mem_cons_of_mem _ k_K_103) mV_B_compare k_K_103 hd_B_compare rfl rfl ⟨Nat.le_of_ble_eq_true rfl, Nat.le_of_ble_eq_true rfl⟩) rfl (Nat.le_of_ble_eq_true rfl) d_K_within_96 ⟨Nat.le_of_ble_eq_true rfl, Nat.le_of_ble_eq_true rfl⟩ rfl [7, 8, 9, 23, 24, 25, 26, 27, 10, 11, 12, 13, 14, 15, 16, 17, 18, 19] [0, 1, 2, 3, 4, 5, 6, 20, 21, 22] 7 rfl rfl rfl (by decide) rfl rfl rfl (by decide) (by decide) (fun x w hp => ?_)
    obtain ⟨r5, hr5, rfl, rfl⟩ := hp
    show ZZ _ _ _ _ _ _ _ _ _ _ _ _ _ _ _ _ _ _ 99 [(0, .ref k), (1, .int (zI (u : Int))), (2, .int (zI (v : Int)))] [.int (zI (suS (sg (hi u)) (-(sg v)) ((nn (2 * (hi u))) * (nn (2 * v + 1))) ((nn (2 * v)) * (nn (2 * (hi u) + 1)))))] [aI cI ka 30 (eA lo), aI cI kz 30 (eA hi), oW kl kla ((us lx : Nat) : Int), aI cI kla 12 (wa lx), oW kq kqa ((us qx : Nat) : Int), aI cI kqa 12 (wa qx), oK k h ka kz (ns : Int) kw (nw : Int) j kb a b d g, oH h hl hs (n : Int), aI cI hl 1200 (shA nn), aI cI hs 100 (sgA sg), oB kb kl kr kq, oW kr kra ((us r5 : Nat) : Int), aI cI kra 12 (wa r5), oF a (sg (hi u)) au al, oW au aua ((us (nn (2 * (hi u))) : Nat) : Int), aI cI aua 12 (wa (nn (2 * (hi u)))), oW al ala ((us (nn (2 * (hi u) + 1)) : Nat) : Int), aI cI ala 12 (wa (nn (2 * (hi u) + 1))), oF b (sg v) bu bl, oW bu bua ((us (nn (2 * v)) : Nat) : Int), aI cI bua 12 (wa (nn (2 * v))), oW bl bla ((us (nn (2 * v + 1)) : Nat) : Int), aI cI bla 12 (wa (nn (2 * v + 1))), oF d (suS (sg (hi u)) (-(sg v)) ((nn (2 * (hi u))) * (nn (2 * v + 1))) ((nn (2 * v)) * (nn (2 * (hi u) + 1)))) du dl, oW du dua ((us (suN (sg (hi u)) (-(sg v)) ((nn (2 * (hi u))) * (nn (2 * v + 1))) ((nn (2 * v)) * (nn (2 * (hi u) + 1)))) : Nat) : Int), aI cI dua 12 (wa (suN (sg (hi u)) (-(sg v)) ((nn (2 * (hi u))) * (nn (2 * v + 1))) ((nn (2 * v)) * (nn (2 * (hi u) + 1))))), oW dl dla ((us ((nn (2 * (hi u) + 1)) * (nn (2 * v + 1))) : Nat) : Int), aI cI dla 12 (wa ((nn (2 * (hi u) + 1)) * (nn (2 * v + 1))))]
    refine z_if_lt (tgt := 106) S d_K_within_99 (by decide) (by omega) (fun c2 => ?_) (fun c2 => ?_)
    · skip
      refine z_iconst S d_K_within_106 ?_
      exact z_zret (w := [oK k h ka kz (ns : Int) kw (nw : Int) j kb a b d g, aI cI ka 30 (eA lo), aI cI kz 30 (eA hi), oH h hl hs (n : Int), aI cI hl 1200 (shA nn), aI cI hs 100 (sgA sg), oF a (sg (hi u)) au al, oW au aua ((us (nn (2 * (hi u))) : Nat) : Int), aI cI aua 12 (wa (nn (2 * (hi u)))), oW al ala ((us (nn (2 * (hi u) + 1)) : Nat) : Int), aI cI ala 12 (wa (nn (2 * (hi u) + 1))), oF b (sg v) bu bl, oW bu bua ((us (nn (2 * v)) : Nat) : Int), aI cI bua 12 (wa (nn (2 * v))), oW bl bla ((us (nn (2 * v + 1)) : Nat) : Int), aI cI bla 12 (wa (nn (2 * v + 1))), oF d (suS (sg (hi u)) (-(sg v)) ((nn (2 * (hi u))) * (nn (2 * v + 1))) ((nn (2 * v)) * (nn (2 * (hi u) + 1)))) du dl, oW du dua ((us (suN (sg (hi u)) (-(sg v)) ((nn (2 * (hi u))) * (nn (2 * v + 1))) ((nn (2 * v)) * (nn (2 * (hi u) + 1)))) : Nat) : Int), aI cI dua 12 (wa (suN (sg (hi u)) (-(sg v)) ((nn (2 * (hi u))) * (nn (2 * v + 1))) ((nn (2 * v)) * (nn (2 * (hi u) + 1))))), oW dl dla ((us ((nn (2 * (hi u) + 1)) * (nn (2 * v + 1))) : Nat) : Int), aI cI dla 12 (wa ((nn (2 * (hi u) + 1)) * (nn (2 * v + 1)))), oB kb kl kr kq, oW kl kla ((us lx : Nat) : Int), aI cI kla 12 (wa lx), oW kr kra ((us r5 : Nat) : Int), aI cI kra 12 (wa r5), oW kq kqa ((us qx : Nat) : Int), aI cI kqa 12 (wa qx)]) S hr hlo hAe (by first | exact Or.inl rfl | exact Or.inr rfl) d_K_within_107 [6, 0, 1, 7, 8, 9, 13, 14, 15, 16, 17, 18, 19, 20, 21, 22, 23, 24, 25, 26, 27, 10, 2, 3, 11, 12, 4, 5] (by decide) rfl rfl ⟨Nat.le_refl _, Nat.le_refl _⟩ (⟨sg (hi u), nn (2 * (hi u)), nn (2 * (hi u) + 1), suS (sg (hi u)) (-sg v) (nn (2 * (hi u)) * nn (2 * v + 1)) (nn (2 * v) * nn (2 * (hi u) + 1)), suN (sg (hi u)) (-sg v) (nn (2 * (hi u)) * nn (2 * v + 1)) (nn (2 * v) * nn (2 * (hi u) + 1)), nn (2 * (hi u) + 1) * nn (2 * v + 1), r5, by omega, by omega, by omega, by omega, by omega, by rw [b2_f (by omega)], rfl⟩)
    · skip
      refine z_iconst S d_K_within_102 ?_
      refine z_goto (tgt := 107) S d_K_within_103 (by decide) ?_
      exact z_zret (w := [oK k h ka kz (ns : Int) kw (nw : Int) j kb a b d g, aI cI ka 30 (eA lo), aI cI kz 30 (eA hi), oH h hl hs (n : Int), aI cI hl 1200 (shA nn), aI cI hs 100 (sgA sg), oF a (sg (hi u)) au al, oW au aua ((us (nn (2 * (hi u))) : Nat) : Int), aI cI aua 12 (wa (nn (2 * (hi u)))), oW al ala ((us (nn (2 * (hi u) + 1)) : Nat) : Int), aI cI ala 12 (wa (nn (2 * (hi u) + 1))), oF b (sg v) bu bl, oW bu bua ((us (nn (2 * v)) : Nat) : Int), aI cI bua 12 (wa (nn (2 * v))), oW bl bla ((us (nn (2 * v + 1)) : Nat) : Int), aI cI bla 12 (wa (nn (2 * v + 1))), oF d (suS (sg (hi u)) (-(sg v)) ((nn (2 * (hi u))) * (nn (2 * v + 1))) ((nn (2 * v)) * (nn (2 * (hi u) + 1)))) du dl, oW du dua ((us (suN (sg (hi u)) (-(sg v)) ((nn (2 * (hi u))) * (nn (2 * v + 1))) ((nn (2 * v)) * (nn (2 * (hi u) + 1)))) : Nat) : Int), aI cI dua 12 (wa (suN (sg (hi u)) (-(sg v)) ((nn (2 * (hi u))) * (nn (2 * v + 1))) ((nn (2 * v)) * (nn (2 * (hi u) + 1))))), oW dl dla ((us ((nn (2 * (hi u) + 1)) * (nn (2 * v + 1))) : Nat) : Int), aI cI dla 12 (wa ((nn (2 * (hi u) + 1)) * (nn (2 * v + 1)))), oB kb kl kr kq, oW kl kla ((us lx : Nat) : Int), aI cI kla 12 (wa lx), oW kr kra ((us r5 : Nat) : Int), aI cI kra 12 (wa r5), oW kq kqa ((us qx : Nat) : Int), aI cI kqa 12 (wa qx)]) S hr hlo hAe (by first | exact Or.inl rfl | exact Or.inr rfl) d_K_within_107 [6, 0, 1, 7, 8, 9, 13, 14, 15, 16, 17, 18, 19, 20, 21, 22, 23, 24, 25, 26, 27, 10, 2, 3, 11, 12, 4, 5] (by decide) rfl rfl ⟨Nat.le_refl _, Nat.le_refl _⟩ (⟨sg (hi u), nn (2 * (hi u)), nn (2 * (hi u) + 1), suS (sg (hi u)) (-sg v) (nn (2 * (hi u)) * nn (2 * v + 1)) (nn (2 * v) * nn (2 * (hi u) + 1)), suN (sg (hi u)) (-sg v) (nn (2 * (hi u)) * nn (2 * v + 1)) (nn (2 * v) * nn (2 * (hi u) + 1)), nn (2 * (hi u) + 1) * nn (2 * v + 1), r5, by omega, by omega, by omega, by omega, by omega, by rw [b2_t (by omega)], rfl⟩)
  · skip
    refine z_iconst S d_K_within_61 ?_
    exact z_zret (w := [oK k h ka kz (ns : Int) kw (nw : Int) j kb a b d g, aI cI ka 30 (eA lo), aI cI kz 30 (eA hi), oH h hl hs (n : Int), aI cI hl 1200 (shA nn), aI cI hs 100 (sgA sg), oF a (sg (lo u)) au al, oW au aua ((us (nn (2 * (lo u))) : Nat) : Int), aI cI aua 12 (wa (nn (2 * (lo u)))), oW al ala ((us (nn (2 * (lo u) + 1)) : Nat) : Int), aI cI ala 12 (wa (nn (2 * (lo u) + 1))), oF b (sg v) bu bl, oW bu bua ((us (nn (2 * v)) : Nat) : Int), aI cI bua 12 (wa (nn (2 * v))), oW bl bla ((us (nn (2 * v + 1)) : Nat) : Int), aI cI bla 12 (wa (nn (2 * v + 1))), oF d (suS (sg (lo u)) (-(sg v)) ((nn (2 * (lo u))) * (nn (2 * v + 1))) ((nn (2 * v)) * (nn (2 * (lo u) + 1)))) du dl, oW du dua ((us (suN (sg (lo u)) (-(sg v)) ((nn (2 * (lo u))) * (nn (2 * v + 1))) ((nn (2 * v)) * (nn (2 * (lo u) + 1)))) : Nat) : Int), aI cI dua 12 (wa (suN (sg (lo u)) (-(sg v)) ((nn (2 * (lo u))) * (nn (2 * v + 1))) ((nn (2 * v)) * (nn (2 * (lo u) + 1))))), oW dl dla ((us ((nn (2 * (lo u) + 1)) * (nn (2 * v + 1))) : Nat) : Int), aI cI dla 12 (wa ((nn (2 * (lo u) + 1)) * (nn (2 * v + 1)))), oB kb kl kr kq, oW kl kla ((us lx : Nat) : Int), aI cI kla 12 (wa lx), oW kr kra ((us r4 : Nat) : Int), aI cI kra 12 (wa r4), oW kq kqa ((us qx : Nat) : Int), aI cI kqa 12 (wa qx)]) S hr hlo hAe (by first | exact Or.inl rfl | exact Or.inr rfl) d_K_within_62 [6, 0, 1, 7, 8, 9, 13, 14, 15, 16, 17, 18, 19, 20, 21, 22, 23, 24, 25, 26, 27, 10, 2, 3, 11, 12, 4, 5] (by decide) rfl rfl ⟨Nat.le_refl _, Nat.le_refl _⟩ (⟨sg (lo u), nn (2 * (lo u)), nn (2 * (lo u) + 1), suS (sg (lo u)) (-sg v) (nn (2 * (lo u)) * nn (2 * v + 1)) (nn (2 * v) * nn (2 * (lo u) + 1)), suN (sg (lo u)) (-sg v) (nn (2 * (lo u)) * nn (2 * v + 1)) (nn (2 * v) * nn (2 * (lo u) + 1)), nn (2 * (lo u) + 1) * nn (2 * v + 1), r4, by omega, by omega, by omega, by omega, by omega, by rw [b2_f (by omega)], rfl⟩)
set_option maxHeartbeats 4000000 in
set_option maxRecDepth 100000 in
theorem t1_K_within (l : Launch) (dC : Nat → ClassId) (dI : Nat → Nat → Nat) (cI cL : ClassId) (qT : Nat) (hst : l.stackTraces = false) (k : Nat) (ka : Nat) (kz : Nat) (ns : Nat) (kw : Nat) (nw : Nat) (j : Nat) (kb : Nat) (a : Nat) (b : Nat) (d : Nat) (g : Nat) (h : Nat) (u : Int) (v : Int) (hns : ns ≤ 30) (hur : -2147483648 ≤ u ∧ u < 2147483648) (hu : ¬ (0 ≤ u ∧ u < (ns : Int))) : Tm l y_K_within (Cond.code y_K_within c_K_within 3 (some .boolean) :: zB) { frames := 7, cells := 1, slots := 6, locals := 131 } (dC, dI) zcl [(cI, .int), (cL, .long)] (zG cI cL qT) [.ref k, .int (zI u), .int (zI v)] [oK k h ka kz (ns : Int) kw (nw : Int) j kb a b d g] "java/lang/IndexOutOfBoundsException" (fun wv => wv = [oK k h ka kz (ns : Int) kw (nw : Int) j kb a b d g]) 1 6 := by
  refine Tm.ofZ (cc := c_K_within) (maxL := 3) (ret := (some .boolean)) (by decide) rfl (Nat.le_of_ble_eq_true rfl) rfl ?_
  intro p e s m below meth c A S hr hlo hnm hK hg hA hAe htab
  have hGok := zG_ok cI cL qT
  show ZZ _ _ _ _ _ _ _ _ _ _ _ _ _ _ _ _ _ _ 0 [(0, .ref k), (1, .int (zI u)), (2, .int (zI v))] [] [oK k h ka kz (ns : Int) kw (nw : Int) j kb a b d g]
  refine z_aload_n S d_K_within_0 0 rfl ?_
  refine z_iload_n S d_K_within_1 1 rfl ?_
  refine z_outV (As := [.int (zI u)]) (st := []) (wc := [oK k h ka kz (ns : Int) kw (nw : Int) j kb a b d g]) (wr := []) S hGok hK hg hA hlo hAe htab (t_K_needSpan l dC dI cI cL qT hst k ka kz ns kw nw j kb a b d g h u (by omega) (by omega) hu) (zcwV S (List.mem_cons_of_mem _ k_K_142) mV_K_needSpan k_K_142 hd_K_needSpan rfl rfl ⟨Nat.le_of_ble_eq_true rfl, Nat.le_of_ble_eq_true rfl⟩) rfl (Nat.le_of_ble_eq_true rfl) d_K_within_2 ⟨Nat.le_of_ble_eq_true rfl, Nat.le_of_ble_eq_true rfl⟩ ⟨Nat.le_refl _, Nat.le_refl _⟩ rfl [0] [] 0 rfl rfl rfl (by decide) rfl rfl rfl (by decide) (by decide) (fun w hp => ?_)
  subst hp
  exact ⟨[oK k h ka kz (ns : Int) kw (nw : Int) j kb a b d g], rfl, [0], by decide, rfl⟩
set_option maxHeartbeats 4000000 in
set_option maxRecDepth 100000 in
theorem t2_K_within (l : Launch) (dC : Nat → ClassId) (dI : Nat → Nat → Nat) (cI cL : ClassId) (qT : Nat) (hst : l.stackTraces = false) (k : Nat) (ka : Nat) (kz : Nat) (ns : Nat) (kw : Nat) (nw : Nat) (j : Nat) (kb : Nat) (a : Nat) (b : Nat) (d : Nat) (g : Nat) (h : Nat) (hl : Nat) (hs : Nat) (n : Nat) (u : Nat) (v : Int) (hn : n ≤ 100) (hns : ns ≤ 30) (hu : u < ns) (hvr : -2147483648 ≤ v ∧ v < 2147483648) (hv : ¬ (0 ≤ v ∧ v < (n : Int))) : Tm l y_K_within (Cond.code y_K_within c_K_within 3 (some .boolean) :: zB) { frames := 7, cells := 1, slots := 6, locals := 131 } (dC, dI) zcl [(cI, .int), (cL, .long)] (zG cI cL qT) [.ref k, .int (zI (u : Int)), .int (zI v)] [oK k h ka kz (ns : Int) kw (nw : Int) j kb a b d g, oH h hl hs (n : Int)] "java/lang/IndexOutOfBoundsException" (fun wv => wv = [oK k h ka kz (ns : Int) kw (nw : Int) j kb a b d g, oH h hl hs (n : Int)]) 1 6 := by
  refine Tm.ofZ (cc := c_K_within) (maxL := 3) (ret := (some .boolean)) (by decide) rfl (Nat.le_of_ble_eq_true rfl) rfl ?_
  intro p e s m below meth c A S hr hlo hnm hK hg hA hAe htab
  have hGok := zG_ok cI cL qT
  show ZZ _ _ _ _ _ _ _ _ _ _ _ _ _ _ _ _ _ _ 0 [(0, .ref k), (1, .int (zI (u : Int))), (2, .int (zI v))] [] [oK k h ka kz (ns : Int) kw (nw : Int) j kb a b d g, oH h hl hs (n : Int)]
  refine z_aload_n S d_K_within_0 0 rfl ?_
  refine z_iload_n S d_K_within_1 1 rfl ?_
  refine z_callVv (As := [.int (zI (u : Int))]) (st := []) (wc := [oK k h ka kz (ns : Int) kw (nw : Int) j kb a b d g]) (wr := [oH h hl hs (n : Int)]) S hGok hK hg hA (s_K_needSpan l dC dI cI cL qT k ka kz ns kw nw j kb a b d g h (u : Int) (by omega) (by omega)) (zcwV S (List.mem_cons_of_mem _ k_K_142) mV_K_needSpan k_K_142 hd_K_needSpan rfl rfl ⟨Nat.le_of_ble_eq_true rfl, Nat.le_of_ble_eq_true rfl⟩) rfl (Nat.le_of_ble_eq_true rfl) d_K_within_2 ⟨Nat.le_of_ble_eq_true rfl, Nat.le_of_ble_eq_true rfl⟩ rfl [0] [1] 0 rfl rfl rfl (by decide) rfl rfl rfl (by decide) (by decide) (fun w hp => ?_)
  subst hp
  show ZZ _ _ _ _ _ _ _ _ _ _ _ _ _ _ _ _ _ _ 5 [(0, .ref k), (1, .int (zI (u : Int))), (2, .int (zI v))] [] [oH h hl hs (n : Int), oK k h ka kz (ns : Int) kw (nw : Int) j kb a b d g]
  refine z_aload_n S d_K_within_5 0 rfl ?_
  refine z_iload_n S d_K_within_6 2 rfl ?_
  refine z_outV (As := [.int (zI v)]) (st := []) (wc := [oK k h ka kz (ns : Int) kw (nw : Int) j kb a b d g, oH h hl hs (n : Int)]) (wr := []) S hGok hK hg hA hlo hAe htab (t_K_needValue l dC dI cI cL qT hst k ka kz ns kw nw j kb a b d g h hl hs n v (by omega) (by omega) hv) (zcwV S (List.mem_cons_of_mem _ k_K_107) mV_K_needValue k_K_107 hd_K_needValue rfl rfl ⟨Nat.le_of_ble_eq_true rfl, Nat.le_of_ble_eq_true rfl⟩) rfl (Nat.le_of_ble_eq_true rfl) d_K_within_7 ⟨Nat.le_of_ble_eq_true rfl, Nat.le_of_ble_eq_true rfl⟩ ⟨Nat.le_refl _, Nat.le_refl _⟩ rfl [1, 0] [] 1 rfl rfl rfl (by decide) rfl rfl rfl (by decide) (by decide) (fun w hp => ?_)
  subst hp
  exact ⟨[oK k h ka kz (ns : Int) kw (nw : Int) j kb a b d g, oH h hl hs (n : Int)], rfl, [0, 1], by decide, rfl⟩
