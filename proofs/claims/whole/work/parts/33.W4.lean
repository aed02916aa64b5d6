set_option maxHeartbeats 4000000 in
set_option maxRecDepth 100000 in
theorem s_W_becomeProduct (l : Launch) (dC : Nat → ClassId) (dI : Nat → Nat → Nat) (cI cL : ClassId) (qT : Nat) (q : Nat) (qa : Nat) (u : Int) (f : Nat → Int32) (r : Nat) (ra : Nat) (x : Nat) (t : Nat) (ta : Nat) (y : Nat) (hf : ∀ j, 12 ≤ j → f j = zI 0) (hx : x < 1000000000 ^ 12) (hy : y < 1000000000 ^ 12) (hxy : x * y < 1000000000 ^ 12) : Cv l y_W_becomeProduct (Cond.code y_W_becomeProduct c_W_becomeProduct 7 none :: zB) { frames := 1, cells := 0, slots := 0, locals := 21 } (dC, dI) zcl [(cI, .int), (cL, .long)] (zG cI cL qT) [.ref q, .ref r, .ref t] [oW q qa u, aI cI qa 12 f, oW r ra ((us x : Nat) : Int), aI cI ra 12 (wa x), oW t ta ((us y : Nat) : Int), aI cI ta 12 (wa y)] (fun wv => wv = [oW q qa ((us (x * y) : Nat) : Int), aI cI qa 12 (wa (x * y)), oW r ra ((us x : Nat) : Int), aI cI ra 12 (wa x), oW t ta ((us y : Nat) : Int), aI cI ta 12 (wa y)]) 0 0 := by
  refine Cm.ofZ (cc := c_W_becomeProduct) (maxL := 7) (ret := none) (by decide) rfl (Nat.le_of_ble_eq_true rfl) rfl ?_
  intro p e s m below meth c A S hr hlo hnm hK hg hA hAe
  have hGok := zG_ok cI cL qT
  show ZZ _ _ _ _ _ _ _ _ _ _ _ _ _ _ _ _ _ _ 0 [(0, .ref q), (1, .ref r), (2, .ref t)] [] [oW q qa u, aI cI qa 12 f, oW r ra ((us x : Nat) : Int), aI cI ra 12 (wa x), oW t ta ((us y : Nat) : Int), aI cI ta 12 (wa y)]
  have hu1 := us_le x
  have hu2 := us_le y
  refine z_aload_n S d_W_becomeProduct_0 0 rfl ?_
  refine z_callVv (As := []) (st := []) (wc := [oW q qa u, aI cI qa 12 f]) (wr := [oW r ra ((us x : Nat) : Int), aI cI ra 12 (wa x), oW t ta ((us y : Nat) : Int), aI cI ta 12 (wa y)]) S hGok hK hg hA (s_W_becomeZero l dC dI cI cL qT q qa u f hf) (zcwV S (List.mem_cons_of_mem _ k_W_30) mV_W_becomeZero k_W_30 hd_W_becomeZero rfl rfl ⟨Nat.le_of_ble_eq_true rfl, Nat.le_of_ble_eq_true rfl⟩) rfl (Nat.le_of_ble_eq_true rfl) d_W_becomeProduct_1 ⟨Nat.le_of_ble_eq_true rfl, Nat.le_of_ble_eq_true rfl⟩ rfl [0, 1] [2, 3, 4, 5] 0 rfl rfl rfl (by decide) rfl rfl rfl (by decide) (by decide) (fun w hp => ?_)
  subst hp
  show ZZ _ _ _ _ _ _ _ _ _ _ _ _ _ _ _ _ _ _ 4 [(0, .ref q), (1, .ref r), (2, .ref t)] [] [oW r ra ((us x : Nat) : Int), aI cI ra 12 (wa x), oW t ta ((us y : Nat) : Int), aI cI ta 12 (wa y), oW q qa ((us 0 : Nat) : Int), aI cI qa 12 (wa 0)]
  refine z_iconst S d_W_becomeProduct_4 ?_
  refine z_istore_n (lv' := [(3, .int (zI 0)), (0, .ref q), (1, .ref r), (2, .ref t)]) S d_W_becomeProduct_5 rfl (by decide) rfl ?_
  refine z_lv (lv' := [(0, .ref q), (1, .ref r), (2, .ref t), (3, .int (zI 0))]) [1, 2, 3, 0] rfl ?_
  refine z_ws (ws' := [oW q qa ((us 0 : Nat) : Int), aI cI qa 12 (wa 0), oW r ra ((us x : Nat) : Int), aI cI ra 12 (wa x), oW t ta ((us y : Nat) : Int), aI cI ta 12 (wa y)]) [4, 5, 0, 1, 2, 3] (by decide) rfl rfl ?_
  refine z_wq (ws' := [oW q qa ((us 0 : Nat) : Int), aI cI qa 12 (wa (x % 1000000000 ^ 0 * y)), oW r ra ((us x : Nat) : Int), aI cI ra 12 (wa x), oW t ta ((us y : Nat) : Int), aI cI ta 12 (wa y)]) (by rw [show x % 1000000000 ^ 0 * y = 0 by rw [Nat.pow_zero, Nat.mod_one, Nat.zero_mul]]) ?_
  refine z_lq (lv' := [(0, .ref q), (1, .ref r), (2, .ref t), (3, .int (zI ((0 : Nat) : Int)))]) (congrArg (fun zzz : Int => ([(0, .ref q), (1, .ref r), (2, .ref t), (3, .int (zI zzz))] : List (Nat × Value))) (show (0 : Int) = ((0 : Nat) : Int) by omega)) ?_
  refine z_loop (I := fun (i : Nat) => (i ≤ us x)) (μ := fun (i : Nat) => us x - i) (LV := fun (i : Nat) => [(0, .ref q), (1, .ref r), (2, .ref t), (3, .int (zI (i : Int)))]) (WS := fun (i : Nat) => [oW q qa ((us 0 : Nat) : Int), aI cI qa 12 (wa (x % 1000000000 ^ i * y)), oW r ra ((us x : Nat) : Int), aI cI ra 12 (wa x), oW t ta ((us y : Nat) : Int), aI cI ta 12 (wa y)]) (a := 0) ?_ ?_
  · exact (show (0 ≤ us x) from by omega)
  · intro i hI ih6
    have hi : i ≤ us x := hI
    show ZZ _ _ _ _ _ _ _ _ _ _ _ _ _ _ _ _ _ _ 6 [(0, .ref q), (1, .ref r), (2, .ref t), (3, .int (zI (i : Int)))] [] [oW q qa ((us 0 : Nat) : Int), aI cI qa 12 (wa (x % 1000000000 ^ i * y)), oW r ra ((us x : Nat) : Int), aI cI ra 12 (wa x), oW t ta ((us y : Nat) : Int), aI cI ta 12 (wa y)]
    have hZP : x % 1000000000 ^ (i + 1) * y = x % 1000000000 ^ i * y + dg 1000000000 x i * y * 1000000000 ^ i := md_y 1000000000 x y i
    have hZl : x % 1000000000 ^ (i + 1) * y < 1000000000 ^ 12 := md_le hxy
    have hPl : x % 1000000000 ^ i * y < 1000000000 ^ 12 := md_le hxy
    have ld := dg_lt (b := 1000000000) (by decide) x i
    refine z_iload_n S d_W_becomeProduct_6 3 rfl ?_
    refine z_aload_n S d_W_becomeProduct_7 1 rfl ?_
    refine z_get S hK la_W 2 rfl rfl 1 (by decide) k_W_15 rfl d_W_becomeProduct_8 ?_
    refine z_icmp_ge (tgt := 109) S d_W_becomeProduct_11 (by decide) (by omega) (by omega) (fun c1 => ?_) (fun c1 => ?_)
    · skip
      refine z_wq (ws' := [oW q qa ((us 0 : Nat) : Int), aI cI qa 12 (wa (x * y)), oW r ra ((us x : Nat) : Int), aI cI ra 12 (wa x), oW t ta ((us y : Nat) : Int), aI cI ta 12 (wa y)]) (by rw [md_top hx (by omega)]) ?_
      refine z_aload_n S d_W_becomeProduct_109 0 rfl ?_
      refine z_bipush S d_W_becomeProduct_110 rfl ?_
      refine z_callVv (As := [.int (zI 12)]) (st := []) (wc := [oW q qa ((us 0 : Nat) : Int), aI cI qa 12 (wa (x * y))]) (wr := [oW r ra ((us x : Nat) : Int), aI cI ra 12 (wa x), oW t ta ((us y : Nat) : Int), aI cI ta 12 (wa y)]) S hGok hK hg hA (s_W_dropZerosFrom l dC dI cI cL qT q qa ((us 0 : Nat) : Int) (x * y) 12 hxy (Nat.le_refl 12)) (zcwV S (List.mem_cons_of_mem _ k_W_33) mV_W_dropZerosFrom k_W_33 hd_W_dropZerosFrom rfl rfl ⟨Nat.le_of_ble_eq_true rfl, Nat.le_of_ble_eq_true rfl⟩) rfl (Nat.le_of_ble_eq_true rfl) d_W_becomeProduct_112 ⟨Nat.le_of_ble_eq_true rfl, Nat.le_of_ble_eq_true rfl⟩ rfl [0, 1] [2, 3, 4, 5] 0 rfl rfl rfl (by decide) rfl rfl rfl (by decide) (by decide) (fun w hp => ?_)
      subst hp
      show ZZ _ _ _ _ _ _ _ _ _ _ _ _ _ _ _ _ _ _ 115 [(0, .ref q), (1, .ref r), (2, .ref t), (3, .int (zI (i : Int)))] [] [oW r ra ((us x : Nat) : Int), aI cI ra 12 (wa x), oW t ta ((us y : Nat) : Int), aI cI ta 12 (wa y), oW q qa ((us (x * y) : Nat) : Int), aI cI qa 12 (wa (x * y))]
      exact z_vret (w := [oW q qa ((us (x * y) : Nat) : Int), aI cI qa 12 (wa (x * y)), oW r ra ((us x : Nat) : Int), aI cI ra 12 (wa x), oW t ta ((us y : Nat) : Int), aI cI ta 12 (wa y)]) S hr hlo hAe d_W_becomeProduct_115 [4, 5, 0, 1, 2, 3] (by decide) rfl rfl ⟨Nat.le_refl _, Nat.le_refl _⟩ (rfl)
    · skip
      refine z_lconst (z := 0) S d_W_becomeProduct_14 rfl ?_
      refine z_lstore (lv' := [(4, .long (zL 0)), (0, .ref q), (1, .ref r), (2, .ref t), (3, .int (zI (i : Int)))]) S d_W_becomeProduct_15 (by decide) rfl ?_
      refine z_iconst S d_W_becomeProduct_17 ?_
      refine z_istore (lv' := [(6, .int (zI 0)), (4, .long (zL 0)), (0, .ref q), (1, .ref r), (2, .ref t), (3, .int (zI (i : Int)))]) S d_W_becomeProduct_18 (by decide) rfl ?_
      refine z_lv (lv' := [(0, .ref q), (1, .ref r), (2, .ref t), (3, .int (zI (i : Int))), (4, .long (zL 0)), (6, .int (zI 0))]) [2, 3, 4, 5, 1, 0] rfl ?_
      refine z_wq (ws' := [oW q qa ((us 0 : Nat) : Int), aI cI qa 12 (mx (wa (x % 1000000000 ^ (i + 1) * y)) (wa (x % 1000000000 ^ i * y)) (i + 0)), oW r ra ((us x : Nat) : Int), aI cI ra 12 (wa x), oW t ta ((us y : Nat) : Int), aI cI ta 12 (wa y)]) (by rw [show i + 0 = i from rfl, mx_s (fun j hj => wa_e (by rw [hZP, dg_low (by decide) hj]))]) ?_
      refine z_lq (lv' := [(0, .ref q), (1, .ref r), (2, .ref t), (3, .int (zI (i : Int))), (4, .long (zL ((0 : Nat) : Int))), (6, .int (zI ((0 : Nat) : Int)))]) (Eq.trans ((congrArg (fun zzz : Int => ([(0, .ref q), (1, .ref r), (2, .ref t), (3, .int (zI (i : Int))), (4, .long (zL zzz)), (6, .int (zI 0))] : List (Nat × Value))) (show (0 : Int) = ((0 : Nat) : Int) by omega))) (congrArg (fun zzz : Int => ([(0, .ref q), (1, .ref r), (2, .ref t), (3, .int (zI (i : Int))), (4, .long (zL ((0 : Nat) : Int))), (6, .int (zI zzz))] : List (Nat × Value))) (show (0 : Int) = ((0 : Nat) : Int) by omega))) ?_
      refine z_loop (I := fun (zz : Nat × Nat) => match zz with | (j, cy) => (i + j ≤ 12) ∧ (cy < 1000000000) ∧ ((x % 1000000000 ^ (i + 1) * y) / 1000000000 ^ i / 1000000000 ^ j = (x % 1000000000 ^ i * y) / 1000000000 ^ i / 1000000000 ^ j + dg 1000000000 x i * (y / 1000000000 ^ j) + cy)) (μ := fun (zz : Nat × Nat) => match zz with | (j, cy) => 12 - j) (LV := fun (zz : Nat × Nat) => match zz with | (j, cy) => [(0, .ref q), (1, .ref r), (2, .ref t), (3, .int (zI (i : Int))), (4, .long (zL (cy : Int))), (6, .int (zI (j : Int)))]) (WS := fun (zz : Nat × Nat) => match zz with | (j, cy) => [oW q qa ((us 0 : Nat) : Int), aI cI qa 12 (mx (wa (x % 1000000000 ^ (i + 1) * y)) (wa (x % 1000000000 ^ i * y)) (i + j)), oW r ra ((us x : Nat) : Int), aI cI ra 12 (wa x), oW t ta ((us y : Nat) : Int), aI cI ta 12 (wa y)]) (a := (0, 0)) ?_ ?_
      · exact (show (i + 0 ≤ 12) ∧ (0 < 1000000000) ∧ ((x % 1000000000 ^ (i + 1) * y) / 1000000000 ^ i / 1000000000 ^ 0 = (x % 1000000000 ^ i * y) / 1000000000 ^ i / 1000000000 ^ 0 + dg 1000000000 x i * (y / 1000000000 ^ 0) + 0) from ⟨by omega, by omega, by rw [dv_0, dv_0, dv_0, hZP, dv_up (by decide), Nat.add_zero]⟩)
      · intro ⟨j, cy⟩ hI ih20
        obtain ⟨hj, hcy, hz⟩ : (i + j ≤ 12) ∧ (cy < 1000000000) ∧ ((x % 1000000000 ^ (i + 1) * y) / 1000000000 ^ i / 1000000000 ^ j = (x % 1000000000 ^ i * y) / 1000000000 ^ i / 1000000000 ^ j + dg 1000000000 x i * (y / 1000000000 ^ j) + cy) := hI
        show ZZ _ _ _ _ _ _ _ _ _ _ _ _ _ _ _ _ _ _ 20 [(0, .ref q), (1, .ref r), (2, .ref t), (3, .int (zI (i : Int))), (4, .long (zL (cy : Int))), (6, .int (zI (j : Int)))] [] [oW q qa ((us 0 : Nat) : Int), aI cI qa 12 (mx (wa (x % 1000000000 ^ (i + 1) * y)) (wa (x % 1000000000 ^ i * y)) (i + j)), oW r ra ((us x : Nat) : Int), aI cI ra 12 (wa x), oW t ta ((us y : Nat) : Int), aI cI ta 12 (wa y)]
        refine z_iload_n S d_W_becomeProduct_20 3 rfl ?_
        refine z_iload S d_W_becomeProduct_21 5 rfl ?_
        refine z_iadd S d_W_becomeProduct_23 ?_
        refine z_bipush S d_W_becomeProduct_24 rfl ?_
        refine z_icmp_ge (tgt := 103) S d_W_becomeProduct_26 (by decide) (by omega) (by omega) (fun c2 => ?_) (fun c2 => ?_)
        · skip
          refine z_wq (ws' := [oW q qa ((us 0 : Nat) : Int), aI cI qa 12 (wa (x % 1000000000 ^ (i + 1) * y)), oW r ra ((us x : Nat) : Int), aI cI ra 12 (wa x), oW t ta ((us y : Nat) : Int), aI cI ta 12 (wa y)]) (by rw [show i + j = 12 by omega, mx_e (wa_2 hZl hPl)]) ?_
          refine z_iinc (y := ((i + 1 : Nat) : Int)) (lv' := [(3, .int (zI ((i + 1 : Nat) : Int))), (0, .ref q), (1, .ref r), (2, .ref t), (4, .long (zL (cy : Int))), (6, .int (zI (j : Int)))]) S d_W_becomeProduct_103 3 rfl (by omega) (by decide) rfl ?_
          refine z_goto (tgt := 6) S d_W_becomeProduct_106 (by decide) ?_
          refine z_lv (lv' := [(0, .ref q), (1, .ref r), (2, .ref t), (3, .int (zI ((i + 1 : Nat) : Int)))]) [1, 2, 3, 0] rfl ?_
          exact ih6 (i + 1) (show ((i + 1) ≤ us x) from by omega) (show us x - (i + 1) < us x - i from by omega)
        · skip
          refine z_iload S d_W_becomeProduct_29 5 rfl ?_
          refine z_aload_n S d_W_becomeProduct_31 2 rfl ?_
          refine z_get S hK la_W 4 rfl rfl 1 (by decide) k_W_15 rfl d_W_becomeProduct_32 ?_
          refine z_icmp_lt (tgt := 45) S d_W_becomeProduct_35 (by decide) (by omega) (by omega) (fun c3 => ?_) (fun c3 => ?_)
          · skip
            refine z_lload S d_W_becomeProduct_45 4 rfl ?_
            refine z_aload_n S d_W_becomeProduct_47 0 rfl ?_
            refine z_get S hK la_W 0 rfl rfl 0 (by decide) k_W_9 rfl d_W_becomeProduct_48 ?_
            refine z_iload_n S d_W_becomeProduct_51 3 rfl ?_
            refine z_iload S d_W_becomeProduct_52 5 rfl ?_
            refine z_iadd S d_W_becomeProduct_54 ?_
            refine z_iald (x := ((dg 1000000000 (x % 1000000000 ^ i * y) (i + j) : Nat) : Int)) S hK 1 0 rfl rfl (i + j) (by omega) (by omega) (by decide) (mx_hi (Nat.le_refl _)) d_W_becomeProduct_55 ?_
            refine z_i2l S d_W_becomeProduct_56 (by have := dg_lt (b := 1000000000) (by decide) (x % 1000000000 ^ i * y) (i + j); omega) ?_
            refine z_aload_n S d_W_becomeProduct_57 1 rfl ?_
            refine z_iload_n S d_W_becomeProduct_58 3 rfl ?_
            refine z_callVa (As := [.int (zI (i : Int))]) (st := [.long (zL ((dg 1000000000 (x % 1000000000 ^ i * y) (i + j) : Nat) : Int)), .long (zL (cy : Int))]) (wc := [oW r ra ((us x : Nat) : Int), aI cI ra 12 (wa x)]) (wr := [oW q qa ((us 0 : Nat) : Int), aI cI qa 12 (mx (wa (x % 1000000000 ^ (i + 1) * y)) (wa (x % 1000000000 ^ i * y)) (i + j)), oW t ta ((us y : Nat) : Int), aI cI ta 12 (wa y)]) S hGok hK hg hA (s_W_limbAt l dC dI cI cL qT r ra x (i : Int) (by omega) (by omega)) (zcwV S (List.mem_cons_of_mem _ k_W_19) mV_W_limbAt k_W_19 hd_W_limbAt rfl rfl ⟨Nat.le_of_ble_eq_true rfl, Nat.le_of_ble_eq_true rfl⟩) rfl (Nat.le_of_ble_eq_true rfl) d_W_becomeProduct_59 ⟨Nat.le_of_ble_eq_true rfl, Nat.le_of_ble_eq_true rfl⟩ rfl [2, 3] [0, 1, 4, 5] 2 rfl rfl rfl (by decide) rfl rfl rfl (by decide) (by decide) (fun x w hp => ?_)
            obtain ⟨rfl, rfl⟩ := hp
            show ZZ _ _ _ _ _ _ _ _ _ _ _ _ _ _ _ _ _ _ 62 [(0, .ref q), (1, .ref r), (2, .ref t), (3, .int (zI (i : Int))), (4, .long (zL (cy : Int))), (6, .int (zI (j : Int)))] [.long (zL ((lbI x (i : Int) : Nat) : Int)), .long (zL ((dg 1000000000 (x % 1000000000 ^ i * y) (i + j) : Nat) : Int)), .long (zL (cy : Int))] [oW q qa ((us 0 : Nat) : Int), aI cI qa 12 (mx (wa (x % 1000000000 ^ (i + 1) * y)) (wa (x % 1000000000 ^ i * y)) (i + j)), oW t ta ((us y : Nat) : Int), aI cI ta 12 (wa y), oW r ra ((us x : Nat) : Int), aI cI ra 12 (wa x)]
            refine z_aload_n S d_W_becomeProduct_62 2 rfl ?_
            refine z_iload S d_W_becomeProduct_63 5 rfl ?_
            refine z_callVa (As := [.int (zI (j : Int))]) (st := [.long (zL ((lbI x (i : Int) : Nat) : Int)), .long (zL ((dg 1000000000 (x % 1000000000 ^ i * y) (i + j) : Nat) : Int)), .long (zL (cy : Int))]) (wc := [oW t ta ((us y : Nat) : Int), aI cI ta 12 (wa y)]) (wr := [oW q qa ((us 0 : Nat) : Int), aI cI qa 12 (mx (wa (x % 1000000000 ^ (i + 1) * y)) (wa (x % 1000000000 ^ i * y)) (i + j)), oW r ra ((us x : Nat) : Int), aI cI ra 12 (wa x)]) S hGok hK hg hA (s_W_limbAt l dC dI cI cL qT t ta y (j : Int) (by omega) (by omega)) (zcwV S (List.mem_cons_of_mem _ k_W_19) mV_W_limbAt k_W_19 hd_W_limbAt rfl rfl ⟨Nat.le_of_ble_eq_true rfl, Nat.le_of_ble_eq_true rfl⟩) rfl (Nat.le_of_ble_eq_true rfl) d_W_becomeProduct_65 ⟨Nat.le_of_ble_eq_true rfl, Nat.le_of_ble_eq_true rfl⟩ rfl [2, 3] [0, 1, 4, 5] 2 rfl rfl rfl (by decide) rfl rfl rfl (by decide) (by decide) (fun x w hp => ?_)
            obtain ⟨rfl, rfl⟩ := hp
            show ZZ _ _ _ _ _ _ _ _ _ _ _ _ _ _ _ _ _ _ 68 [(0, .ref q), (1, .ref r), (2, .ref t), (3, .int (zI (i : Int))), (4, .long (zL (cy : Int))), (6, .int (zI (j : Int)))] [.long (zL ((lbI y (j : Int) : Nat) : Int)), .long (zL ((lbI x (i : Int) : Nat) : Int)), .long (zL ((dg 1000000000 (x % 1000000000 ^ i * y) (i + j) : Nat) : Int)), .long (zL (cy : Int))] [oW q qa ((us 0 : Nat) : Int), aI cI qa 12 (mx (wa (x % 1000000000 ^ (i + 1) * y)) (wa (x % 1000000000 ^ i * y)) (i + j)), oW r ra ((us x : Nat) : Int), aI cI ra 12 (wa x), oW t ta ((us y : Nat) : Int), aI cI ta 12 (wa y)]
            refine z_lmul S d_W_becomeProduct_68 ?_
            refine z_ladd S d_W_becomeProduct_69 ?_
            refine z_ladd S d_W_becomeProduct_70 ?_
            refine z_topl (fun x4 ex4 => ?_)
            refine z_lstore (lv' := [(4, .long (zL x4)), (0, .ref q), (1, .ref r), (2, .ref t), (3, .int (zI (i : Int))), (6, .int (zI (j : Int)))]) S d_W_becomeProduct_71 (by decide) rfl ?_
            obtain ⟨k, hk⟩ : ∃ k : Nat, k = cy + (dg 1000000000 ((x % 1000000000 ^ i * y) / 1000000000 ^ i) j + dg 1000000000 x i * dg 1000000000 y j) := ⟨_, rfl⟩
            have hx1 : x4 = (k : Int) := by rw [ex4, lbI_e i rfl, lbI_e j rfl, dg_sh', hk]; push_cast; rfl
            have hp := pr_le ld (dg_lt (b := 1000000000) (by decide) y j)
            have l2 := dg_lt (b := 1000000000) (by decide) ((x % 1000000000 ^ i * y) / 1000000000 ^ i) j
            have hdz := dg_sh' 1000000000 (x % 1000000000 ^ (i + 1) * y) i j
            obtain ⟨g1, g2⟩ := st_mul hz
            rw [← hk] at g1 g2
            refine z_aload_n S d_W_becomeProduct_73 1 rfl ?_
            refine z_get S hK la_W 0 rfl rfl 0 (by decide) k_W_9 rfl d_W_becomeProduct_74 ?_
            refine z_iload_n S d_W_becomeProduct_77 4 rfl ?_
            refine z_iload S d_W_becomeProduct_78 5 rfl ?_
            refine z_iadd S d_W_becomeProduct_80 ?_
            refine z_lload S d_W_becomeProduct_81 0 rfl ?_
            refine z_ldc2 (v := 1000000000) (z := 1000000000) S k_W_23 d_W_becomeProduct_83 (by decide) ?_
            refine z_lrem S d_W_becomeProduct_86 (by omega) (by omega) ?_
            refine z_l2i S d_W_becomeProduct_87 ?_
            refine z_topi (fun x5 ex5 => ?_)
            refine z_iast (f' := mx (wa (x % 1000000000 ^ (i + 1) * y)) (wa (x % 1000000000 ^ i * y)) (i + (j + 1))) (ws' := [oW q qa ((us 0 : Nat) : Int), aI cI qa 12 (mx (wa (x % 1000000000 ^ (i + 1) * y)) (wa (x % 1000000000 ^ i * y)) (i + (j + 1))), oW r ra ((us x : Nat) : Int), aI cI ra 12 (wa x), oW t ta ((us y : Nat) : Int), aI cI ta 12 (wa y)]) S hK 1 0 rfl rfl (i + j) (by omega) (by omega) (by decide) (mx_up (zI_c (by omega))) rfl d_W_becomeProduct_88 ?_
            refine z_lload S d_W_becomeProduct_89 0 rfl ?_
            refine z_ldc2 (v := 1000000000) (z := 1000000000) S k_W_23 d_W_becomeProduct_91 (by decide) ?_
            refine z_ldiv S d_W_becomeProduct_94 (by omega) (by omega) ?_
            refine z_topl (fun x6 ex6 => ?_)
            refine z_lstore (lv' := [(4, .long (zL x6)), (0, .ref q), (1, .ref r), (2, .ref t), (3, .int (zI (i : Int))), (6, .int (zI (j : Int)))]) S d_W_becomeProduct_95 (by decide) rfl ?_
            refine z_iinc (y := ((j + 1 : Nat) : Int)) (lv' := [(6, .int (zI ((j + 1 : Nat) : Int))), (4, .long (zL x6)), (0, .ref q), (1, .ref r), (2, .ref t), (3, .int (zI (i : Int)))]) S d_W_becomeProduct_97 5 rfl (by omega) (by decide) rfl ?_
            refine z_goto (tgt := 20) S d_W_becomeProduct_100 (by decide) ?_
            refine z_lv (lv' := [(0, .ref q), (1, .ref r), (2, .ref t), (3, .int (zI (i : Int))), (4, .long (zL x6)), (6, .int (zI ((j + 1 : Nat) : Int)))]) [2, 3, 4, 5, 1, 0] rfl ?_
            refine z_lq (lv' := [(0, .ref q), (1, .ref r), (2, .ref t), (3, .int (zI (i : Int))), (4, .long (zL ((k / 1000000000 : Nat) : Int))), (6, .int (zI ((j + 1 : Nat) : Int)))]) (congrArg (fun zzz : Int => ([(0, .ref q), (1, .ref r), (2, .ref t), (3, .int (zI (i : Int))), (4, .long (zL zzz)), (6, .int (zI ((j + 1 : Nat) : Int)))] : List (Nat × Value))) (show (x6 : Int) = ((k / 1000000000 : Nat) : Int) by omega)) ?_
            exact ih20 ((j + 1), (k / 1000000000)) (show (i + (j + 1) ≤ 12) ∧ ((k / 1000000000) < 1000000000) ∧ ((x % 1000000000 ^ (i + 1) * y) / 1000000000 ^ i / 1000000000 ^ (j + 1) = (x % 1000000000 ^ i * y) / 1000000000 ^ i / 1000000000 ^ (j + 1) + dg 1000000000 x i * (y / 1000000000 ^ (j + 1)) + (k / 1000000000)) from ⟨by omega, by omega, g2⟩) (show 12 - (j + 1) < 12 - j from by omega)
          · skip
            refine z_lload S d_W_becomeProduct_38 4 rfl ?_
            refine z_lconst (z := 0) S d_W_becomeProduct_40 rfl ?_
            refine z_lcmp_eq (tgt := 103) S d_W_becomeProduct_41 d_W_becomeProduct_42 (by decide) (by omega) (by omega) (fun c7 => ?_) (fun c7 => ?_)
            · skip
              have hz2 : (x % 1000000000 ^ (i + 1) * y) / 1000000000 ^ (i + j) = (x % 1000000000 ^ i * y) / 1000000000 ^ (i + j) := by
                rw [dv_hi (by decide) (us_lt hy) (show us y ≤ j by omega), Nat.mul_zero, dv_dv, dv_dv] at hz
                omega
              refine z_wq (ws' := [oW q qa ((us 0 : Nat) : Int), aI cI qa 12 (wa (x % 1000000000 ^ (i + 1) * y)), oW r ra ((us x : Nat) : Int), aI cI ra 12 (wa x), oW t ta ((us y : Nat) : Int), aI cI ta 12 (wa y)]) (by rw [mx_e (fun j hj => wa_e (dg_hiE hz2 hj))]) ?_
              refine z_iinc (y := ((i + 1 : Nat) : Int)) (lv' := [(3, .int (zI ((i + 1 : Nat) : Int))), (0, .ref q), (1, .ref r), (2, .ref t), (4, .long (zL (cy : Int))), (6, .int (zI (j : Int)))]) S d_W_becomeProduct_103 3 rfl (by omega) (by decide) rfl ?_
              refine z_goto (tgt := 6) S d_W_becomeProduct_106 (by decide) ?_
              refine z_lv (lv' := [(0, .ref q), (1, .ref r), (2, .ref t), (3, .int (zI ((i + 1 : Nat) : Int)))]) [1, 2, 3, 0] rfl ?_
              exact ih6 (i + 1) (show ((i + 1) ≤ us x) from by omega) (show us x - (i + 1) < us x - i from by omega)
            · skip
              refine z_lload S d_W_becomeProduct_45 4 rfl ?_
              refine z_aload_n S d_W_becomeProduct_47 0 rfl ?_
              refine z_get S hK la_W 0 rfl rfl 0 (by decide) k_W_9 rfl d_W_becomeProduct_48 ?_
              refine z_iload_n S d_W_becomeProduct_51 3 rfl ?_
              refine z_iload S d_W_becomeProduct_52 5 rfl ?_
              refine z_iadd S d_W_becomeProduct_54 ?_
              refine z_iald (x := ((dg 1000000000 (x % 1000000000 ^ i * y) (i + j) : Nat) : Int)) S hK 1 0 rfl rfl (i + j) (by omega) (by omega) (by decide) (mx_hi (Nat.le_refl _)) d_W_becomeProduct_55 ?_
              refine z_i2l S d_W_becomeProduct_56 (by have := dg_lt (b := 1000000000) (by decide) (x % 1000000000 ^ i * y) (i + j); omega) ?_
              refine z_aload_n S d_W_becomeProduct_57 1 rfl ?_
              refine z_iload_n S d_W_becomeProduct_58 3 rfl ?_
              refine z_callVa (As := [.int (zI (i : Int))]) (st := [.long (zL ((dg 1000000000 (x % 1000000000 ^ i * y) (i + j) : Nat) : Int)), .long (zL (cy : Int))]) (wc := [oW r ra ((us x : Nat) : Int), aI cI ra 12 (wa x)]) (wr := [oW q qa ((us 0 : Nat) : Int), aI cI qa 12 (mx (wa (x % 1000000000 ^ (i + 1) * y)) (wa (x % 1000000000 ^ i * y)) (i + j)), oW t ta ((us y : Nat) : Int), aI cI ta 12 (wa y)]) S hGok hK hg hA (s_W_limbAt l dC dI cI cL qT r ra x (i : Int) (by omega) (by omega)) (zcwV S (List.mem_cons_of_mem _ k_W_19) mV_W_limbAt k_W_19 hd_W_limbAt rfl rfl ⟨Nat.le_of_ble_eq_true rfl, Nat.le_of_ble_eq_true rfl⟩) rfl (Nat.le_of_ble_eq_true rfl) d_W_becomeProduct_59 ⟨Nat.le_of_ble_eq_true rfl, Nat.le_of_ble_eq_true rfl⟩ rfl [2, 3] [0, 1, 4, 5] 2 rfl rfl rfl (by decide) rfl rfl rfl (by decide) (by decide) (fun x w hp => ?_)
              obtain ⟨rfl, rfl⟩ := hp
              show ZZ _ _ _ _ _ _ _ _ _ _ _ _ _ _ _ _ _ _ 62 [(0, .ref q), (1, .ref r), (2, .ref t), (3, .int (zI (i : Int))), (4, .long (zL (cy : Int))), (6, .int (zI (j : Int)))] [.long (zL ((lbI x (i : Int) : Nat) : Int)), .long (zL ((dg 1000000000 (x % 1000000000 ^ i * y) (i + j) : Nat) : Int)), .long (zL (cy : Int))] [oW q qa ((us 0 : Nat) : Int), aI cI qa 12 (mx (wa (x % 1000000000 ^ (i + 1) * y)) (wa (x % 1000000000 ^ i * y)) (i + j)), oW t ta ((us y : Nat) : Int), aI cI ta 12 (wa y), oW r ra ((us x : Nat) : Int), aI cI ra 12 (wa x)]
              refine z_aload_n S d_W_becomeProduct_62 2 rfl ?_
              refine z_iload S d_W_becomeProduct_63 5 rfl ?_
              refine z_callVa (As := [.int (zI (j : Int))]) (st := [.long (zL ((lbI x (i : Int) : Nat) : Int)), .long (zL ((dg 1000000000 (x % 1000000000 ^ i * y) (i + j) : Nat) : Int)), .long (zL (cy : Int))]) (wc := [oW t ta ((us y : Nat) : Int), aI cI ta 12 (wa y)]) (wr := [oW q qa ((us 0 : Nat) : Int), aI cI qa 12 (mx (wa (x % 1000000000 ^ (i + 1) * y)) (wa (x % 1000000000 ^ i * y)) (i + j)), oW r ra ((us x : Nat) : Int), aI cI ra 12 (wa x)]) S hGok hK hg hA (s_W_limbAt l dC dI cI cL qT t ta y (j : Int) (by omega) (by omega)) (zcwV S (List.mem_cons_of_mem _ k_W_19) mV_W_limbAt k_W_19 hd_W_limbAt rfl rfl ⟨Nat.le_of_ble_eq_true rfl, Nat.le_of_ble_eq_true rfl⟩) rfl (Nat.le_of_ble_eq_true rfl) d_W_becomeProduct_65 ⟨Nat.le_of_ble_eq_true rfl, Nat.le_of_ble_eq_true rfl⟩ rfl [2, 3] [0, 1, 4, 5] 2 rfl rfl rfl (by decide) rfl rfl rfl (by decide) (by decide) (fun x w hp => ?_)
              obtain ⟨rfl, rfl⟩ := hp
              show ZZ _ _ _ _ _ _ _ _ _ _ _ _ _ _ _ _ _ _ 68 [(0, .ref q), (1, .ref r), (2, .ref t), (3, .int (zI (i : Int))), (4, .long (zL (cy : Int))), (6, .int (zI (j : Int)))] [.long (zL ((lbI y (j : Int) : Nat) : Int)), .long (zL ((lbI x (i : Int) : Nat) : Int)), .long (zL ((dg 1000000000 (x % 1000000000 ^ i * y) (i + j) : Nat) : Int)), .long (zL (cy : Int))] [oW q qa ((us 0 : Nat) : Int), aI cI qa 12 (mx (wa (x % 1000000000 ^ (i + 1) * y)) (wa (x % 1000000000 ^ i * y)) (i + j)), oW r ra ((us x : Nat) : Int), aI cI ra 12 (wa x), oW t ta ((us y : Nat) : Int), aI cI ta 12 (wa y)]
              refine z_lmul S d_W_becomeProduct_68 ?_
              refine z_ladd S d_W_becomeProduct_69 ?_
              refine z_ladd S d_W_becomeProduct_70 ?_
              refine z_topl (fun x8 ex8 => ?_)
              refine z_lstore (lv' := [(4, .long (zL x8)), (0, .ref q), (1, .ref r), (2, .ref t), (3, .int (zI (i : Int))), (6, .int (zI (j : Int)))]) S d_W_becomeProduct_71 (by decide) rfl ?_
              obtain ⟨k, hk⟩ : ∃ k : Nat, k = cy + (dg 1000000000 ((x % 1000000000 ^ i * y) / 1000000000 ^ i) j + dg 1000000000 x i * dg 1000000000 y j) := ⟨_, rfl⟩
              have hx1 : x8 = (k : Int) := by rw [ex8, lbI_e i rfl, lbI_e j rfl, dg_sh', hk]; push_cast; rfl
              have hp := pr_le ld (dg_lt (b := 1000000000) (by decide) y j)
              have l2 := dg_lt (b := 1000000000) (by decide) ((x % 1000000000 ^ i * y) / 1000000000 ^ i) j
              have hdz := dg_sh' 1000000000 (x % 1000000000 ^ (i + 1) * y) i j
              obtain ⟨g1, g2⟩ := st_mul hz
              rw [← hk] at g1 g2
              refine z_aload_n S d_W_becomeProduct_73 1 rfl ?_
              refine z_get S hK la_W 0 rfl rfl 0 (by decide) k_W_9 rfl d_W_becomeProduct_74 ?_
              refine z_iload_n S d_W_becomeProduct_77 4 rfl ?_
              refine z_iload S d_W_becomeProduct_78 5 rfl ?_
              refine z_iadd S d_W_becomeProduct_80 ?_
              refine z_lload S d_W_becomeProduct_81 0 rfl ?_
              refine z_ldc2 (v := 1000000000) (z := 1000000000) S k_W_23 d_W_becomeProduct_83 (by decide) ?_
              refine z_lrem S d_W_becomeProduct_86 (by omega) (by omega) ?_
              refine z_l2i S d_W_becomeProduct_87 ?_
              refine z_topi (fun x9 ex9 => ?_)
              refine z_iast (f' := mx (wa (x % 1000000000 ^ (i + 1) * y)) (wa (x % 1000000000 ^ i * y)) (i + (j + 1))) (ws' := [oW q qa ((us 0 : Nat) : Int), aI cI qa 12 (mx (wa (x % 1000000000 ^ (i + 1) * y)) (wa (x % 1000000000 ^ i * y)) (i + (j + 1))), oW r ra ((us x : Nat) : Int), aI cI ra 12 (wa x), oW t ta ((us y : Nat) : Int), aI cI ta 12 (wa y)]) S hK 1 0 rfl rfl (i + j) (by omega) (by omega) (by decide) (mx_up (zI_c (by omega))) rfl d_W_becomeProduct_88 ?_
              refine z_lload S d_W_becomeProduct_89 0 rfl ?_
              refine z_ldc2 (v := 1000000000) (z := 1000000000) S k_W_23 d_W_becomeProduct_91 (by decide) ?_
              refine z_ldiv S d_W_becomeProduct_94 (by omega) (by omega) ?_
              refine z_topl (fun x10 ex10 => ?_)
              refine z_lstore (lv' := [(4, .long (zL x10)), (0, .ref q), (1, .ref r), (2, .ref t), (3, .int (zI (i : Int))), (6, .int (zI (j : Int)))]) S d_W_becomeProduct_95 (by decide) rfl ?_
              refine z_iinc (y := ((j + 1 : Nat) : Int)) (lv' := [(6, .int (zI ((j + 1 : Nat) : Int))), (4, .long (zL x10)), (0, .ref q), (1, .ref r), (2, .ref t), (3, .int (zI (i : Int)))]) S d_W_becomeProduct_97 5 rfl (by omega) (by decide) rfl ?_
              refine z_goto (tgt := 20) S d_W_becomeProduct_100 (by decide) ?_
              refine z_lv (lv' := [(0, .ref q), (1, .ref r), (2, .ref t), (3, .int (zI (i : Int))), (4, .long (zL x10)), (6, .int (zI ((j + 1 : Nat) : Int)))]) [2, 3, 4, 5, 1, 0] rfl ?_
              refine z_lq (lv' := [(0, .ref q), (1, .ref r), (2, .ref t), (3, .int (zI (i : Int))), (4, .long (zL ((k / 1000000000 : Nat) : Int))), (6, .int (zI ((j + 1 : Nat) : Int)))]) (congrArg (fun zzz : Int => ([(0, .ref q), (1, .ref r), (2, .ref t), (3, .int (zI (i : Int))), (4, .long (zL zzz)), (6, .int (zI ((j + 1 : Nat) : Int)))] : List (Nat × Value))) (show (x10 : Int) = ((k / 1000000000 : Nat) : Int) by omega)) ?_
              exact ih20 ((j + 1), (k / 1000000000)) (show (i + (j + 1) ≤ 12) ∧ ((k / 1000000000) < 1000000000) ∧ ((x % 1000000000 ^ (i + 1) * y) / 1000000000 ^ i / 1000000000 ^ (j + 1) = (x % 1000000000 ^ i * y) / 1000000000 ^ i / 1000000000 ^ (j + 1) + dg 1000000000 x i * (y / 1000000000 ^ (j + 1)) + (k / 1000000000)) from ⟨by omega, by omega, g2⟩) (show 12 - (j + 1) < 12 - j from by omega)
set_option maxHeartbeats 4000000 in
set_option maxRecDepth 100000 in
theorem s_W_tenAbove (l : Launch) (dC : Nat → ClassId) (dI : Nat → Nat → Nat) (cI cL : ClassId) (qT : Nat) (x : Nat) (hx : x < 1000000000) : Ct l y_W_tenAbove (Cond.code y_W_tenAbove c_W_tenAbove 6 (some .long) :: zB) { frames := 0, cells := 0, slots := 0, locals := 0 } (dC, dI) zcl [(cI, .int), (cL, .long)] (zG cI cL qT) [.long (zL (x : Int))] [] (fun rv wv => ∃ k : Nat, (k ≤ 9) ∧ (x < 10 ^ k) ∧ (k = 0 ∨ 10 ^ (k - 1) ≤ x) ∧ rv = .long (zL ((10 ^ k : Nat) : Int)) ∧ wv = []) 0 0 := by
  refine Cm.ofZ (cc := c_W_tenAbove) (maxL := 6) (ret := (some .long)) (by decide) rfl (Nat.le_of_ble_eq_true rfl) rfl ?_
  intro p e s m below meth c A S hr hlo hnm hK hg hA hAe
  have hGok := zG_ok cI cL qT
  show ZZ _ _ _ _ _ _ _ _ _ _ _ _ _ _ _ _ _ _ 0 [(0, .long (zL (x : Int)))] [] []
  refine z_tens S hg kn_W_25 d_W_tenAbove_0 ?_
  refine z_astore_n (lv' := [(2, .ref qT), (0, .long (zL (x : Int)))]) S d_W_tenAbove_3 rfl (by decide) rfl ?_
  refine z_aload_n S d_W_tenAbove_4 0 rfl ?_
  refine z_tlen S hg d_W_tenAbove_5 ?_
  refine z_istore_n (lv' := [(3, .int (zI 10)), (2, .ref qT), (0, .long (zL (x : Int)))]) S d_W_tenAbove_6 rfl (by decide) rfl ?_
  refine z_iconst S d_W_tenAbove_7 ?_
  refine z_istore (lv' := [(4, .int (zI 0)), (3, .int (zI 10)), (2, .ref qT), (0, .long (zL (x : Int)))]) S d_W_tenAbove_8 (by decide) rfl ?_
  refine z_lv (lv' := [(0, .long (zL (x : Int))), (2, .ref qT), (3, .int (zI 10)), (4, .int (zI 0))]) [3, 2, 1, 0] rfl ?_
  refine z_lq (lv' := [(0, .long (zL (x : Int))), (2, .ref qT), (3, .int (zI 10)), (4, .int (zI ((0 : Nat) : Int)))]) (congrArg (fun zzz : Int => ([(0, .long (zL (x : Int))), (2, .ref qT), (3, .int (zI 10)), (4, .int (zI zzz))] : List (Nat × Value))) (show (0 : Int) = ((0 : Nat) : Int) by omega)) ?_
  refine z_loop (I := fun (i : Nat) => (i ≤ 10) ∧ (i = 0 ∨ 10 ^ (i - 1) ≤ x)) (μ := fun (i : Nat) => 10 - i) (LV := fun (i : Nat) => [(0, .long (zL (x : Int))), (2, .ref qT), (3, .int (zI 10)), (4, .int (zI (i : Int)))]) (WS := fun (i : Nat) => []) (a := 0) ?_ ?_
  · exact (show (0 ≤ 10) ∧ (0 = 0 ∨ 10 ^ (0 - 1) ≤ x) from ⟨by omega, Or.inl rfl⟩)
  · intro i hI ih10
    obtain ⟨hi, hp⟩ : (i ≤ 10) ∧ (i = 0 ∨ 10 ^ (i - 1) ≤ x) := hI
    show ZZ _ _ _ _ _ _ _ _ _ _ _ _ _ _ _ _ _ _ 10 [(0, .long (zL (x : Int))), (2, .ref qT), (3, .int (zI 10)), (4, .int (zI (i : Int)))] [] []
    refine z_iload S d_W_tenAbove_10 3 rfl ?_
    refine z_iload_n S d_W_tenAbove_12 2 rfl ?_
    refine z_icmp_ge (tgt := 40) S d_W_tenAbove_13 (by decide) (by omega) (by omega) (fun c1 => ?_) (fun c1 => ?_)
    · skip
      have h10 : i = 10 := by omega
      rw [h10] at hp
      have e9 : (10 : Nat) ^ (10 - 1) = 1000000000 := by decide
      omega
    · skip
      have hle := p10_le (i := i) (by omega)
      have hnn : (0 : Int) ≤ ((10 ^ i : Nat) : Int) := Int.natCast_nonneg _
      refine z_aload_n S d_W_tenAbove_16 1 rfl ?_
      refine z_iload S d_W_tenAbove_17 3 rfl ?_
      refine z_tald S hg i rfl (by omega) d_W_tenAbove_19 ?_
      refine z_istore (lv' := [(5, .int (zI ((10 ^ i : Nat) : Int))), (0, .long (zL (x : Int))), (2, .ref qT), (3, .int (zI 10)), (4, .int (zI (i : Int)))]) S d_W_tenAbove_20 (by decide) rfl ?_
      refine z_iload S d_W_tenAbove_22 0 rfl ?_
      refine z_i2l S d_W_tenAbove_24 (by omega) ?_
      refine z_lload_n S d_W_tenAbove_25 1 rfl ?_
      refine z_lcmp_le (tgt := 34) S d_W_tenAbove_26 d_W_tenAbove_27 (by decide) (by omega) (by omega) (fun c2 => ?_) (fun c2 => ?_)
      · skip
        refine z_iinc (y := ((i + 1 : Nat) : Int)) (lv' := [(4, .int (zI ((i + 1 : Nat) : Int))), (5, .int (zI ((10 ^ i : Nat) : Int))), (0, .long (zL (x : Int))), (2, .ref qT), (3, .int (zI 10))]) S d_W_tenAbove_34 4 rfl (by omega) (by decide) rfl ?_
        refine z_goto (tgt := 10) S d_W_tenAbove_37 (by decide) ?_
        refine z_lv (lv' := [(0, .long (zL (x : Int))), (2, .ref qT), (3, .int (zI 10)), (4, .int (zI ((i + 1 : Nat) : Int)))]) [2, 3, 4, 0] rfl ?_
        exact ih10 (i + 1) (show ((i + 1) ≤ 10) ∧ ((i + 1) = 0 ∨ 10 ^ ((i + 1) - 1) ≤ x) from ⟨by omega, Or.inr (by rw [Nat.add_sub_cancel]; omega)⟩) (show 10 - (i + 1) < 10 - i from by omega)
      · skip
        refine z_iload S d_W_tenAbove_30 0 rfl ?_
        refine z_i2l S d_W_tenAbove_32 (by omega) ?_
        exact z_lret (w := []) S hr hlo hAe d_W_tenAbove_33 [] (by decide) rfl rfl ⟨Nat.le_refl _, Nat.le_refl _⟩ (⟨i, by omega, by omega, hp, rfl, rfl⟩)
