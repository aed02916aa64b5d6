set_option maxHeartbeats 4000000 in
set_option maxRecDepth 100000 in
theorem s_W_compareWith (l : Launch) (dC : Nat → ClassId) (dI : Nat → Nat → Nat) (cI cL : ClassId) (qT : Nat) (q : Nat) (qa : Nat) (t : Nat) (r : Nat) (ra : Nat) (o : Nat) (sh : Nat) (ht : t < 1000000000 ^ 12) (ho : o < 1000000000 ^ 12) (hsh : sh ≤ 12) (hnz : 0 < o ∨ sh = 0) : Ct l y_W_compareWith (Cond.code y_W_compareWith c_W_compareWith 6 (some .int) :: zB) { frames := 1, cells := 0, slots := 0, locals := 21 } (dC, dI) zcl [(cI, .int), (cL, .long)] (zG cI cL qT) [.ref q, .ref r, .int (zI (sh : Int))] [oW q qa ((us t : Nat) : Int), aI cI qa 12 (wa t), oW r ra ((us o : Nat) : Int), aI cI ra 12 (wa o)] (fun rv wv => rv = .int (zI (cmpN (t / 1000000000 ^ sh) o)) ∧ wv = [oW q qa ((us t : Nat) : Int), aI cI qa 12 (wa t), oW r ra ((us o : Nat) : Int), aI cI ra 12 (wa o)]) 0 0 := by
  refine Cm.ofZ (cc := c_W_compareWith) (maxL := 6) (ret := (some .int)) (by decide) rfl (Nat.le_of_ble_eq_true rfl) rfl ?_
  intro p e s m below meth c A S hr hlo hnm hK hg hA hAe
  have hGok := zG_ok cI cL qT
  show ZZ _ _ _ _ _ _ _ _ _ _ _ _ _ _ _ _ _ _ 0 [(0, .ref q), (1, .ref r), (2, .int (zI (sh : Int)))] [] [oW q qa ((us t : Nat) : Int), aI cI qa 12 (wa t), oW r ra ((us o : Nat) : Int), aI cI ra 12 (wa o)]
  have hu1 := us_le t
  have hu2 := us_le o
  refine z_aload_n S d_W_compareWith_0 0 rfl ?_
  refine z_get S hK la_W 0 rfl rfl 1 (by decide) k_W_15 rfl d_W_compareWith_1 ?_
  refine z_aload_n S d_W_compareWith_4 1 rfl ?_
  refine z_get S hK la_W 2 rfl rfl 1 (by decide) k_W_15 rfl d_W_compareWith_5 ?_
  refine z_iload_n S d_W_compareWith_8 2 rfl ?_
  refine z_iadd S d_W_compareWith_9 ?_
  refine z_icmp_eq (tgt := 32) S d_W_compareWith_10 (by decide) (by omega) (by omega) (fun c1 => ?_) (fun c1 => ?_)
  · skip
    refine z_aload_n S d_W_compareWith_32 1 rfl ?_
    refine z_get S hK la_W 2 rfl rfl 1 (by decide) k_W_15 rfl d_W_compareWith_33 ?_
    refine z_iconst S d_W_compareWith_36 ?_
    refine z_isub S d_W_compareWith_37 ?_
    refine z_topi (fun x2 ex2 => ?_)
    refine z_istore_n (lv' := [(3, .int (zI x2)), (0, .ref q), (1, .ref r), (2, .int (zI (sh : Int)))]) S d_W_compareWith_38 rfl (by decide) rfl ?_
    refine z_lv (lv' := [(0, .ref q), (1, .ref r), (2, .int (zI (sh : Int))), (3, .int (zI x2))]) [1, 2, 3, 0] rfl ?_
    refine z_lq (lv' := [(0, .ref q), (1, .ref r), (2, .int (zI (sh : Int))), (3, .int (zI (((us o : Nat) : Int) - 1)))]) (congrArg (fun zzz : Int => ([(0, .ref q), (1, .ref r), (2, .int (zI (sh : Int))), (3, .int (zI zzz))] : List (Nat × Value))) (show (x2 : Int) = ((us o : Nat) : Int) - 1 by omega)) ?_
    refine z_loop (I := fun (n : Nat) => (n ≤ us o) ∧ (t / 1000000000 ^ sh / 1000000000 ^ n = o / 1000000000 ^ n)) (μ := fun (n : Nat) => n) (LV := fun (n : Nat) => [(0, .ref q), (1, .ref r), (2, .int (zI (sh : Int))), (3, .int (zI ((n : Int) - 1)))]) (WS := fun (n : Nat) => [oW q qa ((us t : Nat) : Int), aI cI qa 12 (wa t), oW r ra ((us o : Nat) : Int), aI cI ra 12 (wa o)]) (a := (us o)) ?_ ?_
    · exact (show ((us o) ≤ us o) ∧ (t / 1000000000 ^ sh / 1000000000 ^ (us o) = o / 1000000000 ^ (us o)) from ⟨Nat.le_refl _, by rw [dv_dv, dv_z (Nat.lt_of_lt_of_le (us_lt ht) (pw_le (by decide) (by omega))), dv_z (us_lt ho)]⟩)
    · intro n hI ih39
      obtain ⟨hn, he⟩ : (n ≤ us o) ∧ (t / 1000000000 ^ sh / 1000000000 ^ n = o / 1000000000 ^ n) := hI
      show ZZ _ _ _ _ _ _ _ _ _ _ _ _ _ _ _ _ _ _ 39 [(0, .ref q), (1, .ref r), (2, .int (zI (sh : Int))), (3, .int (zI ((n : Int) - 1)))] [] [oW q qa ((us t : Nat) : Int), aI cI qa 12 (wa t), oW r ra ((us o : Nat) : Int), aI cI ra 12 (wa o)]
      refine z_iload_n S d_W_compareWith_39 3 rfl ?_
      refine z_if_lt (tgt := 90) S d_W_compareWith_40 (by decide) (by omega) (fun c3 => ?_) (fun c3 => ?_)
      · skip
        have h0 : n = 0 := by omega
        have hfin : t / 1000000000 ^ sh = o := by rw [h0, dv_0, dv_0] at he; exact he
        refine z_iconst S d_W_compareWith_90 ?_
        exact z_iret (w := [oW q qa ((us t : Nat) : Int), aI cI qa 12 (wa t), oW r ra ((us o : Nat) : Int), aI cI ra 12 (wa o)]) S hr hlo hAe d_W_compareWith_91 [0, 1, 2, 3] (by decide) rfl rfl ⟨Nat.le_refl _, Nat.le_refl _⟩ (⟨by rw [cmpN_eq hfin], rfl⟩)
      · skip
        refine z_aload_n S d_W_compareWith_43 0 rfl ?_
        refine z_iload_n S d_W_compareWith_44 3 rfl ?_
        refine z_iload_n S d_W_compareWith_45 2 rfl ?_
        refine z_iadd S d_W_compareWith_46 ?_
        refine z_callVa (As := [.int (zI (((n : Int) - 1) + (sh : Int)))]) (st := []) (wc := [oW q qa ((us t : Nat) : Int), aI cI qa 12 (wa t)]) (wr := [oW r ra ((us o : Nat) : Int), aI cI ra 12 (wa o)]) S hGok hK hg hA (s_W_limbAt l dC dI cI cL qT q qa t (((n : Int) - 1) + (sh : Int)) (by omega) (by omega)) (zcwV S (List.mem_cons_of_mem _ k_W_19) mV_W_limbAt k_W_19 hd_W_limbAt rfl rfl ⟨Nat.le_of_ble_eq_true rfl, Nat.le_of_ble_eq_true rfl⟩) rfl (Nat.le_of_ble_eq_true rfl) d_W_compareWith_47 ⟨Nat.le_of_ble_eq_true rfl, Nat.le_of_ble_eq_true rfl⟩ rfl [0, 1] [2, 3] 0 rfl rfl rfl (by decide) rfl rfl rfl (by decide) (by decide) (fun x w hp => ?_)
        obtain ⟨rfl, rfl⟩ := hp
        show ZZ _ _ _ _ _ _ _ _ _ _ _ _ _ _ _ _ _ _ 50 [(0, .ref q), (1, .ref r), (2, .int (zI (sh : Int))), (3, .int (zI ((n : Int) - 1)))] [.long (zL ((lbI t (((n : Int) - 1) + (sh : Int)) : Nat) : Int))] [oW r ra ((us o : Nat) : Int), aI cI ra 12 (wa o), oW q qa ((us t : Nat) : Int), aI cI qa 12 (wa t)]
        have hl : lbI t ((n : Int) - 1 + (sh : Int)) = dg 1000000000 (t / 1000000000 ^ sh) (n - 1) := by rw [lbI_e (n - 1 + sh) (by omega), dg_sh]
        have l1 := lbI_lt t ((n : Int) - 1 + (sh : Int))
        have l2 := dg_lt (b := 1000000000) (by decide) o (n - 1)
        refine z_lstore (lv' := [(4, .long (zL ((lbI t (((n : Int) - 1) + (sh : Int)) : Nat) : Int))), (0, .ref q), (1, .ref r), (2, .int (zI (sh : Int))), (3, .int (zI ((n : Int) - 1)))]) S d_W_compareWith_50 (by decide) rfl ?_
        refine z_lload S d_W_compareWith_52 0 rfl ?_
        refine z_aload_n S d_W_compareWith_54 2 rfl ?_
        refine z_get S hK la_W 0 rfl rfl 0 (by decide) k_W_9 rfl d_W_compareWith_55 ?_
        refine z_iload_n S d_W_compareWith_58 4 rfl ?_
        refine z_iald (x := ((dg 1000000000 o (n - 1) : Nat) : Int)) S hK 1 0 rfl rfl (n - 1) (by omega) (by omega) (by decide) rfl d_W_compareWith_59 ?_
        refine z_i2l S d_W_compareWith_60 (by omega) ?_
        refine z_lcmp_eq (tgt := 84) S d_W_compareWith_61 d_W_compareWith_62 (by decide) (by omega) (by omega) (fun c4 => ?_) (fun c4 => ?_)
        · skip
          refine z_iinc (y := (n : Int) - 1 - 1) (lv' := [(3, .int (zI ((n : Int) - 1 - 1))), (4, .long (zL ((lbI t (((n : Int) - 1) + (sh : Int)) : Nat) : Int))), (0, .ref q), (1, .ref r), (2, .int (zI (sh : Int)))]) S d_W_compareWith_84 4 rfl (by omega) (by decide) rfl ?_
          refine z_goto (tgt := 39) S d_W_compareWith_87 (by decide) ?_
          refine z_lv (lv' := [(0, .ref q), (1, .ref r), (2, .int (zI (sh : Int))), (3, .int (zI ((n : Int) - 1 - 1)))]) [2, 3, 4, 0] rfl ?_
          refine z_lq (lv' := [(0, .ref q), (1, .ref r), (2, .int (zI (sh : Int))), (3, .int (zI (((n - 1 : Nat) : Int) - 1)))]) (congrArg (fun zzz : Int => ([(0, .ref q), (1, .ref r), (2, .int (zI (sh : Int))), (3, .int (zI zzz))] : List (Nat × Value))) (show ((n : Int) - 1 - 1 : Int) = ((n - 1 : Nat) : Int) - 1 by omega)) ?_
          refine z_ws (ws' := [oW q qa ((us t : Nat) : Int), aI cI qa 12 (wa t), oW r ra ((us o : Nat) : Int), aI cI ra 12 (wa o)]) [2, 3, 0, 1] (by decide) rfl rfl ?_
          exact ih39 (n - 1) (show ((n - 1) ≤ us o) ∧ (t / 1000000000 ^ sh / 1000000000 ^ (n - 1) = o / 1000000000 ^ (n - 1)) from ⟨by omega, cmp_dn (by omega) he (by omega)⟩) (show (n - 1) < n from by omega)
        · skip
          refine z_lload S d_W_compareWith_65 0 rfl ?_
          refine z_aload_n S d_W_compareWith_67 2 rfl ?_
          refine z_get S hK la_W 0 rfl rfl 0 (by decide) k_W_9 rfl d_W_compareWith_68 ?_
          refine z_iload_n S d_W_compareWith_71 4 rfl ?_
          refine z_iald (x := ((dg 1000000000 o (n - 1) : Nat) : Int)) S hK 1 0 rfl rfl (n - 1) (by omega) (by omega) (by decide) rfl d_W_compareWith_72 ?_
          refine z_i2l S d_W_compareWith_73 (by omega) ?_
          refine z_lcmp_ge (tgt := 82) S d_W_compareWith_74 d_W_compareWith_75 (by decide) (by omega) (by omega) (fun c5 => ?_) (fun c5 => ?_)
          · skip
            refine z_iconst S d_W_compareWith_82 ?_
            exact z_iret (w := [oW q qa ((us t : Nat) : Int), aI cI qa 12 (wa t), oW r ra ((us o : Nat) : Int), aI cI ra 12 (wa o)]) S hr hlo hAe d_W_compareWith_83 [2, 3, 0, 1] (by decide) rfl rfl ⟨Nat.le_refl _, Nat.le_refl _⟩ (⟨by rw [cmpN_gt (cmp_dg (by omega) he.symm (by omega))], rfl⟩)
          · skip
            refine z_iconst S d_W_compareWith_78 ?_
            refine z_goto (tgt := 83) S d_W_compareWith_79 (by decide) ?_
            exact z_iret (w := [oW q qa ((us t : Nat) : Int), aI cI qa 12 (wa t), oW r ra ((us o : Nat) : Int), aI cI ra 12 (wa o)]) S hr hlo hAe d_W_compareWith_83 [2, 3, 0, 1] (by decide) rfl rfl ⟨Nat.le_refl _, Nat.le_refl _⟩ (⟨by rw [cmpN_lt (cmp_dg (by omega) he (by omega))], rfl⟩)
  · skip
    refine z_aload_n S d_W_compareWith_13 0 rfl ?_
    refine z_get S hK la_W 0 rfl rfl 1 (by decide) k_W_15 rfl d_W_compareWith_14 ?_
    refine z_aload_n S d_W_compareWith_17 1 rfl ?_
    refine z_get S hK la_W 2 rfl rfl 1 (by decide) k_W_15 rfl d_W_compareWith_18 ?_
    refine z_iload_n S d_W_compareWith_21 2 rfl ?_
    refine z_iadd S d_W_compareWith_22 ?_
    refine z_icmp_ge (tgt := 30) S d_W_compareWith_23 (by decide) (by omega) (by omega) (fun c6 => ?_) (fun c6 => ?_)
    · skip
      refine z_iconst S d_W_compareWith_30 ?_
      exact z_iret (w := [oW q qa ((us t : Nat) : Int), aI cI qa 12 (wa t), oW r ra ((us o : Nat) : Int), aI cI ra 12 (wa o)]) S hr hlo hAe d_W_compareWith_31 [0, 1, 2, 3] (by decide) rfl rfl ⟨Nat.le_refl _, Nat.le_refl _⟩ (⟨by rw [cmpN_gt (cmp_ug ho (by omega))], rfl⟩)
    · skip
      refine z_iconst S d_W_compareWith_26 ?_
      refine z_goto (tgt := 31) S d_W_compareWith_27 (by decide) ?_
      exact z_iret (w := [oW q qa ((us t : Nat) : Int), aI cI qa 12 (wa t), oW r ra ((us o : Nat) : Int), aI cI ra 12 (wa o)]) S hr hlo hAe d_W_compareWith_31 [0, 1, 2, 3] (by decide) rfl rfl ⟨Nat.le_refl _, Nat.le_refl _⟩ (⟨by rw [cmpN_lt (cmp_ul ht hnz (by omega))], rfl⟩)
set_option maxHeartbeats 4000000 in
set_option maxRecDepth 100000 in
theorem s_W_decreaseBy (l : Launch) (dC : Nat → ClassId) (dI : Nat → Nat → Nat) (cI cL : ClassId) (qT : Nat) (q : Nat) (qa : Nat) (t : Nat) (r : Nat) (ra : Nat) (o : Nat) (g : Nat) (sh : Nat) (ht : t < 1000000000 ^ 12) (ho : o < 1000000000 ^ 12) (hgB : g < 1000000000) (hle : o * g * 1000000000 ^ sh ≤ t) (hsh : sh ≤ 12) : Cv l y_W_decreaseBy (Cond.code y_W_decreaseBy c_W_decreaseBy 9 none :: zB) { frames := 1, cells := 0, slots := 0, locals := 21 } (dC, dI) zcl [(cI, .int), (cL, .long)] (zG cI cL qT) [.ref q, .ref r, .long (zL (g : Int)), .int (zI (sh : Int))] [oW q qa ((us t : Nat) : Int), aI cI qa 12 (wa t), oW r ra ((us o : Nat) : Int), aI cI ra 12 (wa o)] (fun wv => wv = [oW q qa ((us (t - o * g * 1000000000 ^ sh) : Nat) : Int), aI cI qa 12 (wa (t - o * g * 1000000000 ^ sh)), oW r ra ((us o : Nat) : Int), aI cI ra 12 (wa o)]) 0 0 := by
  refine Cm.ofZ (cc := c_W_decreaseBy) (maxL := 9) (ret := none) (by decide) rfl (Nat.le_of_ble_eq_true rfl) rfl ?_
  intro p e s m below meth c A S hr hlo hnm hK hg hA hAe
  have hGok := zG_ok cI cL qT
  show ZZ _ _ _ _ _ _ _ _ _ _ _ _ _ _ _ _ _ _ 0 [(0, .ref q), (1, .ref r), (2, .long (zL (g : Int))), (4, .int (zI (sh : Int)))] [] [oW q qa ((us t : Nat) : Int), aI cI qa 12 (wa t), oW r ra ((us o : Nat) : Int), aI cI ra 12 (wa o)]
  have hu1 := us_le t
  have hu2 := us_le o
  have hRt : t - o * g * 1000000000 ^ sh + o * g * 1000000000 ^ sh = t := by omega
  refine z_lconst (z := 0) S d_W_decreaseBy_0 rfl ?_
  refine z_lstore (lv' := [(5, .long (zL 0)), (0, .ref q), (1, .ref r), (2, .long (zL (g : Int))), (4, .int (zI (sh : Int)))]) S d_W_decreaseBy_1 (by decide) rfl ?_
  refine z_iconst S d_W_decreaseBy_3 ?_
  refine z_istore (lv' := [(7, .int (zI 0)), (5, .long (zL 0)), (0, .ref q), (1, .ref r), (2, .long (zL (g : Int))), (4, .int (zI (sh : Int)))]) S d_W_decreaseBy_4 (by decide) rfl ?_
  refine z_lv (lv' := [(0, .ref q), (1, .ref r), (2, .long (zL (g : Int))), (4, .int (zI (sh : Int))), (5, .long (zL 0)), (7, .int (zI 0))]) [2, 3, 4, 5, 1, 0] rfl ?_
  refine z_wq (ws' := [oW q qa ((us t : Nat) : Int), aI cI qa 12 (mx (wa (t - o * g * 1000000000 ^ sh)) (wa t) (0 + sh)), oW r ra ((us o : Nat) : Int), aI cI ra 12 (wa o)]) (by rw [show (0 : Nat) + sh = sh by omega, mx_s (fun j hj => wa_e (by rw [← dg_low (b := 1000000000) (v := t - o * g * 1000000000 ^ sh) (k := o * g) (by decide) hj, hRt]))]) ?_
  refine z_lq (lv' := [(0, .ref q), (1, .ref r), (2, .long (zL (g : Int))), (4, .int (zI (sh : Int))), (5, .long (zL ((0 : Nat) : Int))), (7, .int (zI ((0 : Nat) : Int)))]) (Eq.trans ((congrArg (fun zzz : Int => ([(0, .ref q), (1, .ref r), (2, .long (zL (g : Int))), (4, .int (zI (sh : Int))), (5, .long (zL zzz)), (7, .int (zI 0))] : List (Nat × Value))) (show (0 : Int) = ((0 : Nat) : Int) by omega))) (congrArg (fun zzz : Int => ([(0, .ref q), (1, .ref r), (2, .long (zL (g : Int))), (4, .int (zI (sh : Int))), (5, .long (zL ((0 : Nat) : Int))), (7, .int (zI zzz))] : List (Nat × Value))) (show (0 : Int) = ((0 : Nat) : Int) by omega))) ?_
  refine z_loop (I := fun (zz : Nat × Nat) => match zz with | (i, cy) => (i + sh ≤ 12) ∧ (cy ≤ g + 1) ∧ ((t - o * g * 1000000000 ^ sh) / 1000000000 ^ sh / 1000000000 ^ i + o / 1000000000 ^ i * g + cy = t / 1000000000 ^ sh / 1000000000 ^ i)) (μ := fun (zz : Nat × Nat) => match zz with | (i, cy) => 12 - i) (LV := fun (zz : Nat × Nat) => match zz with | (i, cy) => [(0, .ref q), (1, .ref r), (2, .long (zL (g : Int))), (4, .int (zI (sh : Int))), (5, .long (zL (cy : Int))), (7, .int (zI (i : Int)))]) (WS := fun (zz : Nat × Nat) => match zz with | (i, cy) => [oW q qa ((us t : Nat) : Int), aI cI qa 12 (mx (wa (t - o * g * 1000000000 ^ sh)) (wa t) (i + sh)), oW r ra ((us o : Nat) : Int), aI cI ra 12 (wa o)]) (a := (0, 0)) ?_ ?_
  · exact (show (0 + sh ≤ 12) ∧ (0 ≤ g + 1) ∧ ((t - o * g * 1000000000 ^ sh) / 1000000000 ^ sh / 1000000000 ^ 0 + o / 1000000000 ^ 0 * g + 0 = t / 1000000000 ^ sh / 1000000000 ^ 0) from ⟨by omega, by omega, by rw [dv_0, dv_0, dv_0, Nat.add_zero, ← dv_up (by decide), hRt]⟩)
  · intro ⟨i, cy⟩ hI ih6
    obtain ⟨hi, hcy, hz⟩ : (i + sh ≤ 12) ∧ (cy ≤ g + 1) ∧ ((t - o * g * 1000000000 ^ sh) / 1000000000 ^ sh / 1000000000 ^ i + o / 1000000000 ^ i * g + cy = t / 1000000000 ^ sh / 1000000000 ^ i) := hI
    show ZZ _ _ _ _ _ _ _ _ _ _ _ _ _ _ _ _ _ _ 6 [(0, .ref q), (1, .ref r), (2, .long (zL (g : Int))), (4, .int (zI (sh : Int))), (5, .long (zL (cy : Int))), (7, .int (zI (i : Int)))] [] [oW q qa ((us t : Nat) : Int), aI cI qa 12 (mx (wa (t - o * g * 1000000000 ^ sh)) (wa t) (i + sh)), oW r ra ((us o : Nat) : Int), aI cI ra 12 (wa o)]
    refine z_iload S d_W_decreaseBy_6 5 rfl ?_
    refine z_iload S d_W_decreaseBy_8 3 rfl ?_
    refine z_iadd S d_W_decreaseBy_10 ?_
    refine z_bipush S d_W_decreaseBy_11 rfl ?_
    refine z_icmp_ge (tgt := 109) S d_W_decreaseBy_13 (by decide) (by omega) (by omega) (fun c1 => ?_) (fun c1 => ?_)
    · skip
      refine z_wq (ws' := [oW q qa ((us t : Nat) : Int), aI cI qa 12 (wa (t - o * g * 1000000000 ^ sh)), oW r ra ((us o : Nat) : Int), aI cI ra 12 (wa o)]) (by rw [show i + sh = 12 by omega, mx_e (wa_2 (Nat.lt_of_le_of_lt (Nat.sub_le _ _) ht) ht)]) ?_
      refine z_aload_n S d_W_decreaseBy_109 0 rfl ?_
      refine z_aload_n S d_W_decreaseBy_110 0 rfl ?_
      refine z_get S hK la_W 0 rfl rfl 1 (by decide) k_W_15 rfl d_W_decreaseBy_111 ?_
      refine z_callVv (As := [.int (zI ((us t : Nat) : Int))]) (st := []) (wc := [oW q qa ((us t : Nat) : Int), aI cI qa 12 (wa (t - o * g * 1000000000 ^ sh))]) (wr := [oW r ra ((us o : Nat) : Int), aI cI ra 12 (wa o)]) S hGok hK hg hA (s_W_dropZerosFrom l dC dI cI cL qT q qa ((us t : Nat) : Int) (t - o * g * 1000000000 ^ sh) (us t) (Nat.lt_of_le_of_lt (Nat.sub_le _ _) (us_lt ht)) (us_le t)) (zcwV S (List.mem_cons_of_mem _ k_W_33) mV_W_dropZerosFrom k_W_33 hd_W_dropZerosFrom rfl rfl ⟨Nat.le_of_ble_eq_true rfl, Nat.le_of_ble_eq_true rfl⟩) rfl (Nat.le_of_ble_eq_true rfl) d_W_decreaseBy_114 ⟨Nat.le_of_ble_eq_true rfl, Nat.le_of_ble_eq_true rfl⟩ rfl [0, 1] [2, 3] 0 rfl rfl rfl (by decide) rfl rfl rfl (by decide) (by decide) (fun w hp => ?_)
      subst hp
      show ZZ _ _ _ _ _ _ _ _ _ _ _ _ _ _ _ _ _ _ 117 [(0, .ref q), (1, .ref r), (2, .long (zL (g : Int))), (4, .int (zI (sh : Int))), (5, .long (zL (cy : Int))), (7, .int (zI (i : Int)))] [] [oW r ra ((us o : Nat) : Int), aI cI ra 12 (wa o), oW q qa ((us (t - o * g * 1000000000 ^ sh) : Nat) : Int), aI cI qa 12 (wa (t - o * g * 1000000000 ^ sh))]
      exact z_vret (w := [oW q qa ((us (t - o * g * 1000000000 ^ sh) : Nat) : Int), aI cI qa 12 (wa (t - o * g * 1000000000 ^ sh)), oW r ra ((us o : Nat) : Int), aI cI ra 12 (wa o)]) S hr hlo hAe d_W_decreaseBy_117 [2, 3, 0, 1] (by decide) rfl rfl ⟨Nat.le_refl _, Nat.le_refl _⟩ (rfl)
    · skip
      refine z_iload S d_W_decreaseBy_16 5 rfl ?_
      refine z_aload_n S d_W_decreaseBy_18 1 rfl ?_
      refine z_get S hK la_W 2 rfl rfl 1 (by decide) k_W_15 rfl d_W_decreaseBy_19 ?_
      refine z_icmp_lt (tgt := 32) S d_W_decreaseBy_22 (by decide) (by omega) (by omega) (fun c2 => ?_) (fun c2 => ?_)
      · skip
        refine z_lload S d_W_decreaseBy_32 4 rfl ?_
        refine z_aload_n S d_W_decreaseBy_34 1 rfl ?_
        refine z_iload S d_W_decreaseBy_35 5 rfl ?_
        refine z_callVa (As := [.int (zI (i : Int))]) (st := [.long (zL (cy : Int))]) (wc := [oW r ra ((us o : Nat) : Int), aI cI ra 12 (wa o)]) (wr := [oW q qa ((us t : Nat) : Int), aI cI qa 12 (mx (wa (t - o * g * 1000000000 ^ sh)) (wa t) (i + sh))]) S hGok hK hg hA (s_W_limbAt l dC dI cI cL qT r ra o (i : Int) (by omega) (by omega)) (zcwV S (List.mem_cons_of_mem _ k_W_19) mV_W_limbAt k_W_19 hd_W_limbAt rfl rfl ⟨Nat.le_of_ble_eq_true rfl, Nat.le_of_ble_eq_true rfl⟩) rfl (Nat.le_of_ble_eq_true rfl) d_W_decreaseBy_37 ⟨Nat.le_of_ble_eq_true rfl, Nat.le_of_ble_eq_true rfl⟩ rfl [2, 3] [0, 1] 2 rfl rfl rfl (by decide) rfl rfl rfl (by decide) (by decide) (fun x w hp => ?_)
        obtain ⟨rfl, rfl⟩ := hp
        show ZZ _ _ _ _ _ _ _ _ _ _ _ _ _ _ _ _ _ _ 40 [(0, .ref q), (1, .ref r), (2, .long (zL (g : Int))), (4, .int (zI (sh : Int))), (5, .long (zL (cy : Int))), (7, .int (zI (i : Int)))] [.long (zL ((lbI o (i : Int) : Nat) : Int)), .long (zL (cy : Int))] [oW q qa ((us t : Nat) : Int), aI cI qa 12 (mx (wa (t - o * g * 1000000000 ^ sh)) (wa t) (i + sh)), oW r ra ((us o : Nat) : Int), aI cI ra 12 (wa o)]
        refine z_lload_n S d_W_decreaseBy_40 2 rfl ?_
        refine z_lmul S d_W_decreaseBy_41 ?_
        refine z_ladd S d_W_decreaseBy_42 ?_
        refine z_topl (fun x3 ex3 => ?_)
        refine z_lstore (lv' := [(5, .long (zL x3)), (0, .ref q), (1, .ref r), (2, .long (zL (g : Int))), (4, .int (zI (sh : Int))), (7, .int (zI (i : Int)))]) S d_W_decreaseBy_43 (by decide) rfl ?_
        obtain ⟨k, hk⟩ : ∃ k : Nat, k = cy + dg 1000000000 o i * g := ⟨_, rfl⟩
        have hx : x3 = (k : Int) := by rw [ex3, lbI_e i rfl, hk]; push_cast; rfl
        have hp := pr_le (dg_lt (b := 1000000000) (by decide) o i) hgB
        have hp2 := Nat.mul_le_mul_right g (show dg 1000000000 o i ≤ 999999999 by have := dg_lt (b := 1000000000) (by decide) o i; omega)
        have l2 := dg_lt (b := 1000000000) (by decide) t (i + sh)
        have hdt := dg_sh 1000000000 t i sh
        have hdr := dg_sh 1000000000 (t - o * g * 1000000000 ^ sh) i sh
        have hs1 := st_sub hz
        have hs2 := st_sub' hz
        rw [← hk] at hs1 hs2
        refine z_aload_n S d_W_decreaseBy_45 1 rfl ?_
        refine z_get S hK la_W 0 rfl rfl 0 (by decide) k_W_9 rfl d_W_decreaseBy_46 ?_
        refine z_iload S d_W_decreaseBy_49 5 rfl ?_
        refine z_iload S d_W_decreaseBy_51 4 rfl ?_
        refine z_iadd S d_W_decreaseBy_53 ?_
        refine z_iald (x := ((dg 1000000000 t (i + sh) : Nat) : Int)) S hK 1 0 rfl rfl (i + sh) (by omega) (by omega) (by decide) (mx_hi (Nat.le_refl _)) d_W_decreaseBy_54 ?_
        refine z_lload S d_W_decreaseBy_55 0 rfl ?_
        refine z_ldc2 (v := 1000000000) (z := 1000000000) S k_W_23 d_W_decreaseBy_57 (by decide) ?_
        refine z_lrem S d_W_decreaseBy_60 (by omega) (by omega) ?_
        refine z_l2i S d_W_decreaseBy_61 ?_
        refine z_isub S d_W_decreaseBy_62 ?_
        refine z_topi (fun x4 ex4 => ?_)
        refine z_istore (lv' := [(8, .int (zI x4)), (5, .long (zL x3)), (0, .ref q), (1, .ref r), (2, .long (zL (g : Int))), (4, .int (zI (sh : Int))), (7, .int (zI (i : Int)))]) S d_W_decreaseBy_63 (by decide) rfl ?_
        refine z_lload S d_W_decreaseBy_65 1 rfl ?_
        refine z_ldc2 (v := 1000000000) (z := 1000000000) S k_W_23 d_W_decreaseBy_67 (by decide) ?_
        refine z_ldiv S d_W_decreaseBy_70 (by omega) (by omega) ?_
        refine z_topl (fun x5 ex5 => ?_)
        refine z_lstore (lv' := [(5, .long (zL x5)), (8, .int (zI x4)), (0, .ref q), (1, .ref r), (2, .long (zL (g : Int))), (4, .int (zI (sh : Int))), (7, .int (zI (i : Int)))]) S d_W_decreaseBy_71 (by decide) rfl ?_
        refine z_iload S d_W_decreaseBy_73 1 rfl ?_
        refine z_if_ge (tgt := 91) S d_W_decreaseBy_75 (by decide) (by omega) (fun c6 => ?_) (fun c6 => ?_)
        · skip
          obtain ⟨g1, g2⟩ := hs1 (by omega)
          refine z_aload_n S d_W_decreaseBy_91 2 rfl ?_
          refine z_get S hK la_W 0 rfl rfl 0 (by decide) k_W_9 rfl d_W_decreaseBy_92 ?_
          refine z_iload S d_W_decreaseBy_95 6 rfl ?_
          refine z_iload S d_W_decreaseBy_97 5 rfl ?_
          refine z_iadd S d_W_decreaseBy_99 ?_
          refine z_iload S d_W_decreaseBy_100 1 rfl ?_
          refine z_iast (f' := mx (wa (t - o * g * 1000000000 ^ sh)) (wa t) (i + 1 + sh)) (ws' := [oW q qa ((us t : Nat) : Int), aI cI qa 12 (mx (wa (t - o * g * 1000000000 ^ sh)) (wa t) (i + 1 + sh)), oW r ra ((us o : Nat) : Int), aI cI ra 12 (wa o)]) S hK 1 0 rfl rfl (i + sh) (by omega) (by omega) (by decide) (by rw [Nat.add_right_comm]; exact mx_up (zI_c (by omega))) rfl d_W_decreaseBy_102 ?_
          refine z_iinc (y := ((i + 1 : Nat) : Int)) (lv' := [(7, .int (zI ((i + 1 : Nat) : Int))), (5, .long (zL x5)), (8, .int (zI x4)), (0, .ref q), (1, .ref r), (2, .long (zL (g : Int))), (4, .int (zI (sh : Int)))]) S d_W_decreaseBy_103 6 rfl (by omega) (by decide) rfl ?_
          refine z_goto (tgt := 6) S d_W_decreaseBy_106 (by decide) ?_
          refine z_lv (lv' := [(0, .ref q), (1, .ref r), (2, .long (zL (g : Int))), (4, .int (zI (sh : Int))), (5, .long (zL x5)), (7, .int (zI ((i + 1 : Nat) : Int)))]) [3, 4, 5, 6, 1, 0] rfl ?_
          refine z_lq (lv' := [(0, .ref q), (1, .ref r), (2, .long (zL (g : Int))), (4, .int (zI (sh : Int))), (5, .long (zL ((k / 1000000000 : Nat) : Int))), (7, .int (zI ((i + 1 : Nat) : Int)))]) (congrArg (fun zzz : Int => ([(0, .ref q), (1, .ref r), (2, .long (zL (g : Int))), (4, .int (zI (sh : Int))), (5, .long (zL zzz)), (7, .int (zI ((i + 1 : Nat) : Int)))] : List (Nat × Value))) (show (x5 : Int) = ((k / 1000000000 : Nat) : Int) by omega)) ?_
          exact ih6 ((i + 1), (k / 1000000000)) (show ((i + 1) + sh ≤ 12) ∧ ((k / 1000000000) ≤ g + 1) ∧ ((t - o * g * 1000000000 ^ sh) / 1000000000 ^ sh / 1000000000 ^ (i + 1) + o / 1000000000 ^ (i + 1) * g + (k / 1000000000) = t / 1000000000 ^ sh / 1000000000 ^ (i + 1)) from ⟨by omega, by omega, g2⟩) (show 12 - (i + 1) < 12 - i from by omega)
        · skip
          obtain ⟨g1, g2⟩ := hs2 (by omega)
          refine z_iload S d_W_decreaseBy_78 1 rfl ?_
          refine z_ldc (v := 1000000000) (z := 1000000000) S k_W_37 d_W_decreaseBy_80 (by decide) ?_
          refine z_iadd S d_W_decreaseBy_82 ?_
          refine z_topi (fun x7 ex7 => ?_)
          refine z_istore (lv' := [(8, .int (zI x7)), (5, .long (zL x5)), (0, .ref q), (1, .ref r), (2, .long (zL (g : Int))), (4, .int (zI (sh : Int))), (7, .int (zI (i : Int)))]) S d_W_decreaseBy_83 (by decide) rfl ?_
          refine z_lload S d_W_decreaseBy_85 1 rfl ?_
          refine z_lconst (z := 1) S d_W_decreaseBy_87 rfl ?_
          refine z_ladd S d_W_decreaseBy_88 ?_
          refine z_topl (fun x8 ex8 => ?_)
          refine z_lstore (lv' := [(5, .long (zL x8)), (8, .int (zI x7)), (0, .ref q), (1, .ref r), (2, .long (zL (g : Int))), (4, .int (zI (sh : Int))), (7, .int (zI (i : Int)))]) S d_W_decreaseBy_89 (by decide) rfl ?_
          refine z_aload_n S d_W_decreaseBy_91 2 rfl ?_
          refine z_get S hK la_W 0 rfl rfl 0 (by decide) k_W_9 rfl d_W_decreaseBy_92 ?_
          refine z_iload S d_W_decreaseBy_95 6 rfl ?_
          refine z_iload S d_W_decreaseBy_97 5 rfl ?_
          refine z_iadd S d_W_decreaseBy_99 ?_
          refine z_iload S d_W_decreaseBy_100 1 rfl ?_
          refine z_iast (f' := mx (wa (t - o * g * 1000000000 ^ sh)) (wa t) (i + 1 + sh)) (ws' := [oW q qa ((us t : Nat) : Int), aI cI qa 12 (mx (wa (t - o * g * 1000000000 ^ sh)) (wa t) (i + 1 + sh)), oW r ra ((us o : Nat) : Int), aI cI ra 12 (wa o)]) S hK 1 0 rfl rfl (i + sh) (by omega) (by omega) (by decide) (by rw [Nat.add_right_comm]; exact mx_up (zI_c (by omega))) rfl d_W_decreaseBy_102 ?_
          refine z_iinc (y := ((i + 1 : Nat) : Int)) (lv' := [(7, .int (zI ((i + 1 : Nat) : Int))), (5, .long (zL x8)), (8, .int (zI x7)), (0, .ref q), (1, .ref r), (2, .long (zL (g : Int))), (4, .int (zI (sh : Int)))]) S d_W_decreaseBy_103 6 rfl (by omega) (by decide) rfl ?_
          refine z_goto (tgt := 6) S d_W_decreaseBy_106 (by decide) ?_
          refine z_lv (lv' := [(0, .ref q), (1, .ref r), (2, .long (zL (g : Int))), (4, .int (zI (sh : Int))), (5, .long (zL x8)), (7, .int (zI ((i + 1 : Nat) : Int)))]) [3, 4, 5, 6, 1, 0] rfl ?_
          refine z_lq (lv' := [(0, .ref q), (1, .ref r), (2, .long (zL (g : Int))), (4, .int (zI (sh : Int))), (5, .long (zL ((k / 1000000000 + 1 : Nat) : Int))), (7, .int (zI ((i + 1 : Nat) : Int)))]) (congrArg (fun zzz : Int => ([(0, .ref q), (1, .ref r), (2, .long (zL (g : Int))), (4, .int (zI (sh : Int))), (5, .long (zL zzz)), (7, .int (zI ((i + 1 : Nat) : Int)))] : List (Nat × Value))) (show (x8 : Int) = ((k / 1000000000 + 1 : Nat) : Int) by omega)) ?_
          exact ih6 ((i + 1), (k / 1000000000 + 1)) (show ((i + 1) + sh ≤ 12) ∧ ((k / 1000000000 + 1) ≤ g + 1) ∧ ((t - o * g * 1000000000 ^ sh) / 1000000000 ^ sh / 1000000000 ^ (i + 1) + o / 1000000000 ^ (i + 1) * g + (k / 1000000000 + 1) = t / 1000000000 ^ sh / 1000000000 ^ (i + 1)) from ⟨by omega, by omega, g2⟩) (show 12 - (i + 1) < 12 - i from by omega)
      · skip
        refine z_lload S d_W_decreaseBy_25 4 rfl ?_
        refine z_lconst (z := 0) S d_W_decreaseBy_27 rfl ?_
        refine z_lcmp_eq (tgt := 109) S d_W_decreaseBy_28 d_W_decreaseBy_29 (by decide) (by omega) (by omega) (fun c9 => ?_) (fun c9 => ?_)
        · skip
          have hz2 : (t - o * g * 1000000000 ^ sh) / 1000000000 ^ (i + sh) = t / 1000000000 ^ (i + sh) := by
            rw [dv_hi (by decide) (us_lt ho) (show us o ≤ i by omega), Nat.zero_mul, dv_dv, dv_dv, Nat.add_comm sh i] at hz
            omega
          refine z_wq (ws' := [oW q qa ((us t : Nat) : Int), aI cI qa 12 (wa (t - o * g * 1000000000 ^ sh)), oW r ra ((us o : Nat) : Int), aI cI ra 12 (wa o)]) (by rw [mx_e (fun j hj => wa_e (dg_hiE hz2 hj))]) ?_
          refine z_aload_n S d_W_decreaseBy_109 0 rfl ?_
          refine z_aload_n S d_W_decreaseBy_110 0 rfl ?_
          refine z_get S hK la_W 0 rfl rfl 1 (by decide) k_W_15 rfl d_W_decreaseBy_111 ?_
          refine z_callVv (As := [.int (zI ((us t : Nat) : Int))]) (st := []) (wc := [oW q qa ((us t : Nat) : Int), aI cI qa 12 (wa (t - o * g * 1000000000 ^ sh))]) (wr := [oW r ra ((us o : Nat) : Int), aI cI ra 12 (wa o)]) S hGok hK hg hA (s_W_dropZerosFrom l dC dI cI cL qT q qa ((us t : Nat) : Int) (t - o * g * 1000000000 ^ sh) (us t) (Nat.lt_of_le_of_lt (Nat.sub_le _ _) (us_lt ht)) (us_le t)) (zcwV S (List.mem_cons_of_mem _ k_W_33) mV_W_dropZerosFrom k_W_33 hd_W_dropZerosFrom rfl rfl ⟨Nat.le_of_ble_eq_true rfl, Nat.le_of_ble_eq_true rfl⟩) rfl (Nat.le_of_ble_eq_true rfl) d_W_decreaseBy_114 ⟨Nat.le_of_ble_eq_true rfl, Nat.le_of_ble_eq_true rfl⟩ rfl [0, 1] [2, 3] 0 rfl rfl rfl (by decide) rfl rfl rfl (by decide) (by decide) (fun w hp => ?_)
          subst hp
          show ZZ _ _ _ _ _ _ _ _ _ _ _ _ _ _ _ _ _ _ 117 [(0, .ref q), (1, .ref r), (2, .long (zL (g : Int))), (4, .int (zI (sh : Int))), (5, .long (zL (cy : Int))), (7, .int (zI (i : Int)))] [] [oW r ra ((us o : Nat) : Int), aI cI ra 12 (wa o), oW q qa ((us (t - o * g * 1000000000 ^ sh) : Nat) : Int), aI cI qa 12 (wa (t - o * g * 1000000000 ^ sh))]
          exact z_vret (w := [oW q qa ((us (t - o * g * 1000000000 ^ sh) : Nat) : Int), aI cI qa 12 (wa (t - o * g * 1000000000 ^ sh)), oW r ra ((us o : Nat) : Int), aI cI ra 12 (wa o)]) S hr hlo hAe d_W_decreaseBy_117 [2, 3, 0, 1] (by decide) rfl rfl ⟨Nat.le_refl _, Nat.le_refl _⟩ (rfl)
        · skip
          refine z_lload S d_W_decreaseBy_32 4 rfl ?_
          refine z_aload_n S d_W_decreaseBy_34 1 rfl ?_
          refine z_iload S d_W_decreaseBy_35 5 rfl ?_
          refine z_callVa (As := [.int (zI (i : Int))]) (st := [.long (zL (cy : Int))]) (wc := [oW r ra ((us o : Nat) : Int), aI cI ra 12 (wa o)]) (wr := [oW q qa ((us t : Nat) : Int), aI cI qa 12 (mx (wa (t - o * g * 1000000000 ^ sh)) (wa t) (i + sh))]) S hGok hK hg hA (s_W_limbAt l dC dI cI cL qT r ra o (i : Int) (by omega) (by omega)) (zcwV S (List.mem_cons_of_mem _ k_W_19) mV_W_limbAt k_W_19 hd_W_limbAt rfl rfl ⟨Nat.le_of_ble_eq_true rfl, Nat.le_of_ble_eq_true rfl⟩) rfl (Nat.le_of_ble_eq_true rfl) d_W_decreaseBy_37 ⟨Nat.le_of_ble_eq_true rfl, Nat.le_of_ble_eq_true rfl⟩ rfl [2, 3] [0, 1] 2 rfl rfl rfl (by decide) rfl rfl rfl (by decide) (by decide) (fun x w hp => ?_)
          obtain ⟨rfl, rfl⟩ := hp
          show ZZ _ _ _ _ _ _ _ _ _ _ _ _ _ _ _ _ _ _ 40 [(0, .ref q), (1, .ref r), (2, .long (zL (g : Int))), (4, .int (zI (sh : Int))), (5, .long (zL (cy : Int))), (7, .int (zI (i : Int)))] [.long (zL ((lbI o (i : Int) : Nat) : Int)), .long (zL (cy : Int))] [oW q qa ((us t : Nat) : Int), aI cI qa 12 (mx (wa (t - o * g * 1000000000 ^ sh)) (wa t) (i + sh)), oW r ra ((us o : Nat) : Int), aI cI ra 12 (wa o)]
          refine z_lload_n S d_W_decreaseBy_40 2 rfl ?_
          refine z_lmul S d_W_decreaseBy_41 ?_
          refine z_ladd S d_W_decreaseBy_42 ?_
          refine z_topl (fun x10 ex10 => ?_)
          refine z_lstore (lv' := [(5, .long (zL x10)), (0, .ref q), (1, .ref r), (2, .long (zL (g : Int))), (4, .int (zI (sh : Int))), (7, .int (zI (i : Int)))]) S d_W_decreaseBy_43 (by decide) rfl ?_
          obtain ⟨k, hk⟩ : ∃ k : Nat, k = cy + dg 1000000000 o i * g := ⟨_, rfl⟩
          have hx : x10 = (k : Int) := by rw [ex10, lbI_e i rfl, hk]; push_cast; rfl
          have hp := pr_le (dg_lt (b := 1000000000) (by decide) o i) hgB
          have hp2 := Nat.mul_le_mul_right g (show dg 1000000000 o i ≤ 999999999 by have := dg_lt (b := 1000000000) (by decide) o i; omega)
          have l2 := dg_lt (b := 1000000000) (by decide) t (i + sh)
          have hdt := dg_sh 1000000000 t i sh
          have hdr := dg_sh 1000000000 (t - o * g * 1000000000 ^ sh) i sh
          have hs1 := st_sub hz
          have hs2 := st_sub' hz
          rw [← hk] at hs1 hs2
          refine z_aload_n S d_W_decreaseBy_45 1 rfl ?_
          refine z_get S hK la_W 0 rfl rfl 0 (by decide) k_W_9 rfl d_W_decreaseBy_46 ?_
          refine z_iload S d_W_decreaseBy_49 5 rfl ?_
          refine z_iload S d_W_decreaseBy_51 4 rfl ?_
          refine z_iadd S d_W_decreaseBy_53 ?_
          refine z_iald (x := ((dg 1000000000 t (i + sh) : Nat) : Int)) S hK 1 0 rfl rfl (i + sh) (by omega) (by omega) (by decide) (mx_hi (Nat.le_refl _)) d_W_decreaseBy_54 ?_
          refine z_lload S d_W_decreaseBy_55 0 rfl ?_
          refine z_ldc2 (v := 1000000000) (z := 1000000000) S k_W_23 d_W_decreaseBy_57 (by decide) ?_
          refine z_lrem S d_W_decreaseBy_60 (by omega) (by omega) ?_
          refine z_l2i S d_W_decreaseBy_61 ?_
          refine z_isub S d_W_decreaseBy_62 ?_
          refine z_topi (fun x11 ex11 => ?_)
          refine z_istore (lv' := [(8, .int (zI x11)), (5, .long (zL x10)), (0, .ref q), (1, .ref r), (2, .long (zL (g : Int))), (4, .int (zI (sh : Int))), (7, .int (zI (i : Int)))]) S d_W_decreaseBy_63 (by decide) rfl ?_
          refine z_lload S d_W_decreaseBy_65 1 rfl ?_
          refine z_ldc2 (v := 1000000000) (z := 1000000000) S k_W_23 d_W_decreaseBy_67 (by decide) ?_
          refine z_ldiv S d_W_decreaseBy_70 (by omega) (by omega) ?_
          refine z_topl (fun x12 ex12 => ?_)
          refine z_lstore (lv' := [(5, .long (zL x12)), (8, .int (zI x11)), (0, .ref q), (1, .ref r), (2, .long (zL (g : Int))), (4, .int (zI (sh : Int))), (7, .int (zI (i : Int)))]) S d_W_decreaseBy_71 (by decide) rfl ?_
          refine z_iload S d_W_decreaseBy_73 1 rfl ?_
          refine z_if_ge (tgt := 91) S d_W_decreaseBy_75 (by decide) (by omega) (fun c13 => ?_) (fun c13 => ?_)
          · skip
            obtain ⟨g1, g2⟩ := hs1 (by omega)
            refine z_aload_n S d_W_decreaseBy_91 2 rfl ?_
            refine z_get S hK la_W 0 rfl rfl 0 (by decide) k_W_9 rfl d_W_decreaseBy_92 ?_
            refine z_iload S d_W_decreaseBy_95 6 rfl ?_
            refine z_iload S d_W_decreaseBy_97 5 rfl ?_
            refine z_iadd S d_W_decreaseBy_99 ?_
            refine z_iload S d_W_decreaseBy_100 1 rfl ?_
            refine z_iast (f' := mx (wa (t - o * g * 1000000000 ^ sh)) (wa t) (i + 1 + sh)) (ws' := [oW q qa ((us t : Nat) : Int), aI cI qa 12 (mx (wa (t - o * g * 1000000000 ^ sh)) (wa t) (i + 1 + sh)), oW r ra ((us o : Nat) : Int), aI cI ra 12 (wa o)]) S hK 1 0 rfl rfl (i + sh) (by omega) (by omega) (by decide) (by rw [Nat.add_right_comm]; exact mx_up (zI_c (by omega))) rfl d_W_decreaseBy_102 ?_
            refine z_iinc (y := ((i + 1 : Nat) : Int)) (lv' := [(7, .int (zI ((i + 1 : Nat) : Int))), (5, .long (zL x12)), (8, .int (zI x11)), (0, .ref q), (1, .ref r), (2, .long (zL (g : Int))), (4, .int (zI (sh : Int)))]) S d_W_decreaseBy_103 6 rfl (by omega) (by decide) rfl ?_
            refine z_goto (tgt := 6) S d_W_decreaseBy_106 (by decide) ?_
            refine z_lv (lv' := [(0, .ref q), (1, .ref r), (2, .long (zL (g : Int))), (4, .int (zI (sh : Int))), (5, .long (zL x12)), (7, .int (zI ((i + 1 : Nat) : Int)))]) [3, 4, 5, 6, 1, 0] rfl ?_
            refine z_lq (lv' := [(0, .ref q), (1, .ref r), (2, .long (zL (g : Int))), (4, .int (zI (sh : Int))), (5, .long (zL ((k / 1000000000 : Nat) : Int))), (7, .int (zI ((i + 1 : Nat) : Int)))]) (congrArg (fun zzz : Int => ([(0, .ref q), (1, .ref r), (2, .long (zL (g : Int))), (4, .int (zI (sh : Int))), (5, .long (zL zzz)), (7, .int (zI ((i + 1 : Nat) : Int)))] : List (Nat × Value))) (show (x12 : Int) = ((k / 1000000000 : Nat) : Int) by omega)) ?_
            exact ih6 ((i + 1), (k / 1000000000)) (show ((i + 1) + sh ≤ 12) ∧ ((k / 1000000000) ≤ g + 1) ∧ ((t - o * g * 1000000000 ^ sh) / 1000000000 ^ sh / 1000000000 ^ (i + 1) + o / 1000000000 ^ (i + 1) * g + (k / 1000000000) = t / 1000000000 ^ sh / 1000000000 ^ (i + 1)) from ⟨by omega, by omega, g2⟩) (show 12 - (i + 1) < 12 - i from by omega)
          · skip
            obtain ⟨g1, g2⟩ := hs2 (by omega)
            refine z_iload S d_W_decreaseBy_78 1 rfl ?_
            refine z_ldc (v := 1000000000) (z := 1000000000) S k_W_37 d_W_decreaseBy_80 (by decide) ?_
            refine z_iadd S d_W_decreaseBy_82 ?_
            refine z_topi (fun x14 ex14 => ?_)
            refine z_istore (lv' := [(8, .int (zI x14)), (5, .long (zL x12)), (0, .ref q), (1, .ref r), (2, .long (zL (g : Int))), (4, .int (zI (sh : Int))), (7, .int (zI (i : Int)))]) S d_W_decreaseBy_83 (by decide) rfl ?_
            refine z_lload S d_W_decreaseBy_85 1 rfl ?_
            refine z_lconst (z := 1) S d_W_decreaseBy_87 rfl ?_
            refine z_ladd S d_W_decreaseBy_88 ?_
            refine z_topl (fun x15 ex15 => ?_)
            refine z_lstore (lv' := [(5, .long (zL x15)), (8, .int (zI x14)), (0, .ref q), (1, .ref r), (2, .long (zL (g : Int))), (4, .int (zI (sh : Int))), (7, .int (zI (i : Int)))]) S d_W_decreaseBy_89 (by decide) rfl ?_
            refine z_aload_n S d_W_decreaseBy_91 2 rfl ?_
            refine z_get S hK la_W 0 rfl rfl 0 (by decide) k_W_9 rfl d_W_decreaseBy_92 ?_
            refine z_iload S d_W_decreaseBy_95 6 rfl ?_
            refine z_iload S d_W_decreaseBy_97 5 rfl ?_
            refine z_iadd S d_W_decreaseBy_99 ?_
            refine z_iload S d_W_decreaseBy_100 1 rfl ?_
            refine z_iast (f' := mx (wa (t - o * g * 1000000000 ^ sh)) (wa t) (i + 1 + sh)) (ws' := [oW q qa ((us t : Nat) : Int), aI cI qa 12 (mx (wa (t - o * g * 1000000000 ^ sh)) (wa t) (i + 1 + sh)), oW r ra ((us o : Nat) : Int), aI cI ra 12 (wa o)]) S hK 1 0 rfl rfl (i + sh) (by omega) (by omega) (by decide) (by rw [Nat.add_right_comm]; exact mx_up (zI_c (by omega))) rfl d_W_decreaseBy_102 ?_
            refine z_iinc (y := ((i + 1 : Nat) : Int)) (lv' := [(7, .int (zI ((i + 1 : Nat) : Int))), (5, .long (zL x15)), (8, .int (zI x14)), (0, .ref q), (1, .ref r), (2, .long (zL (g : Int))), (4, .int (zI (sh : Int)))]) S d_W_decreaseBy_103 6 rfl (by omega) (by decide) rfl ?_
            refine z_goto (tgt := 6) S d_W_decreaseBy_106 (by decide) ?_
            refine z_lv (lv' := [(0, .ref q), (1, .ref r), (2, .long (zL (g : Int))), (4, .int (zI (sh : Int))), (5, .long (zL x15)), (7, .int (zI ((i + 1 : Nat) : Int)))]) [3, 4, 5, 6, 1, 0] rfl ?_
            refine z_lq (lv' := [(0, .ref q), (1, .ref r), (2, .long (zL (g : Int))), (4, .int (zI (sh : Int))), (5, .long (zL ((k / 1000000000 + 1 : Nat) : Int))), (7, .int (zI ((i + 1 : Nat) : Int)))]) (congrArg (fun zzz : Int => ([(0, .ref q), (1, .ref r), (2, .long (zL (g : Int))), (4, .int (zI (sh : Int))), (5, .long (zL zzz)), (7, .int (zI ((i + 1 : Nat) : Int)))] : List (Nat × Value))) (show (x15 : Int) = ((k / 1000000000 + 1 : Nat) : Int) by omega)) ?_
            exact ih6 ((i + 1), (k / 1000000000 + 1)) (show ((i + 1) + sh ≤ 12) ∧ ((k / 1000000000 + 1) ≤ g + 1) ∧ ((t - o * g * 1000000000 ^ sh) / 1000000000 ^ sh / 1000000000 ^ (i + 1) + o / 1000000000 ^ (i + 1) * g + (k / 1000000000 + 1) = t / 1000000000 ^ sh / 1000000000 ^ (i + 1)) from ⟨by omega, by omega, g2⟩) (show 12 - (i + 1) < 12 - i from by omega)
set_option maxHeartbeats 4000000 in
set_option maxRecDepth 100000 in
theorem s_W_becomeSizeOf (l : Launch) (dC : Nat → ClassId) (dI : Nat → Nat → Nat) (cI cL : ClassId) (qT : Nat) (q : Nat) (qa : Nat) (u : Int) (f : Nat → Int32) (n : Int) (hf : ∀ j, 12 ≤ j → f j = zI 0) (hn : -9223372036854775808 ≤ n ∧ n < 9223372036854775808) : Cv l y_W_becomeSizeOf (Cond.code y_W_becomeSizeOf c_W_becomeSizeOf 6 none :: zB) { frames := 1, cells := 0, slots := 0, locals := 21 } (dC, dI) zcl [(cI, .int), (cL, .long)] (zG cI cL qT) [.ref q, .long (zL n)] [oW q qa u, aI cI qa 12 f] (fun wv => wv = [oW q qa ((us (Int.natAbs n) : Nat) : Int), aI cI qa 12 (wa (Int.natAbs n))]) 0 0 := by
  refine Cm.ofZ (cc := c_W_becomeSizeOf) (maxL := 6) (ret := none) (by decide) rfl (Nat.le_of_ble_eq_true rfl) rfl ?_
  intro p e s m below meth c A S hr hlo hnm hK hg hA hAe
  have hGok := zG_ok cI cL qT
  show ZZ _ _ _ _ _ _ _ _ _ _ _ _ _ _ _ _ _ _ 0 [(0, .ref q), (1, .long (zL n))] [] [oW q qa u, aI cI qa 12 f]
  refine z_aload_n S d_W_becomeSizeOf_0 0 rfl ?_
  refine z_callVv (As := []) (st := []) (wc := [oW q qa u, aI cI qa 12 f]) (wr := []) S hGok hK hg hA (s_W_becomeZero l dC dI cI cL qT q qa u f hf) (zcwV S (List.mem_cons_of_mem _ k_W_30) mV_W_becomeZero k_W_30 hd_W_becomeZero rfl rfl ⟨Nat.le_of_ble_eq_true rfl, Nat.le_of_ble_eq_true rfl⟩) rfl (Nat.le_of_ble_eq_true rfl) d_W_becomeSizeOf_1 ⟨Nat.le_of_ble_eq_true rfl, Nat.le_of_ble_eq_true rfl⟩ rfl [0, 1] [] 0 rfl rfl rfl (by decide) rfl rfl rfl (by decide) (by decide) (fun w hp => ?_)
  subst hp
  show ZZ _ _ _ _ _ _ _ _ _ _ _ _ _ _ _ _ _ _ 4 [(0, .ref q), (1, .long (zL n))] [] [oW q qa ((us 0 : Nat) : Int), aI cI qa 12 (wa 0)]
  refine z_lload_n S d_W_becomeSizeOf_4 1 rfl ?_
  refine z_lconst (z := 0) S d_W_becomeSizeOf_5 rfl ?_
  refine z_lcmp_ge (tgt := 14) S d_W_becomeSizeOf_6 d_W_becomeSizeOf_7 (by decide) (by omega) (by omega) (fun c1 => ?_) (fun c1 => ?_)
  · skip
    refine z_lload_n S d_W_becomeSizeOf_14 1 rfl ?_
    refine z_lneg S d_W_becomeSizeOf_15 ?_
    refine z_topl (fun x2 ex2 => ?_)
    refine z_lstore_n (lv' := [(3, .long (zL x2)), (0, .ref q), (1, .long (zL n))]) S d_W_becomeSizeOf_16 rfl (by decide) rfl ?_
    refine z_iconst S d_W_becomeSizeOf_17 ?_
    refine z_istore (lv' := [(5, .int (zI 0)), (3, .long (zL x2)), (0, .ref q), (1, .long (zL n))]) S d_W_becomeSizeOf_18 (by decide) rfl ?_
    refine z_lv (lv' := [(0, .ref q), (3, .long (zL x2)), (5, .int (zI 0))]) [2, 1, 0] rfl ?_
    refine z_wq (ws' := [oW q qa ((us 0 : Nat) : Int), aI cI qa 12 (mx (wa n.natAbs) (wa 0) 0)]) (by rw [mx_0]) ?_
    refine z_lq (lv' := [(0, .ref q), (3, .long (zL (-((n.natAbs : Nat) : Int)))), (5, .int (zI ((0 : Nat) : Int)))]) (Eq.trans ((congrArg (fun zzz : Int => ([(0, .ref q), (3, .long (zL zzz)), (5, .int (zI 0))] : List (Nat × Value))) (show (x2 : Int) = -((n.natAbs : Nat) : Int) by omega))) (congrArg (fun zzz : Int => ([(0, .ref q), (3, .long (zL (-((n.natAbs : Nat) : Int)))), (5, .int (zI zzz))] : List (Nat × Value))) (show (0 : Int) = ((0 : Nat) : Int) by omega))) ?_
    refine z_loop (I := fun (zz : Nat × Nat) => match zz with | (i, a) => (i ≤ 12) ∧ (a = n.natAbs / 1000000000 ^ i)) (μ := fun (zz : Nat × Nat) => match zz with | (i, a) => 12 - i) (LV := fun (zz : Nat × Nat) => match zz with | (i, a) => [(0, .ref q), (3, .long (zL (-(a : Int)))), (5, .int (zI (i : Int)))]) (WS := fun (zz : Nat × Nat) => match zz with | (i, a) => [oW q qa ((us 0 : Nat) : Int), aI cI qa 12 (mx (wa n.natAbs) (wa 0) i)]) (a := (0, n.natAbs)) ?_ ?_
    · exact (show (0 ≤ 12) ∧ (n.natAbs = n.natAbs / 1000000000 ^ 0) from ⟨by omega, by rw [dv_0]⟩)
    · intro ⟨i, a⟩ hI ih20
      obtain ⟨hi, ha⟩ : (i ≤ 12) ∧ (a = n.natAbs / 1000000000 ^ i) := hI
      show ZZ _ _ _ _ _ _ _ _ _ _ _ _ _ _ _ _ _ _ 20 [(0, .ref q), (3, .long (zL (-(a : Int)))), (5, .int (zI (i : Int)))] [] [oW q qa ((us 0 : Nat) : Int), aI cI qa 12 (mx (wa n.natAbs) (wa 0) i)]
      have hal : a ≤ n.natAbs := by rw [ha]; exact Nat.div_le_self _ _
      have hd : dg 1000000000 n.natAbs i = a % 1000000000 := by rw [ha]; rfl
      refine z_iload S d_W_becomeSizeOf_20 2 rfl ?_
      refine z_bipush S d_W_becomeSizeOf_22 rfl ?_
      refine z_icmp_ge (tgt := 59) S d_W_becomeSizeOf_24 (by decide) (by omega) (by omega) (fun c3 => ?_) (fun c3 => ?_)
      · skip
        refine z_wq (ws' := [oW q qa ((us 0 : Nat) : Int), aI cI qa 12 (wa n.natAbs)]) (by rw [show i = 12 by omega, mx_e (wa_2 (abs_lt hn) (by decide))]) ?_
        refine z_aload_n S d_W_becomeSizeOf_59 0 rfl ?_
        refine z_bipush S d_W_becomeSizeOf_60 rfl ?_
        refine z_callVv (As := [.int (zI 12)]) (st := []) (wc := [oW q qa ((us 0 : Nat) : Int), aI cI qa 12 (wa n.natAbs)]) (wr := []) S hGok hK hg hA (s_W_dropZerosFrom l dC dI cI cL qT q qa ((us 0 : Nat) : Int) n.natAbs 12 (abs_lt hn) (Nat.le_refl 12)) (zcwV S (List.mem_cons_of_mem _ k_W_33) mV_W_dropZerosFrom k_W_33 hd_W_dropZerosFrom rfl rfl ⟨Nat.le_of_ble_eq_true rfl, Nat.le_of_ble_eq_true rfl⟩) rfl (Nat.le_of_ble_eq_true rfl) d_W_becomeSizeOf_62 ⟨Nat.le_of_ble_eq_true rfl, Nat.le_of_ble_eq_true rfl⟩ rfl [0, 1] [] 0 rfl rfl rfl (by decide) rfl rfl rfl (by decide) (by decide) (fun w hp => ?_)
        subst hp
        show ZZ _ _ _ _ _ _ _ _ _ _ _ _ _ _ _ _ _ _ 65 [(0, .ref q), (3, .long (zL (-(a : Int)))), (5, .int (zI (i : Int)))] [] [oW q qa ((us n.natAbs : Nat) : Int), aI cI qa 12 (wa n.natAbs)]
        exact z_vret (w := [oW q qa ((us n.natAbs : Nat) : Int), aI cI qa 12 (wa n.natAbs)]) S hr hlo hAe d_W_becomeSizeOf_65 [0, 1] (by decide) rfl rfl ⟨Nat.le_refl _, Nat.le_refl _⟩ (rfl)
      · skip
        refine z_lload_n S d_W_becomeSizeOf_27 1 rfl ?_
        refine z_lconst (z := 0) S d_W_becomeSizeOf_28 rfl ?_
        refine z_lcmp_eq (tgt := 59) S d_W_becomeSizeOf_29 d_W_becomeSizeOf_30 (by decide) (by omega) (by omega) (fun c4 => ?_) (fun c4 => ?_)
        · skip
          have hz2 : n.natAbs / 1000000000 ^ i = 0 / 1000000000 ^ i := by rw [← ha, Nat.zero_div]; omega
          refine z_wq (ws' := [oW q qa ((us 0 : Nat) : Int), aI cI qa 12 (wa n.natAbs)]) (by rw [mx_e (fun j hj => wa_e (dg_hiE hz2 hj))]) ?_
          refine z_aload_n S d_W_becomeSizeOf_59 0 rfl ?_
          refine z_bipush S d_W_becomeSizeOf_60 rfl ?_
          refine z_callVv (As := [.int (zI 12)]) (st := []) (wc := [oW q qa ((us 0 : Nat) : Int), aI cI qa 12 (wa n.natAbs)]) (wr := []) S hGok hK hg hA (s_W_dropZerosFrom l dC dI cI cL qT q qa ((us 0 : Nat) : Int) n.natAbs 12 (abs_lt hn) (Nat.le_refl 12)) (zcwV S (List.mem_cons_of_mem _ k_W_33) mV_W_dropZerosFrom k_W_33 hd_W_dropZerosFrom rfl rfl ⟨Nat.le_of_ble_eq_true rfl, Nat.le_of_ble_eq_true rfl⟩) rfl (Nat.le_of_ble_eq_true rfl) d_W_becomeSizeOf_62 ⟨Nat.le_of_ble_eq_true rfl, Nat.le_of_ble_eq_true rfl⟩ rfl [0, 1] [] 0 rfl rfl rfl (by decide) rfl rfl rfl (by decide) (by decide) (fun w hp => ?_)
          subst hp
          show ZZ _ _ _ _ _ _ _ _ _ _ _ _ _ _ _ _ _ _ 65 [(0, .ref q), (3, .long (zL (-(a : Int)))), (5, .int (zI (i : Int)))] [] [oW q qa ((us n.natAbs : Nat) : Int), aI cI qa 12 (wa n.natAbs)]
          exact z_vret (w := [oW q qa ((us n.natAbs : Nat) : Int), aI cI qa 12 (wa n.natAbs)]) S hr hlo hAe d_W_becomeSizeOf_65 [0, 1] (by decide) rfl rfl ⟨Nat.le_refl _, Nat.le_refl _⟩ (rfl)
        · skip
          refine z_aload_n S d_W_becomeSizeOf_33 0 rfl ?_
          refine z_get S hK la_W 0 rfl rfl 0 (by decide) k_W_9 rfl d_W_becomeSizeOf_34 ?_
          refine z_iload S d_W_becomeSizeOf_37 2 rfl ?_
          refine z_lload_n S d_W_becomeSizeOf_39 1 rfl ?_
          refine z_ldc2 (v := 1000000000) (z := 1000000000) S k_W_23 d_W_becomeSizeOf_40 (by decide) ?_
          refine z_lremn S d_W_becomeSizeOf_43 (by omega) (by omega) ?_
          refine z_lneg S d_W_becomeSizeOf_44 ?_
          refine z_l2i S d_W_becomeSizeOf_45 ?_
          refine z_topi (fun x5 ex5 => ?_)
          refine z_iast (f' := mx (wa n.natAbs) (wa 0) (i + 1)) (ws' := [oW q qa ((us 0 : Nat) : Int), aI cI qa 12 (mx (wa n.natAbs) (wa 0) (i + 1))]) S hK 1 0 rfl rfl i rfl (by omega) (by decide) (mx_up (zI_c (by omega))) rfl d_W_becomeSizeOf_46 ?_
          refine z_lload_n S d_W_becomeSizeOf_47 1 rfl ?_
          refine z_ldc2 (v := 1000000000) (z := 1000000000) S k_W_23 d_W_becomeSizeOf_48 (by decide) ?_
          refine z_ldivn S d_W_becomeSizeOf_51 (by omega) (by omega) ?_
          refine z_topl (fun x6 ex6 => ?_)
          refine z_lstore_n (lv' := [(3, .long (zL x6)), (0, .ref q), (5, .int (zI (i : Int)))]) S d_W_becomeSizeOf_52 rfl (by decide) rfl ?_
          refine z_iinc (y := ((i + 1 : Nat) : Int)) (lv' := [(5, .int (zI ((i + 1 : Nat) : Int))), (3, .long (zL x6)), (0, .ref q)]) S d_W_becomeSizeOf_53 2 rfl (by omega) (by decide) rfl ?_
          refine z_goto (tgt := 20) S d_W_becomeSizeOf_56 (by decide) ?_
          refine z_lv (lv' := [(0, .ref q), (3, .long (zL x6)), (5, .int (zI ((i + 1 : Nat) : Int)))]) [2, 1, 0] rfl ?_
          refine z_lq (lv' := [(0, .ref q), (3, .long (zL (-((a / 1000000000 : Nat) : Int)))), (5, .int (zI ((i + 1 : Nat) : Int)))]) (congrArg (fun zzz : Int => ([(0, .ref q), (3, .long (zL zzz)), (5, .int (zI ((i + 1 : Nat) : Int)))] : List (Nat × Value))) (show (x6 : Int) = -((a / 1000000000 : Nat) : Int) by omega)) ?_
          exact ih20 ((i + 1), (a / 1000000000)) (show ((i + 1) ≤ 12) ∧ ((a / 1000000000) = n.natAbs / 1000000000 ^ (i + 1)) from ⟨by omega, by rw [dv_s, ← ha]⟩) (show 12 - (i + 1) < 12 - i from by omega)
  · skip
    refine z_lload_n S d_W_becomeSizeOf_10 1 rfl ?_
    refine z_goto (tgt := 16) S d_W_becomeSizeOf_11 (by decide) ?_
    refine z_lstore_n (lv' := [(3, .long (zL n)), (0, .ref q), (1, .long (zL n))]) S d_W_becomeSizeOf_16 rfl (by decide) rfl ?_
    refine z_iconst S d_W_becomeSizeOf_17 ?_
    refine z_istore (lv' := [(5, .int (zI 0)), (3, .long (zL n)), (0, .ref q), (1, .long (zL n))]) S d_W_becomeSizeOf_18 (by decide) rfl ?_
    refine z_lv (lv' := [(0, .ref q), (3, .long (zL n)), (5, .int (zI 0))]) [2, 1, 0] rfl ?_
    refine z_wq (ws' := [oW q qa ((us 0 : Nat) : Int), aI cI qa 12 (mx (wa n.natAbs) (wa 0) 0)]) (by rw [mx_0]) ?_
    refine z_lq (lv' := [(0, .ref q), (3, .long (zL (-((n.natAbs : Nat) : Int)))), (5, .int (zI ((0 : Nat) : Int)))]) (Eq.trans ((congrArg (fun zzz : Int => ([(0, .ref q), (3, .long (zL zzz)), (5, .int (zI 0))] : List (Nat × Value))) (show (n : Int) = -((n.natAbs : Nat) : Int) by omega))) (congrArg (fun zzz : Int => ([(0, .ref q), (3, .long (zL (-((n.natAbs : Nat) : Int)))), (5, .int (zI zzz))] : List (Nat × Value))) (show (0 : Int) = ((0 : Nat) : Int) by omega))) ?_
    refine z_loop (I := fun (zz : Nat × Nat) => match zz with | (i, a) => (i ≤ 12) ∧ (a = n.natAbs / 1000000000 ^ i)) (μ := fun (zz : Nat × Nat) => match zz with | (i, a) => 12 - i) (LV := fun (zz : Nat × Nat) => match zz with | (i, a) => [(0, .ref q), (3, .long (zL (-(a : Int)))), (5, .int (zI (i : Int)))]) (WS := fun (zz : Nat × Nat) => match zz with | (i, a) => [oW q qa ((us 0 : Nat) : Int), aI cI qa 12 (mx (wa n.natAbs) (wa 0) i)]) (a := (0, n.natAbs)) ?_ ?_
    · exact (show (0 ≤ 12) ∧ (n.natAbs = n.natAbs / 1000000000 ^ 0) from ⟨by omega, by rw [dv_0]⟩)
    · intro ⟨i, a⟩ hI ih20
      obtain ⟨hi, ha⟩ : (i ≤ 12) ∧ (a = n.natAbs / 1000000000 ^ i) := hI
      show ZZ _ _ _ _ _ _ _ _ _ _ _ _ _ _ _ _ _ _ 20 [(0, .ref q), (3, .long (zL (-(a : Int)))), (5, .int (zI (i : Int)))] [] [oW q qa ((us 0 : Nat) : Int), aI cI qa 12 (mx (wa n.natAbs) (wa 0) i)]
      have hal : a ≤ n.natAbs := by rw [ha]; exact Nat.div_le_self _ _
      have hd : dg 1000000000 n.natAbs i = a % 1000000000 := by rw [ha]; rfl
      refine z_iload S d_W_becomeSizeOf_20 2 rfl ?_
      refine z_bipush S d_W_becomeSizeOf_22 rfl ?_
      refine z_icmp_ge (tgt := 59) S d_W_becomeSizeOf_24 (by decide) (by omega) (by omega) (fun c7 => ?_) (fun c7 => ?_)
      · skip
        refine z_wq (ws' := [oW q qa ((us 0 : Nat) : Int), aI cI qa 12 (wa n.natAbs)]) (by rw [show i = 12 by omega, mx_e (wa_2 (abs_lt hn) (by decide))]) ?_
        refine z_aload_n S d_W_becomeSizeOf_59 0 rfl ?_
        refine z_bipush S d_W_becomeSizeOf_60 rfl ?_
        refine z_callVv (As := [.int (zI 12)]) (st := []) (wc := [oW q qa ((us 0 : Nat) : Int), aI cI qa 12 (wa n.natAbs)]) (wr := []) S hGok hK hg hA (s_W_dropZerosFrom l dC dI cI cL qT q qa ((us 0 : Nat) : Int) n.natAbs 12 (abs_lt hn) (Nat.le_refl 12)) (zcwV S (List.mem_cons_of_mem _ k_W_33) mV_W_dropZerosFrom k_W_33 hd_W_dropZerosFrom rfl rfl ⟨Nat.le_of_ble_eq_true rfl, Nat.le_of_ble_eq_true rfl⟩) rfl (Nat.le_of_ble_eq_true rfl) d_W_becomeSizeOf_62 ⟨Nat.le_of_ble_eq_true rfl, Nat.le_of_ble_eq_true rfl⟩ rfl [0, 1] [] 0 rfl rfl rfl (by decide) rfl rfl rfl (by decide) (by decide) (fun w hp => ?_)
        subst hp
        show ZZ _ _ _ _ _ _ _ _ _ _ _ _ _ _ _ _ _ _ 65 [(0, .ref q), (3, .long (zL (-(a : Int)))), (5, .int (zI (i : Int)))] [] [oW q qa ((us n.natAbs : Nat) : Int), aI cI qa 12 (wa n.natAbs)]
        exact z_vret (w := [oW q qa ((us n.natAbs : Nat) : Int), aI cI qa 12 (wa n.natAbs)]) S hr hlo hAe d_W_becomeSizeOf_65 [0, 1] (by decide) rfl rfl ⟨Nat.le_refl _, Nat.le_refl _⟩ (rfl)
      · skip
        refine z_lload_n S d_W_becomeSizeOf_27 1 rfl ?_
        refine z_lconst (z := 0) S d_W_becomeSizeOf_28 rfl ?_
        refine z_lcmp_eq (tgt := 59) S d_W_becomeSizeOf_29 d_W_becomeSizeOf_30 (by decide) (by omega) (by omega) (fun c8 => ?_) (fun c8 => ?_)
        · skip
          have hz2 : n.natAbs / 1000000000 ^ i = 0 / 1000000000 ^ i := by rw [← ha, Nat.zero_div]; omega
          refine z_wq (ws' := [oW q qa ((us 0 : Nat) : Int), aI cI qa 12 (wa n.natAbs)]) (by rw [mx_e (fun j hj => wa_e (dg_hiE hz2 hj))]) ?_
          refine z_aload_n S d_W_becomeSizeOf_59 0 rfl ?_
          refine z_bipush S d_W_becomeSizeOf_60 rfl ?_
          refine z_callVv (As := [.int (zI 12)]) (st := []) (wc := [oW q qa ((us 0 : Nat) : Int), aI cI qa 12 (wa n.natAbs)]) (wr := []) S hGok hK hg hA (s_W_dropZerosFrom l dC dI cI cL qT q qa ((us 0 : Nat) : Int) n.natAbs 12 (abs_lt hn) (Nat.le_refl 12)) (zcwV S (List.mem_cons_of_mem _ k_W_33) mV_W_dropZerosFrom k_W_33 hd_W_dropZerosFrom rfl rfl ⟨Nat.le_of_ble_eq_true rfl, Nat.le_of_ble_eq_true rfl⟩) rfl (Nat.le_of_ble_eq_true rfl) d_W_becomeSizeOf_62 ⟨Nat.le_of_ble_eq_true rfl, Nat.le_of_ble_eq_true rfl⟩ rfl [0, 1] [] 0 rfl rfl rfl (by decide) rfl rfl rfl (by decide) (by decide) (fun w hp => ?_)
          subst hp
          show ZZ _ _ _ _ _ _ _ _ _ _ _ _ _ _ _ _ _ _ 65 [(0, .ref q), (3, .long (zL (-(a : Int)))), (5, .int (zI (i : Int)))] [] [oW q qa ((us n.natAbs : Nat) : Int), aI cI qa 12 (wa n.natAbs)]
          exact z_vret (w := [oW q qa ((us n.natAbs : Nat) : Int), aI cI qa 12 (wa n.natAbs)]) S hr hlo hAe d_W_becomeSizeOf_65 [0, 1] (by decide) rfl rfl ⟨Nat.le_refl _, Nat.le_refl _⟩ (rfl)
        · skip
          refine z_aload_n S d_W_becomeSizeOf_33 0 rfl ?_
          refine z_get S hK la_W 0 rfl rfl 0 (by decide) k_W_9 rfl d_W_becomeSizeOf_34 ?_
          refine z_iload S d_W_becomeSizeOf_37 2 rfl ?_
          refine z_lload_n S d_W_becomeSizeOf_39 1 rfl ?_
          refine z_ldc2 (v := 1000000000) (z := 1000000000) S k_W_23 d_W_becomeSizeOf_40 (by decide) ?_
          refine z_lremn S d_W_becomeSizeOf_43 (by omega) (by omega) ?_
          refine z_lneg S d_W_becomeSizeOf_44 ?_
          refine z_l2i S d_W_becomeSizeOf_45 ?_
          refine z_topi (fun x9 ex9 => ?_)
          refine z_iast (f' := mx (wa n.natAbs) (wa 0) (i + 1)) (ws' := [oW q qa ((us 0 : Nat) : Int), aI cI qa 12 (mx (wa n.natAbs) (wa 0) (i + 1))]) S hK 1 0 rfl rfl i rfl (by omega) (by decide) (mx_up (zI_c (by omega))) rfl d_W_becomeSizeOf_46 ?_
          refine z_lload_n S d_W_becomeSizeOf_47 1 rfl ?_
          refine z_ldc2 (v := 1000000000) (z := 1000000000) S k_W_23 d_W_becomeSizeOf_48 (by decide) ?_
          refine z_ldivn S d_W_becomeSizeOf_51 (by omega) (by omega) ?_
          refine z_topl (fun x10 ex10 => ?_)
          refine z_lstore_n (lv' := [(3, .long (zL x10)), (0, .ref q), (5, .int (zI (i : Int)))]) S d_W_becomeSizeOf_52 rfl (by decide) rfl ?_
          refine z_iinc (y := ((i + 1 : Nat) : Int)) (lv' := [(5, .int (zI ((i + 1 : Nat) : Int))), (3, .long (zL x10)), (0, .ref q)]) S d_W_becomeSizeOf_53 2 rfl (by omega) (by decide) rfl ?_
          refine z_goto (tgt := 20) S d_W_becomeSizeOf_56 (by decide) ?_
          refine z_lv (lv' := [(0, .ref q), (3, .long (zL x10)), (5, .int (zI ((i + 1 : Nat) : Int)))]) [2, 1, 0] rfl ?_
          refine z_lq (lv' := [(0, .ref q), (3, .long (zL (-((a / 1000000000 : Nat) : Int)))), (5, .int (zI ((i + 1 : Nat) : Int)))]) (congrArg (fun zzz : Int => ([(0, .ref q), (3, .long (zL zzz)), (5, .int (zI ((i + 1 : Nat) : Int)))] : List (Nat × Value))) (show (x10 : Int) = -((a / 1000000000 : Nat) : Int) by omega)) ?_
          exact ih20 ((i + 1), (a / 1000000000)) (show ((i + 1) ≤ 12) ∧ ((a / 1000000000) = n.natAbs / 1000000000 ^ (i + 1)) from ⟨by omega, by rw [dv_s, ← ha]⟩) (show 12 - (i + 1) < 12 - i from by omega)
set_option maxHeartbeats 4000000 in
set_option maxRecDepth 100000 in
theorem s_W_digitAt (l : Launch) (dC : Nat → ClassId) (dI : Nat → Nat → Nat) (cI cL : ClassId) (qT : Nat) (q : Nat) (qa : Nat) (v : Nat) (i : Nat) (hv : v < 1000000000 ^ 12) (hi : i < 1000) : Ct l y_W_digitAt (Cond.code y_W_digitAt c_W_digitAt 5 (some .int) :: zB) { frames := 1, cells := 0, slots := 0, locals := 21 } (dC, dI) zcl [(cI, .int), (cL, .long)] (zG cI cL qT) [.ref q, .int (zI (i : Int))] [oW q qa ((us v : Nat) : Int), aI cI qa 12 (wa v)] (fun rv wv => rv = .int (zI ((dg 10 v i : Nat) : Int)) ∧ wv = [oW q qa ((us v : Nat) : Int), aI cI qa 12 (wa v)]) 0 0 := by
  refine Cm.ofZ (cc := c_W_digitAt) (maxL := 5) (ret := (some .int)) (by decide) rfl (Nat.le_of_ble_eq_true rfl) rfl ?_
  intro p e s m below meth c A S hr hlo hnm hK hg hA hAe
  have hGok := zG_ok cI cL qT
  show ZZ _ _ _ _ _ _ _ _ _ _ _ _ _ _ _ _ _ _ 0 [(0, .ref q), (1, .int (zI (i : Int)))] [] [oW q qa ((us v : Nat) : Int), aI cI qa 12 (wa v)]
  refine z_aload_n S d_W_digitAt_0 0 rfl ?_
  refine z_iload_n S d_W_digitAt_1 1 rfl ?_
  refine z_bipush S d_W_digitAt_2 rfl ?_
  refine z_idiv S d_W_digitAt_4 (by omega) (by omega) ?_
  refine z_callVa (As := [.int (zI ((i : Int) / 9))]) (st := []) (wc := [oW q qa ((us v : Nat) : Int), aI cI qa 12 (wa v)]) (wr := []) S hGok hK hg hA (s_W_limbAt l dC dI cI cL qT q qa v ((i : Int) / 9) (by omega) (by omega)) (zcwV S (List.mem_cons_of_mem _ k_W_19) mV_W_limbAt k_W_19 hd_W_limbAt rfl rfl ⟨Nat.le_of_ble_eq_true rfl, Nat.le_of_ble_eq_true rfl⟩) rfl (Nat.le_of_ble_eq_true rfl) d_W_digitAt_5 ⟨Nat.le_of_ble_eq_true rfl, Nat.le_of_ble_eq_true rfl⟩ rfl [0, 1] [] 0 rfl rfl rfl (by decide) rfl rfl rfl (by decide) (by decide) (fun x w hp => ?_)
  obtain ⟨rfl, rfl⟩ := hp
  show ZZ _ _ _ _ _ _ _ _ _ _ _ _ _ _ _ _ _ _ 8 [(0, .ref q), (1, .int (zI (i : Int)))] [.long (zL ((lbI v ((i : Int) / 9) : Nat) : Int))] [oW q qa ((us v : Nat) : Int), aI cI qa 12 (wa v)]
  have hl := lbI_e (v := v) (i := (i : Int) / 9) (i / 9) (by omega)
  refine z_lstore_n (lv' := [(2, .long (zL ((lbI v ((i : Int) / 9) : Nat) : Int))), (0, .ref q), (1, .int (zI (i : Int)))]) S d_W_digitAt_8 rfl (by decide) rfl ?_
  refine z_iload_n S d_W_digitAt_9 2 rfl ?_
  refine z_bipush S d_W_digitAt_10 rfl ?_
  refine z_irem S d_W_digitAt_12 (by omega) (by omega) ?_
  refine z_topi (fun x1 ex1 => ?_)
  refine z_istore (lv' := [(4, .int (zI x1)), (2, .long (zL ((lbI v ((i : Int) / 9) : Nat) : Int))), (0, .ref q), (1, .int (zI (i : Int)))]) S d_W_digitAt_13 (by decide) rfl ?_
  refine z_lv (lv' := [(0, .ref q), (1, .int (zI (i : Int))), (2, .long (zL ((lbI v ((i : Int) / 9) : Nat) : Int))), (4, .int (zI x1))]) [2, 3, 1, 0] rfl ?_
  refine z_lq (lv' := [(0, .ref q), (1, .int (zI (i : Int))), (2, .long (zL ((dg 1000000000 v (i / 9) : Nat) : Int))), (4, .int (zI ((i % 9 : Nat) : Int)))]) (Eq.trans ((congrArg (fun zzz : Int => ([(0, .ref q), (1, .int (zI (i : Int))), (2, .long (zL zzz)), (4, .int (zI x1))] : List (Nat × Value))) (show (((lbI v ((i : Int) / 9) : Nat) : Int) : Int) = ((dg 1000000000 v (i / 9) : Nat) : Int) by omega))) (congrArg (fun zzz : Int => ([(0, .ref q), (1, .int (zI (i : Int))), (2, .long (zL ((dg 1000000000 v (i / 9) : Nat) : Int))), (4, .int (zI zzz))] : List (Nat × Value))) (show (x1 : Int) = ((i % 9 : Nat) : Int) by omega))) ?_
  refine z_loop (I := fun (zz : Nat × Nat) => match zz with | (k, z) => (k ≤ 8) ∧ (z < 1000000000) ∧ (z / 10 ^ k % 10 = dg 10 v i)) (μ := fun (zz : Nat × Nat) => match zz with | (k, z) => k) (LV := fun (zz : Nat × Nat) => match zz with | (k, z) => [(0, .ref q), (1, .int (zI (i : Int))), (2, .long (zL (z : Int))), (4, .int (zI (k : Int)))]) (WS := fun (zz : Nat × Nat) => match zz with | (k, z) => [oW q qa ((us v : Nat) : Int), aI cI qa 12 (wa v)]) (a := ((i % 9), (dg 1000000000 v (i / 9)))) ?_ ?_
  · exact (show ((i % 9) ≤ 8) ∧ ((dg 1000000000 v (i / 9)) < 1000000000) ∧ ((dg 1000000000 v (i / 9)) / 10 ^ (i % 9) % 10 = dg 10 v i) from ⟨by omega, dg_lt (by decide) _ _, dec_dig v i⟩)
  · intro ⟨k, z⟩ hI ih15
    obtain ⟨hk, hzl, hz⟩ : (k ≤ 8) ∧ (z < 1000000000) ∧ (z / 10 ^ k % 10 = dg 10 v i) := hI
    show ZZ _ _ _ _ _ _ _ _ _ _ _ _ _ _ _ _ _ _ 15 [(0, .ref q), (1, .int (zI (i : Int))), (2, .long (zL (z : Int))), (4, .int (zI (k : Int)))] [] [oW q qa ((us v : Nat) : Int), aI cI qa 12 (wa v)]
    refine z_iload S d_W_digitAt_15 3 rfl ?_
    refine z_if_le (tgt := 32) S d_W_digitAt_17 (by decide) (by omega) (fun c2 => ?_) (fun c2 => ?_)
    · skip
      have h0 : k = 0 := by omega
      rw [h0, Nat.pow_zero, Nat.div_one] at hz
      refine z_lload_n S d_W_digitAt_32 2 rfl ?_
      refine z_ldc2 (v := 10) (z := 10) S k_W_28 d_W_digitAt_33 (by decide) ?_
      refine z_lrem S d_W_digitAt_36 (by omega) (by omega) ?_
      refine z_l2i S d_W_digitAt_37 ?_
      exact z_iret (w := [oW q qa ((us v : Nat) : Int), aI cI qa 12 (wa v)]) S hr hlo hAe d_W_digitAt_38 [0, 1] (by decide) rfl rfl ⟨Nat.le_refl _, Nat.le_refl _⟩ (⟨congrArg Value.int (zI_c (by omega)), rfl⟩)
    · skip
      refine z_lload_n S d_W_digitAt_20 2 rfl ?_
      refine z_ldc2 (v := 10) (z := 10) S k_W_28 d_W_digitAt_21 (by decide) ?_
      refine z_ldiv S d_W_digitAt_24 (by omega) (by omega) ?_
      refine z_topl (fun x3 ex3 => ?_)
      refine z_lstore_n (lv' := [(2, .long (zL x3)), (0, .ref q), (1, .int (zI (i : Int))), (4, .int (zI (k : Int)))]) S d_W_digitAt_25 rfl (by decide) rfl ?_
      refine z_iinc (y := (k : Int) - 1) (lv' := [(4, .int (zI ((k : Int) - 1))), (2, .long (zL x3)), (0, .ref q), (1, .int (zI (i : Int)))]) S d_W_digitAt_26 3 rfl (by omega) (by decide) rfl ?_
      refine z_goto (tgt := 15) S d_W_digitAt_29 (by decide) ?_
      refine z_lv (lv' := [(0, .ref q), (1, .int (zI (i : Int))), (2, .long (zL x3)), (4, .int (zI ((k : Int) - 1)))]) [2, 3, 1, 0] rfl ?_
      refine z_lq (lv' := [(0, .ref q), (1, .int (zI (i : Int))), (2, .long (zL ((z / 10 : Nat) : Int))), (4, .int (zI ((k - 1 : Nat) : Int)))]) (Eq.trans ((congrArg (fun zzz : Int => ([(0, .ref q), (1, .int (zI (i : Int))), (2, .long (zL zzz)), (4, .int (zI ((k : Int) - 1)))] : List (Nat × Value))) (show (x3 : Int) = ((z / 10 : Nat) : Int) by omega))) (congrArg (fun zzz : Int => ([(0, .ref q), (1, .int (zI (i : Int))), (2, .long (zL ((z / 10 : Nat) : Int))), (4, .int (zI zzz))] : List (Nat × Value))) (show ((k : Int) - 1 : Int) = ((k - 1 : Nat) : Int) by omega))) ?_
      exact ih15 ((k - 1), (z / 10)) (show ((k - 1) ≤ 8) ∧ ((z / 10) < 1000000000) ∧ ((z / 10) / 10 ^ (k - 1) % 10 = dg 10 v i) from ⟨by omega, by omega, by rw [Nat.div_div_eq_div_mul, ← Nat.pow_succ', show (k - 1).succ = k by omega]; exact hz⟩) (show (k - 1) < k from by omega)
