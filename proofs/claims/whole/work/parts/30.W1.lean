set_option maxHeartbeats 4000000 in
set_option maxRecDepth 100000 in
theorem s_W_isZero (l : Launch) (dC : Nat → ClassId) (dI : Nat → Nat → Nat) (cI cL : ClassId) (qT : Nat) (q : Nat) (qa : Nat) (v : Nat) (hv : v < 1000000000 ^ 12) : Ct l y_W_isZero (Cond.code y_W_isZero c_W_isZero 1 (some .boolean) :: zB) { frames := 0, cells := 0, slots := 0, locals := 0 } (dC, dI) zcl [(cI, .int), (cL, .long)] (zG cI cL qT) [.ref q] [oW q qa ((us v : Nat) : Int)] (fun rv wv => rv = .int (zI (b2 (v = 0))) ∧ wv = [oW q qa ((us v : Nat) : Int)]) 0 0 := by
  refine Cm.ofZ (cc := c_W_isZero) (maxL := 1) (ret := (some .boolean)) (by decide) rfl (Nat.le_of_ble_eq_true rfl) rfl ?_
  intro p e s m below meth c A S hr hlo hnm hK hg hA hAe
  have hGok := zG_ok cI cL qT
  show ZZ _ _ _ _ _ _ _ _ _ _ _ _ _ _ _ _ _ _ 0 [(0, .ref q)] [] [oW q qa ((us v : Nat) : Int)]
  have hu := us_le v
  refine z_aload_n S d_W_isZero_0 0 rfl ?_
  refine z_get S hK la_W 0 rfl rfl 1 (by decide) k_W_15 rfl d_W_isZero_1 ?_
  refine z_if_ne (tgt := 11) S d_W_isZero_4 (by decide) (by omega) (fun c1 => ?_) (fun c1 => ?_)
  · skip
    refine z_iconst S d_W_isZero_11 ?_
    exact z_zret (w := [oW q qa ((us v : Nat) : Int)]) S hr hlo hAe (by first | exact Or.inl rfl | exact Or.inr rfl) d_W_isZero_12 [0] (by decide) rfl rfl ⟨Nat.le_refl _, Nat.le_refl _⟩ (⟨by rw [b2_f (fun z => absurd ((us_0 hv).mpr z) (by omega))], rfl⟩)
  · skip
    refine z_iconst S d_W_isZero_7 ?_
    refine z_goto (tgt := 12) S d_W_isZero_8 (by decide) ?_
    exact z_zret (w := [oW q qa ((us v : Nat) : Int)]) S hr hlo hAe (by first | exact Or.inl rfl | exact Or.inr rfl) d_W_isZero_12 [0] (by decide) rfl rfl ⟨Nat.le_refl _, Nat.le_refl _⟩ (⟨by rw [b2_t ((us_0 hv).mp (by omega))], rfl⟩)
set_option maxHeartbeats 4000000 in
set_option maxRecDepth 100000 in
theorem s_W_isShort (l : Launch) (dC : Nat → ClassId) (dI : Nat → Nat → Nat) (cI cL : ClassId) (qT : Nat) (q : Nat) (qa : Nat) (v : Nat)  : Ct l y_W_isShort (Cond.code y_W_isShort c_W_isShort 1 (some .boolean) :: zB) { frames := 0, cells := 0, slots := 0, locals := 0 } (dC, dI) zcl [(cI, .int), (cL, .long)] (zG cI cL qT) [.ref q] [oW q qa ((us v : Nat) : Int)] (fun rv wv => rv = .int (zI (b2 (us v ≤ 2))) ∧ wv = [oW q qa ((us v : Nat) : Int)]) 0 0 := by
  refine Cm.ofZ (cc := c_W_isShort) (maxL := 1) (ret := (some .boolean)) (by decide) rfl (Nat.le_of_ble_eq_true rfl) rfl ?_
  intro p e s m below meth c A S hr hlo hnm hK hg hA hAe
  have hGok := zG_ok cI cL qT
  show ZZ _ _ _ _ _ _ _ _ _ _ _ _ _ _ _ _ _ _ 0 [(0, .ref q)] [] [oW q qa ((us v : Nat) : Int)]
  have hu := us_le v
  refine z_aload_n S d_W_isShort_0 0 rfl ?_
  refine z_get S hK la_W 0 rfl rfl 1 (by decide) k_W_15 rfl d_W_isShort_1 ?_
  refine z_iconst S d_W_isShort_4 ?_
  refine z_icmp_gt (tgt := 12) S d_W_isShort_5 (by decide) (by omega) (by omega) (fun c1 => ?_) (fun c1 => ?_)
  · skip
    refine z_iconst S d_W_isShort_12 ?_
    exact z_zret (w := [oW q qa ((us v : Nat) : Int)]) S hr hlo hAe (by first | exact Or.inl rfl | exact Or.inr rfl) d_W_isShort_13 [0] (by decide) rfl rfl ⟨Nat.le_refl _, Nat.le_refl _⟩ (⟨by rw [b2_f (by omega)], rfl⟩)
  · skip
    refine z_iconst S d_W_isShort_8 ?_
    refine z_goto (tgt := 13) S d_W_isShort_9 (by decide) ?_
    exact z_zret (w := [oW q qa ((us v : Nat) : Int)]) S hr hlo hAe (by first | exact Or.inl rfl | exact Or.inr rfl) d_W_isShort_13 [0] (by decide) rfl rfl ⟨Nat.le_refl _, Nat.le_refl _⟩ (⟨by rw [b2_t (by omega)], rfl⟩)
set_option maxHeartbeats 4000000 in
set_option maxRecDepth 100000 in
theorem s_W_limbAt (l : Launch) (dC : Nat → ClassId) (dI : Nat → Nat → Nat) (cI cL : ClassId) (qT : Nat) (q : Nat) (qa : Nat) (v : Nat) (i : Int) (hv : v < 1000000000 ^ 12) (hi : -2147483648 ≤ i ∧ i < 2147483648) : Ct l y_W_limbAt (Cond.code y_W_limbAt c_W_limbAt 2 (some .long) :: zB) { frames := 0, cells := 0, slots := 0, locals := 0 } (dC, dI) zcl [(cI, .int), (cL, .long)] (zG cI cL qT) [.ref q, .int (zI i)] [oW q qa ((us v : Nat) : Int), aI cI qa 12 (wa v)] (fun rv wv => rv = .long (zL ((lbI v i : Nat) : Int)) ∧ wv = [oW q qa ((us v : Nat) : Int), aI cI qa 12 (wa v)]) 0 0 := by
  refine Cm.ofZ (cc := c_W_limbAt) (maxL := 2) (ret := (some .long)) (by decide) rfl (Nat.le_of_ble_eq_true rfl) rfl ?_
  intro p e s m below meth c A S hr hlo hnm hK hg hA hAe
  have hGok := zG_ok cI cL qT
  show ZZ _ _ _ _ _ _ _ _ _ _ _ _ _ _ _ _ _ _ 0 [(0, .ref q), (1, .int (zI i))] [] [oW q qa ((us v : Nat) : Int), aI cI qa 12 (wa v)]
  refine z_iload_n S d_W_limbAt_0 1 rfl ?_
  refine z_if_lt (tgt := 20) S d_W_limbAt_1 (by decide) (by omega) (fun c1 => ?_) (fun c1 => ?_)
  · skip
    refine z_lconst (z := 0) S d_W_limbAt_20 rfl ?_
    exact z_lret (w := [oW q qa ((us v : Nat) : Int), aI cI qa 12 (wa v)]) S hr hlo hAe d_W_limbAt_21 [0, 1] (by decide) rfl rfl ⟨Nat.le_refl _, Nat.le_refl _⟩ (⟨by rw [lbI_out hv (by omega)]; rfl, rfl⟩)
  · skip
    refine z_iload_n S d_W_limbAt_4 1 rfl ?_
    refine z_bipush S d_W_limbAt_5 rfl ?_
    refine z_icmp_ge (tgt := 20) S d_W_limbAt_7 (by decide) (by omega) (by omega) (fun c2 => ?_) (fun c2 => ?_)
    · skip
      refine z_lconst (z := 0) S d_W_limbAt_20 rfl ?_
      exact z_lret (w := [oW q qa ((us v : Nat) : Int), aI cI qa 12 (wa v)]) S hr hlo hAe d_W_limbAt_21 [0, 1] (by decide) rfl rfl ⟨Nat.le_refl _, Nat.le_refl _⟩ (⟨by rw [lbI_out hv (by omega)]; rfl, rfl⟩)
    · skip
      refine z_aload_n S d_W_limbAt_10 0 rfl ?_
      refine z_get S hK la_W 0 rfl rfl 0 (by decide) k_W_9 rfl d_W_limbAt_11 ?_
      refine z_iload_n S d_W_limbAt_14 1 rfl ?_
      refine z_iald (x := ((dg 1000000000 v i.toNat : Nat) : Int)) S hK 1 0 rfl rfl i.toNat (by omega) (by omega) (by decide) rfl d_W_limbAt_15 ?_
      refine z_i2l S d_W_limbAt_16 (by have := dg_lt (b := 1000000000) (by decide) v i.toNat; omega) ?_
      refine z_goto (tgt := 21) S d_W_limbAt_17 (by decide) ?_
      exact z_lret (w := [oW q qa ((us v : Nat) : Int), aI cI qa 12 (wa v)]) S hr hlo hAe d_W_limbAt_21 [0, 1] (by decide) rfl rfl ⟨Nat.le_refl _, Nat.le_refl _⟩ (⟨by rw [lbI_in (by omega)], rfl⟩)
set_option maxHeartbeats 4000000 in
set_option maxRecDepth 100000 in
theorem s_W_becomeZero (l : Launch) (dC : Nat → ClassId) (dI : Nat → Nat → Nat) (cI cL : ClassId) (qT : Nat) (q : Nat) (qa : Nat) (u : Int) (f : Nat → Int32) (hf : ∀ j, 12 ≤ j → f j = zI 0) : Cv l y_W_becomeZero (Cond.code y_W_becomeZero c_W_becomeZero 2 none :: zB) { frames := 0, cells := 0, slots := 0, locals := 0 } (dC, dI) zcl [(cI, .int), (cL, .long)] (zG cI cL qT) [.ref q] [oW q qa u, aI cI qa 12 f] (fun wv => wv = [oW q qa ((us 0 : Nat) : Int), aI cI qa 12 (wa 0)]) 0 0 := by
  refine Cm.ofZ (cc := c_W_becomeZero) (maxL := 2) (ret := none) (by decide) rfl (Nat.le_of_ble_eq_true rfl) rfl ?_
  intro p e s m below meth c A S hr hlo hnm hK hg hA hAe
  have hGok := zG_ok cI cL qT
  show ZZ _ _ _ _ _ _ _ _ _ _ _ _ _ _ _ _ _ _ 0 [(0, .ref q)] [] [oW q qa u, aI cI qa 12 f]
  refine z_iconst S d_W_becomeZero_0 ?_
  refine z_istore_n (lv' := [(1, .int (zI 0)), (0, .ref q)]) S d_W_becomeZero_1 rfl (by decide) rfl ?_
  refine z_lv (lv' := [(0, .ref q), (1, .int (zI 0))]) [1, 0] rfl ?_
  refine z_wq (ws' := [oW q qa u, aI cI qa 12 (mx (wa 0) f 0)]) (by rw [mx_0]) ?_
  refine z_lq (lv' := [(0, .ref q), (1, .int (zI ((0 : Nat) : Int)))]) (congrArg (fun zzz : Int => ([(0, .ref q), (1, .int (zI zzz))] : List (Nat × Value))) (show (0 : Int) = ((0 : Nat) : Int) by omega)) ?_
  refine z_loop (I := fun (i : Nat) => (i ≤ 12)) (μ := fun (i : Nat) => 12 - i) (LV := fun (i : Nat) => [(0, .ref q), (1, .int (zI (i : Int)))]) (WS := fun (i : Nat) => [oW q qa u, aI cI qa 12 (mx (wa 0) f i)]) (a := 0) ?_ ?_
  · exact (show (0 ≤ 12) from by omega)
  · intro i hI ih2
    have hi : i ≤ 12 := hI
    show ZZ _ _ _ _ _ _ _ _ _ _ _ _ _ _ _ _ _ _ 2 [(0, .ref q), (1, .int (zI (i : Int)))] [] [oW q qa u, aI cI qa 12 (mx (wa 0) f i)]
    refine z_iload_n S d_W_becomeZero_2 1 rfl ?_
    refine z_bipush S d_W_becomeZero_3 rfl ?_
    refine z_icmp_ge (tgt := 21) S d_W_becomeZero_5 (by decide) (by omega) (by omega) (fun c1 => ?_) (fun c1 => ?_)
    · skip
      have hi12 : i = 12 := by omega
      refine z_wq (ws' := [oW q qa u, aI cI qa 12 (wa 0)]) (by rw [hi12, mx_e (fun j hj => by rw [hf j hj]; exact wa0 j)]) ?_
      refine z_aload_n S d_W_becomeZero_21 0 rfl ?_
      refine z_iconst S d_W_becomeZero_22 ?_
      refine z_put (ws' := [oW q qa 0, aI cI qa 12 (wa 0)]) S hK la_W ty_W tyok_W nm_W 0 rfl rfl 1 (by decide) k_W_15 rfl (ty := .int) (by decide +kernel) rfl rfl (Nat.le_of_ble_eq_true rfl) rfl d_W_becomeZero_23 ?_
      exact z_vret (w := [oW q qa 0, aI cI qa 12 (wa 0)]) S hr hlo hAe d_W_becomeZero_26 [0, 1] (by decide) rfl rfl ⟨Nat.le_refl _, Nat.le_refl _⟩ (rfl)
    · skip
      refine z_aload_n S d_W_becomeZero_8 0 rfl ?_
      refine z_get S hK la_W 0 rfl rfl 0 (by decide) k_W_9 rfl d_W_becomeZero_9 ?_
      refine z_iload_n S d_W_becomeZero_12 1 rfl ?_
      refine z_iconst S d_W_becomeZero_13 ?_
      refine z_iast (f' := mx (wa 0) f (i + 1)) (ws' := [oW q qa u, aI cI qa 12 (mx (wa 0) f (i + 1))]) S hK 1 0 rfl rfl i rfl (by omega) (by decide) (mx_up (wa0 i).symm) rfl d_W_becomeZero_14 ?_
      refine z_iinc (y := ((i + 1 : Nat) : Int)) (lv' := [(1, .int (zI ((i + 1 : Nat) : Int))), (0, .ref q)]) S d_W_becomeZero_15 1 rfl (by omega) (by decide) rfl ?_
      refine z_goto (tgt := 2) S d_W_becomeZero_18 (by decide) ?_
      refine z_lv (lv' := [(0, .ref q), (1, .int (zI ((i + 1 : Nat) : Int)))]) [1, 0] rfl ?_
      exact ih2 (i + 1) (show ((i + 1) ≤ 12) from by omega) (show 12 - (i + 1) < 12 - i from by omega)
set_option maxHeartbeats 4000000 in
set_option maxRecDepth 100000 in
theorem s_W_dropZerosFrom (l : Launch) (dC : Nat → ClassId) (dI : Nat → Nat → Nat) (cI cL : ClassId) (qT : Nat) (q : Nat) (qa : Nat) (u : Int) (v : Nat) (t : Nat) (hv : v < 1000000000 ^ t) (ht : t ≤ 12) : Cv l y_W_dropZerosFrom (Cond.code y_W_dropZerosFrom c_W_dropZerosFrom 2 none :: zB) { frames := 0, cells := 0, slots := 0, locals := 0 } (dC, dI) zcl [(cI, .int), (cL, .long)] (zG cI cL qT) [.ref q, .int (zI (t : Int))] [oW q qa u, aI cI qa 12 (wa v)] (fun wv => wv = [oW q qa ((us v : Nat) : Int), aI cI qa 12 (wa v)]) 0 0 := by
  refine Cm.ofZ (cc := c_W_dropZerosFrom) (maxL := 2) (ret := none) (by decide) rfl (Nat.le_of_ble_eq_true rfl) rfl ?_
  intro p e s m below meth c A S hr hlo hnm hK hg hA hAe
  have hGok := zG_ok cI cL qT
  show ZZ _ _ _ _ _ _ _ _ _ _ _ _ _ _ _ _ _ _ 0 [(0, .ref q), (1, .int (zI (t : Int)))] [] [oW q qa u, aI cI qa 12 (wa v)]
  refine z_aload_n S d_W_dropZerosFrom_0 0 rfl ?_
  refine z_iload_n S d_W_dropZerosFrom_1 1 rfl ?_
  refine z_put (ws' := [oW q qa (t : Int), aI cI qa 12 (wa v)]) S hK la_W ty_W tyok_W nm_W 0 rfl rfl 1 (by decide) k_W_15 rfl (ty := .int) (by decide +kernel) rfl rfl (Nat.le_of_ble_eq_true rfl) rfl d_W_dropZerosFrom_2 ?_
  refine z_lv (lv' := [(0, .ref q)]) [0] rfl ?_
  refine z_loop (I := fun (n : Nat) => (n ≤ 12) ∧ (ul (dg 1000000000 v) 12 = ul (dg 1000000000 v) n)) (μ := fun (n : Nat) => n) (LV := fun (n : Nat) => [(0, .ref q)]) (WS := fun (n : Nat) => [oW q qa (n : Int), aI cI qa 12 (wa v)]) (a := t) ?_ ?_
  · exact (show (t ≤ 12) ∧ (ul (dg 1000000000 v) 12 = ul (dg 1000000000 v) t) from ⟨ht, ul_top (by decide) hv ht⟩)
  · intro n hI ih5
    obtain ⟨hn, hz⟩ : (n ≤ 12) ∧ (ul (dg 1000000000 v) 12 = ul (dg 1000000000 v) n) := hI
    show ZZ _ _ _ _ _ _ _ _ _ _ _ _ _ _ _ _ _ _ 5 [(0, .ref q)] [] [oW q qa (n : Int), aI cI qa 12 (wa v)]
    refine z_aload_n S d_W_dropZerosFrom_5 0 rfl ?_
    refine z_get S hK la_W 0 rfl rfl 1 (by decide) k_W_15 rfl d_W_dropZerosFrom_6 ?_
    refine z_if_le (tgt := 39) S d_W_dropZerosFrom_9 (by decide) (by omega) (fun c1 => ?_) (fun c1 => ?_)
    · skip
      have hu : us v = n := by rw [show us v = ul (dg 1000000000 v) n from hz, show n = 0 by omega]; rfl
      refine z_wq (ws' := [oW q qa ((us v : Nat) : Int), aI cI qa 12 (wa v)]) (by rw [hu]) ?_
      exact z_vret (w := [oW q qa ((us v : Nat) : Int), aI cI qa 12 (wa v)]) S hr hlo hAe d_W_dropZerosFrom_39 [0, 1] (by decide) rfl rfl ⟨Nat.le_refl _, Nat.le_refl _⟩ (rfl)
    · skip
      refine z_aload_n S d_W_dropZerosFrom_12 0 rfl ?_
      refine z_get S hK la_W 0 rfl rfl 0 (by decide) k_W_9 rfl d_W_dropZerosFrom_13 ?_
      refine z_aload_n S d_W_dropZerosFrom_16 0 rfl ?_
      refine z_get S hK la_W 0 rfl rfl 1 (by decide) k_W_15 rfl d_W_dropZerosFrom_17 ?_
      refine z_iconst S d_W_dropZerosFrom_20 ?_
      refine z_isub S d_W_dropZerosFrom_21 ?_
      refine z_iald (x := ((dg 1000000000 v (n - 1) : Nat) : Int)) S hK 1 0 rfl rfl (n - 1) (by omega) (by omega) (by decide) rfl d_W_dropZerosFrom_22 ?_
      refine z_if_ne (tgt := 39) S d_W_dropZerosFrom_23 (by decide) (by have := dg_lt (b := 1000000000) (by decide) v (n - 1); omega) (fun c2 => ?_) (fun c2 => ?_)
      · skip
        have hu : us v = n := by rw [show us v = ul (dg 1000000000 v) n from hz]; exact ul_e (by omega) (fun z => c2 (by rw [z]; rfl))
        refine z_wq (ws' := [oW q qa ((us v : Nat) : Int), aI cI qa 12 (wa v)]) (by rw [hu]) ?_
        exact z_vret (w := [oW q qa ((us v : Nat) : Int), aI cI qa 12 (wa v)]) S hr hlo hAe d_W_dropZerosFrom_39 [0, 1] (by decide) rfl rfl ⟨Nat.le_refl _, Nat.le_refl _⟩ (rfl)
      · skip
        have hz1 : ul (dg 1000000000 v) 12 = ul (dg 1000000000 v) (n - 1) := by rw [hz]; exact ul_pr (by omega) (by omega)
        refine z_aload_n S d_W_dropZerosFrom_26 0 rfl ?_
        refine z_dup S d_W_dropZerosFrom_27 rfl ?_
        refine z_get S hK la_W 0 rfl rfl 1 (by decide) k_W_15 rfl d_W_dropZerosFrom_28 ?_
        refine z_iconst S d_W_dropZerosFrom_31 ?_
        refine z_isub S d_W_dropZerosFrom_32 ?_
        refine z_put (ws' := [oW q qa ((n : Int) - 1), aI cI qa 12 (wa v)]) S hK la_W ty_W tyok_W nm_W 0 rfl rfl 1 (by decide) k_W_15 rfl (ty := .int) (by decide +kernel) rfl rfl (Nat.le_of_ble_eq_true rfl) rfl d_W_dropZerosFrom_33 ?_
        refine z_goto (tgt := 5) S d_W_dropZerosFrom_36 (by decide) ?_
        refine z_lv (lv' := [(0, .ref q)]) [0] rfl ?_
        refine z_wq (ws' := [oW q qa ((n - 1 : Nat) : Int), aI cI qa 12 (wa v)]) (congrArg (fun zzz : Int => ([oW q qa zzz, aI cI qa 12 (wa v)] : va_W)) (show ((n : Int) - 1 : Int) = ((n - 1 : Nat) : Int) by omega)) ?_
        exact ih5 (n - 1) (show ((n - 1) ≤ 12) ∧ (ul (dg 1000000000 v) 12 = ul (dg 1000000000 v) (n - 1)) from ⟨by omega, hz1⟩) (show (n - 1) < n from by omega)
