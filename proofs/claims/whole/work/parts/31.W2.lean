set_option maxHeartbeats 4000000 in
set_option maxRecDepth 100000 in
theorem s_W_isOne (l : Launch) (dC : Nat → ClassId) (dI : Nat → Nat → Nat) (cI cL : ClassId) (qT : Nat) (q : Nat) (qa : Nat) (v : Nat) (hv : v < 1000000000 ^ 12) : Ct l y_W_isOne (Cond.code y_W_isOne c_W_isOne 1 (some .boolean) :: zB) { frames := 0, cells := 0, slots := 0, locals := 0 } (dC, dI) zcl [(cI, .int), (cL, .long)] (zG cI cL qT) [.ref q] [oW q qa ((us v : Nat) : Int), aI cI qa 12 (wa v)] (fun rv wv => rv = .int (zI (b2 (v = 1))) ∧ wv = [oW q qa ((us v : Nat) : Int), aI cI qa 12 (wa v)]) 0 0 := by
  refine Cm.ofZ (cc := c_W_isOne) (maxL := 1) (ret := (some .boolean)) (by decide) rfl (Nat.le_of_ble_eq_true rfl) rfl ?_
  intro p e s m below meth c A S hr hlo hnm hK hg hA hAe
  have hGok := zG_ok cI cL qT
  show ZZ _ _ _ _ _ _ _ _ _ _ _ _ _ _ _ _ _ _ 0 [(0, .ref q)] [] [oW q qa ((us v : Nat) : Int), aI cI qa 12 (wa v)]
  have hu := us_le v
  have hd := dg_lt (b := 1000000000) (by decide) v 0
  refine z_aload_n S d_W_isOne_0 0 rfl ?_
  refine z_get S hK la_W 0 rfl rfl 1 (by decide) k_W_15 rfl d_W_isOne_1 ?_
  refine z_iconst S d_W_isOne_4 ?_
  refine z_icmp_ne (tgt := 22) S d_W_isOne_5 (by decide) (by omega) (by omega) (fun c1 => ?_) (fun c1 => ?_)
  · skip
    refine z_iconst S d_W_isOne_22 ?_
    exact z_zret (w := [oW q qa ((us v : Nat) : Int), aI cI qa 12 (wa v)]) S hr hlo hAe (by first | exact Or.inl rfl | exact Or.inr rfl) d_W_isOne_23 [0, 1] (by decide) rfl rfl ⟨Nat.le_refl _, Nat.le_refl _⟩ (⟨by rw [b2_f (fun z => c1 (by rw [z, us_1]; rfl))], rfl⟩)
  · skip
    refine z_aload_n S d_W_isOne_8 0 rfl ?_
    refine z_get S hK la_W 0 rfl rfl 0 (by decide) k_W_9 rfl d_W_isOne_9 ?_
    refine z_iconst S d_W_isOne_12 ?_
    refine z_iald (x := ((dg 1000000000 v 0 : Nat) : Int)) S hK 1 0 rfl rfl 0 rfl (by omega) (by decide) rfl d_W_isOne_13 ?_
    refine z_iconst S d_W_isOne_14 ?_
    refine z_icmp_ne (tgt := 22) S d_W_isOne_15 (by decide) (by omega) (by omega) (fun c2 => ?_) (fun c2 => ?_)
    · skip
      refine z_iconst S d_W_isOne_22 ?_
      exact z_zret (w := [oW q qa ((us v : Nat) : Int), aI cI qa 12 (wa v)]) S hr hlo hAe (by first | exact Or.inl rfl | exact Or.inr rfl) d_W_isOne_23 [0, 1] (by decide) rfl rfl ⟨Nat.le_refl _, Nat.le_refl _⟩ (⟨by rw [b2_f (fun z => c2 (by rw [z]; rfl))], rfl⟩)
    · skip
      refine z_iconst S d_W_isOne_18 ?_
      refine z_goto (tgt := 23) S d_W_isOne_19 (by decide) ?_
      exact z_zret (w := [oW q qa ((us v : Nat) : Int), aI cI qa 12 (wa v)]) S hr hlo hAe (by first | exact Or.inl rfl | exact Or.inr rfl) d_W_isOne_23 [0, 1] (by decide) rfl rfl ⟨Nat.le_refl _, Nat.le_refl _⟩ (⟨by rw [b2_t (one_iff hv (by omega) (by omega))], rfl⟩)
set_option maxHeartbeats 4000000 in
set_option maxRecDepth 100000 in
theorem s_W_isOdd (l : Launch) (dC : Nat → ClassId) (dI : Nat → Nat → Nat) (cI cL : ClassId) (qT : Nat) (q : Nat) (qa : Nat) (v : Nat)  : Ct l y_W_isOdd (Cond.code y_W_isOdd c_W_isOdd 1 (some .boolean) :: zB) { frames := 0, cells := 0, slots := 0, locals := 0 } (dC, dI) zcl [(cI, .int), (cL, .long)] (zG cI cL qT) [.ref q] [oW q qa ((us v : Nat) : Int), aI cI qa 12 (wa v)] (fun rv wv => rv = .int (zI (b2 (v % 2 = 1))) ∧ wv = [oW q qa ((us v : Nat) : Int), aI cI qa 12 (wa v)]) 0 0 := by
  refine Cm.ofZ (cc := c_W_isOdd) (maxL := 1) (ret := (some .boolean)) (by decide) rfl (Nat.le_of_ble_eq_true rfl) rfl ?_
  intro p e s m below meth c A S hr hlo hnm hK hg hA hAe
  have hGok := zG_ok cI cL qT
  show ZZ _ _ _ _ _ _ _ _ _ _ _ _ _ _ _ _ _ _ 0 [(0, .ref q)] [] [oW q qa ((us v : Nat) : Int), aI cI qa 12 (wa v)]
  have hd := dg_lt (b := 1000000000) (by decide) v 0
  have hz := dg_z 1000000000 v
  refine z_aload_n S d_W_isOdd_0 0 rfl ?_
  refine z_get S hK la_W 0 rfl rfl 0 (by decide) k_W_9 rfl d_W_isOdd_1 ?_
  refine z_iconst S d_W_isOdd_4 ?_
  refine z_iald (x := ((dg 1000000000 v 0 : Nat) : Int)) S hK 1 0 rfl rfl 0 rfl (by omega) (by decide) rfl d_W_isOdd_5 ?_
  refine z_iconst S d_W_isOdd_6 ?_
  refine z_irem S d_W_isOdd_7 (by omega) (by omega) ?_
  refine z_if_eq (tgt := 15) S d_W_isOdd_8 (by decide) (by omega) (fun c1 => ?_) (fun c1 => ?_)
  · skip
    refine z_iconst S d_W_isOdd_15 ?_
    exact z_zret (w := [oW q qa ((us v : Nat) : Int), aI cI qa 12 (wa v)]) S hr hlo hAe (by first | exact Or.inl rfl | exact Or.inr rfl) d_W_isOdd_16 [0, 1] (by decide) rfl rfl ⟨Nat.le_refl _, Nat.le_refl _⟩ (⟨by rw [b2_f (by omega)], rfl⟩)
  · skip
    refine z_iconst S d_W_isOdd_11 ?_
    refine z_goto (tgt := 16) S d_W_isOdd_12 (by decide) ?_
    exact z_zret (w := [oW q qa ((us v : Nat) : Int), aI cI qa 12 (wa v)]) S hr hlo hAe (by first | exact Or.inl rfl | exact Or.inr rfl) d_W_isOdd_16 [0, 1] (by decide) rfl rfl ⟨Nat.le_refl _, Nat.le_refl _⟩ (⟨by rw [b2_t (by omega)], rfl⟩)
set_option maxHeartbeats 4000000 in
set_option maxRecDepth 100000 in
theorem s_W_asLong (l : Launch) (dC : Nat → ClassId) (dI : Nat → Nat → Nat) (cI cL : ClassId) (qT : Nat) (q : Nat) (qa : Nat) (v : Nat) (hv : v < 1000000000 ^ 12) (h2 : v < 1000000000 ^ 2) : Ct l y_W_asLong (Cond.code y_W_asLong c_W_asLong 1 (some .long) :: zB) { frames := 1, cells := 0, slots := 0, locals := 21 } (dC, dI) zcl [(cI, .int), (cL, .long)] (zG cI cL qT) [.ref q] [oW q qa ((us v : Nat) : Int), aI cI qa 12 (wa v)] (fun rv wv => rv = .long (zL (v : Int)) ∧ wv = [oW q qa ((us v : Nat) : Int), aI cI qa 12 (wa v)]) 0 0 := by
  refine Cm.ofZ (cc := c_W_asLong) (maxL := 1) (ret := (some .long)) (by decide) rfl (Nat.le_of_ble_eq_true rfl) rfl ?_
  intro p e s m below meth c A S hr hlo hnm hK hg hA hAe
  have hGok := zG_ok cI cL qT
  show ZZ _ _ _ _ _ _ _ _ _ _ _ _ _ _ _ _ _ _ 0 [(0, .ref q)] [] [oW q qa ((us v : Nat) : Int), aI cI qa 12 (wa v)]
  refine z_aload_n S d_W_asLong_0 0 rfl ?_
  refine z_iconst S d_W_asLong_1 ?_
  refine z_callVa (As := [.int (zI 1)]) (st := []) (wc := [oW q qa ((us v : Nat) : Int), aI cI qa 12 (wa v)]) (wr := []) S hGok hK hg hA (s_W_limbAt l dC dI cI cL qT q qa v 1 (by omega) (by omega)) (zcwV S (List.mem_cons_of_mem _ k_W_19) mV_W_limbAt k_W_19 hd_W_limbAt rfl rfl ⟨Nat.le_of_ble_eq_true rfl, Nat.le_of_ble_eq_true rfl⟩) rfl (Nat.le_of_ble_eq_true rfl) d_W_asLong_2 ⟨Nat.le_of_ble_eq_true rfl, Nat.le_of_ble_eq_true rfl⟩ rfl [0, 1] [] 0 rfl rfl rfl (by decide) rfl rfl rfl (by decide) (by decide) (fun x w hp => ?_)
  obtain ⟨rfl, rfl⟩ := hp
  show ZZ _ _ _ _ _ _ _ _ _ _ _ _ _ _ _ _ _ _ 5 [(0, .ref q)] [.long (zL ((lbI v 1 : Nat) : Int))] [oW q qa ((us v : Nat) : Int), aI cI qa 12 (wa v)]
  refine z_ldc2 (v := 1000000000) (z := 1000000000) S k_W_23 d_W_asLong_5 (by decide) ?_
  refine z_lmul S d_W_asLong_8 ?_
  refine z_aload_n S d_W_asLong_9 0 rfl ?_
  refine z_iconst S d_W_asLong_10 ?_
  refine z_callVa (As := [.int (zI 0)]) (st := [.long (zL (((lbI v 1 : Nat) : Int) * 1000000000))]) (wc := [oW q qa ((us v : Nat) : Int), aI cI qa 12 (wa v)]) (wr := []) S hGok hK hg hA (s_W_limbAt l dC dI cI cL qT q qa v 0 (by omega) (by omega)) (zcwV S (List.mem_cons_of_mem _ k_W_19) mV_W_limbAt k_W_19 hd_W_limbAt rfl rfl ⟨Nat.le_of_ble_eq_true rfl, Nat.le_of_ble_eq_true rfl⟩) rfl (Nat.le_of_ble_eq_true rfl) d_W_asLong_11 ⟨Nat.le_of_ble_eq_true rfl, Nat.le_of_ble_eq_true rfl⟩ rfl [0, 1] [] 0 rfl rfl rfl (by decide) rfl rfl rfl (by decide) (by decide) (fun x w hp => ?_)
  obtain ⟨rfl, rfl⟩ := hp
  show ZZ _ _ _ _ _ _ _ _ _ _ _ _ _ _ _ _ _ _ 14 [(0, .ref q)] [.long (zL ((lbI v 0 : Nat) : Int)), .long (zL (((lbI v 1 : Nat) : Int) * 1000000000))] [oW q qa ((us v : Nat) : Int), aI cI qa 12 (wa v)]
  refine z_ladd S d_W_asLong_14 ?_
  exact z_lret (w := [oW q qa ((us v : Nat) : Int), aI cI qa 12 (wa v)]) S hr hlo hAe d_W_asLong_15 [0, 1] (by decide) rfl rfl ⟨Nat.le_refl _, Nat.le_refl _⟩ (⟨by rw [lbI_e (i := 1) 1 rfl, lbI_e (i := 0) 0 rfl]; exact congrArg Value.long (zL_c (by have := long_eq h2; omega)), rfl⟩)
set_option maxHeartbeats 4000000 in
set_option maxRecDepth 100000 in
theorem s_W_becomeCopy (l : Launch) (dC : Nat → ClassId) (dI : Nat → Nat → Nat) (cI cL : ClassId) (qT : Nat) (q : Nat) (qa : Nat) (u : Int) (f : Nat → Int32) (r : Nat) (ra : Nat) (v : Nat) (hv : v < 1000000000 ^ 12) (hf : ∀ j, 12 ≤ j → f j = zI 0) : Cv l y_W_becomeCopy (Cond.code y_W_becomeCopy c_W_becomeCopy 3 none :: zB) { frames := 0, cells := 0, slots := 0, locals := 0 } (dC, dI) zcl [(cI, .int), (cL, .long)] (zG cI cL qT) [.ref q, .ref r] [oW q qa u, aI cI qa 12 f, oW r ra ((us v : Nat) : Int), aI cI ra 12 (wa v)] (fun wv => wv = [oW q qa ((us v : Nat) : Int), aI cI qa 12 (wa v), oW r ra ((us v : Nat) : Int), aI cI ra 12 (wa v)]) 0 0 := by
  refine Cm.ofZ (cc := c_W_becomeCopy) (maxL := 3) (ret := none) (by decide) rfl (Nat.le_of_ble_eq_true rfl) rfl ?_
  intro p e s m below meth c A S hr hlo hnm hK hg hA hAe
  have hGok := zG_ok cI cL qT
  show ZZ _ _ _ _ _ _ _ _ _ _ _ _ _ _ _ _ _ _ 0 [(0, .ref q), (1, .ref r)] [] [oW q qa u, aI cI qa 12 f, oW r ra ((us v : Nat) : Int), aI cI ra 12 (wa v)]
  refine z_iconst S d_W_becomeCopy_0 ?_
  refine z_istore_n (lv' := [(2, .int (zI 0)), (0, .ref q), (1, .ref r)]) S d_W_becomeCopy_1 rfl (by decide) rfl ?_
  refine z_lv (lv' := [(0, .ref q), (1, .ref r), (2, .int (zI 0))]) [1, 2, 0] rfl ?_
  refine z_wq (ws' := [oW q qa u, aI cI qa 12 (mx (wa v) f 0), oW r ra ((us v : Nat) : Int), aI cI ra 12 (wa v)]) (by rw [mx_0]) ?_
  refine z_lq (lv' := [(0, .ref q), (1, .ref r), (2, .int (zI ((0 : Nat) : Int)))]) (congrArg (fun zzz : Int => ([(0, .ref q), (1, .ref r), (2, .int (zI zzz))] : List (Nat × Value))) (show (0 : Int) = ((0 : Nat) : Int) by omega)) ?_
  refine z_loop (I := fun (i : Nat) => (i ≤ 12)) (μ := fun (i : Nat) => 12 - i) (LV := fun (i : Nat) => [(0, .ref q), (1, .ref r), (2, .int (zI (i : Int)))]) (WS := fun (i : Nat) => [oW q qa u, aI cI qa 12 (mx (wa v) f i), oW r ra ((us v : Nat) : Int), aI cI ra 12 (wa v)]) (a := 0) ?_ ?_
  · exact (show (0 ≤ 12) from by omega)
  · intro i hI ih2
    have hi : i ≤ 12 := hI
    show ZZ _ _ _ _ _ _ _ _ _ _ _ _ _ _ _ _ _ _ 2 [(0, .ref q), (1, .ref r), (2, .int (zI (i : Int)))] [] [oW q qa u, aI cI qa 12 (mx (wa v) f i), oW r ra ((us v : Nat) : Int), aI cI ra 12 (wa v)]
    refine z_iload_n S d_W_becomeCopy_2 2 rfl ?_
    refine z_bipush S d_W_becomeCopy_3 rfl ?_
    refine z_icmp_ge (tgt := 26) S d_W_becomeCopy_5 (by decide) (by omega) (by omega) (fun c1 => ?_) (fun c1 => ?_)
    · skip
      have hi12 : i = 12 := by omega
      refine z_wq (ws' := [oW q qa u, aI cI qa 12 (wa v), oW r ra ((us v : Nat) : Int), aI cI ra 12 (wa v)]) (by rw [hi12, mx_e (fun j hj => by rw [hf j hj, wa_hi hv hj])]) ?_
      refine z_aload_n S d_W_becomeCopy_26 0 rfl ?_
      refine z_aload_n S d_W_becomeCopy_27 1 rfl ?_
      refine z_get S hK la_W 2 rfl rfl 1 (by decide) k_W_15 rfl d_W_becomeCopy_28 ?_
      refine z_put (ws' := [oW q qa ((us v : Nat) : Int), aI cI qa 12 (wa v), oW r ra ((us v : Nat) : Int), aI cI ra 12 (wa v)]) S hK la_W ty_W tyok_W nm_W 0 rfl rfl 1 (by decide) k_W_15 rfl (ty := .int) (by decide +kernel) rfl rfl (Nat.le_of_ble_eq_true rfl) rfl d_W_becomeCopy_31 ?_
      exact z_vret (w := [oW q qa ((us v : Nat) : Int), aI cI qa 12 (wa v), oW r ra ((us v : Nat) : Int), aI cI ra 12 (wa v)]) S hr hlo hAe d_W_becomeCopy_34 [0, 1, 2, 3] (by decide) rfl rfl ⟨Nat.le_refl _, Nat.le_refl _⟩ (rfl)
    · skip
      refine z_aload_n S d_W_becomeCopy_8 0 rfl ?_
      refine z_get S hK la_W 0 rfl rfl 0 (by decide) k_W_9 rfl d_W_becomeCopy_9 ?_
      refine z_iload_n S d_W_becomeCopy_12 2 rfl ?_
      refine z_aload_n S d_W_becomeCopy_13 1 rfl ?_
      refine z_get S hK la_W 2 rfl rfl 0 (by decide) k_W_9 rfl d_W_becomeCopy_14 ?_
      refine z_iload_n S d_W_becomeCopy_17 2 rfl ?_
      refine z_iald (x := ((dg 1000000000 v i : Nat) : Int)) S hK 3 0 rfl rfl i rfl (by omega) (by decide) rfl d_W_becomeCopy_18 ?_
      refine z_iast (f' := mx (wa v) f (i + 1)) (ws' := [oW q qa u, aI cI qa 12 (mx (wa v) f (i + 1)), oW r ra ((us v : Nat) : Int), aI cI ra 12 (wa v)]) S hK 1 0 rfl rfl i rfl (by omega) (by decide) (mx_up (zI_c (by omega))) rfl d_W_becomeCopy_19 ?_
      refine z_iinc (y := ((i + 1 : Nat) : Int)) (lv' := [(2, .int (zI ((i + 1 : Nat) : Int))), (0, .ref q), (1, .ref r)]) S d_W_becomeCopy_20 2 rfl (by omega) (by decide) rfl ?_
      refine z_goto (tgt := 2) S d_W_becomeCopy_23 (by decide) ?_
      refine z_lv (lv' := [(0, .ref q), (1, .ref r), (2, .int (zI ((i + 1 : Nat) : Int)))]) [1, 2, 0] rfl ?_
      exact ih2 (i + 1) (show ((i + 1) ≤ 12) from by omega) (show 12 - (i + 1) < 12 - i from by omega)
set_option maxHeartbeats 4000000 in
set_option maxRecDepth 100000 in
theorem s_W_increaseBy (l : Launch) (dC : Nat → ClassId) (dI : Nat → Nat → Nat) (cI cL : ClassId) (qT : Nat) (q : Nat) (qa : Nat) (x : Nat) (r : Nat) (ra : Nat) (y : Nat) (hs : x + y < 1000000000 ^ 12) : Cv l y_W_increaseBy (Cond.code y_W_increaseBy c_W_increaseBy 5 none :: zB) { frames := 1, cells := 0, slots := 0, locals := 21 } (dC, dI) zcl [(cI, .int), (cL, .long)] (zG cI cL qT) [.ref q, .ref r] [oW q qa ((us x : Nat) : Int), aI cI qa 12 (wa x), oW r ra ((us y : Nat) : Int), aI cI ra 12 (wa y)] (fun wv => wv = [oW q qa ((us (x + y) : Nat) : Int), aI cI qa 12 (wa (x + y)), oW r ra ((us y : Nat) : Int), aI cI ra 12 (wa y)]) 0 0 := by
  refine Cm.ofZ (cc := c_W_increaseBy) (maxL := 5) (ret := none) (by decide) rfl (Nat.le_of_ble_eq_true rfl) rfl ?_
  intro p e s m below meth c A S hr hlo hnm hK hg hA hAe
  have hGok := zG_ok cI cL qT
  show ZZ _ _ _ _ _ _ _ _ _ _ _ _ _ _ _ _ _ _ 0 [(0, .ref q), (1, .ref r)] [] [oW q qa ((us x : Nat) : Int), aI cI qa 12 (wa x), oW r ra ((us y : Nat) : Int), aI cI ra 12 (wa y)]
  refine z_iconst S d_W_increaseBy_0 ?_
  refine z_istore_n (lv' := [(2, .int (zI 0)), (0, .ref q), (1, .ref r)]) S d_W_increaseBy_1 rfl (by decide) rfl ?_
  refine z_iconst S d_W_increaseBy_2 ?_
  refine z_istore_n (lv' := [(3, .int (zI 0)), (2, .int (zI 0)), (0, .ref q), (1, .ref r)]) S d_W_increaseBy_3 rfl (by decide) rfl ?_
  refine z_lv (lv' := [(0, .ref q), (1, .ref r), (2, .int (zI 0)), (3, .int (zI 0))]) [2, 3, 1, 0] rfl ?_
  refine z_wq (ws' := [oW q qa ((us x : Nat) : Int), aI cI qa 12 (mx (wa (x + y)) (wa x) 0), oW r ra ((us y : Nat) : Int), aI cI ra 12 (wa y)]) (by rw [mx_0]) ?_
  refine z_lq (lv' := [(0, .ref q), (1, .ref r), (2, .int (zI ((0 : Nat) : Int))), (3, .int (zI ((0 : Nat) : Int)))]) (Eq.trans ((congrArg (fun zzz : Int => ([(0, .ref q), (1, .ref r), (2, .int (zI zzz)), (3, .int (zI 0))] : List (Nat × Value))) (show (0 : Int) = ((0 : Nat) : Int) by omega))) (congrArg (fun zzz : Int => ([(0, .ref q), (1, .ref r), (2, .int (zI ((0 : Nat) : Int))), (3, .int (zI zzz))] : List (Nat × Value))) (show (0 : Int) = ((0 : Nat) : Int) by omega))) ?_
  refine z_loop (I := fun (zz : Nat × Nat) => match zz with | (i, cy) => (i ≤ 12) ∧ (cy ≤ 1) ∧ ((x + y) / 1000000000 ^ i = x / 1000000000 ^ i + y / 1000000000 ^ i + cy)) (μ := fun (zz : Nat × Nat) => match zz with | (i, cy) => 12 - i) (LV := fun (zz : Nat × Nat) => match zz with | (i, cy) => [(0, .ref q), (1, .ref r), (2, .int (zI (cy : Int))), (3, .int (zI (i : Int)))]) (WS := fun (zz : Nat × Nat) => match zz with | (i, cy) => [oW q qa ((us x : Nat) : Int), aI cI qa 12 (mx (wa (x + y)) (wa x) i), oW r ra ((us y : Nat) : Int), aI cI ra 12 (wa y)]) (a := (0, 0)) ?_ ?_
  · exact (show (0 ≤ 12) ∧ (0 ≤ 1) ∧ ((x + y) / 1000000000 ^ 0 = x / 1000000000 ^ 0 + y / 1000000000 ^ 0 + 0) from ⟨by omega, by omega, by rw [dv_0, dv_0, dv_0, Nat.add_zero]⟩)
  · intro ⟨i, cy⟩ hI ih4
    obtain ⟨hi, hc, hz⟩ : (i ≤ 12) ∧ (cy ≤ 1) ∧ ((x + y) / 1000000000 ^ i = x / 1000000000 ^ i + y / 1000000000 ^ i + cy) := hI
    show ZZ _ _ _ _ _ _ _ _ _ _ _ _ _ _ _ _ _ _ 4 [(0, .ref q), (1, .ref r), (2, .int (zI (cy : Int))), (3, .int (zI (i : Int)))] [] [oW q qa ((us x : Nat) : Int), aI cI qa 12 (mx (wa (x + y)) (wa x) i), oW r ra ((us y : Nat) : Int), aI cI ra 12 (wa y)]
    have l1 := dg_lt (b := 1000000000) (by decide) x i
    have l2 := dg_lt (b := 1000000000) (by decide) y i
    have hst := st_add hz hc
    refine z_iload_n S d_W_increaseBy_4 3 rfl ?_
    refine z_bipush S d_W_increaseBy_5 rfl ?_
    refine z_icmp_ge (tgt := 67) S d_W_increaseBy_7 (by decide) (by omega) (by omega) (fun c1 => ?_) (fun c1 => ?_)
    · skip
      have hi12 : i = 12 := by omega
      refine z_wq (ws' := [oW q qa ((us x : Nat) : Int), aI cI qa 12 (wa (x + y)), oW r ra ((us y : Nat) : Int), aI cI ra 12 (wa y)]) (by rw [hi12, mx_e (wa_2 hs (by omega))]) ?_
      refine z_aload_n S d_W_increaseBy_67 0 rfl ?_
      refine z_bipush S d_W_increaseBy_68 rfl ?_
      refine z_callVv (As := [.int (zI 12)]) (st := []) (wc := [oW q qa ((us x : Nat) : Int), aI cI qa 12 (wa (x + y))]) (wr := [oW r ra ((us y : Nat) : Int), aI cI ra 12 (wa y)]) S hGok hK hg hA (s_W_dropZerosFrom l dC dI cI cL qT q qa ((us x : Nat) : Int) (x + y) 12 hs (Nat.le_refl 12)) (zcwV S (List.mem_cons_of_mem _ k_W_33) mV_W_dropZerosFrom k_W_33 hd_W_dropZerosFrom rfl rfl ⟨Nat.le_of_ble_eq_true rfl, Nat.le_of_ble_eq_true rfl⟩) rfl (Nat.le_of_ble_eq_true rfl) d_W_increaseBy_70 ⟨Nat.le_of_ble_eq_true rfl, Nat.le_of_ble_eq_true rfl⟩ rfl [0, 1] [2, 3] 0 rfl rfl rfl (by decide) rfl rfl rfl (by decide) (by decide) (fun w hp => ?_)
      subst hp
      show ZZ _ _ _ _ _ _ _ _ _ _ _ _ _ _ _ _ _ _ 73 [(0, .ref q), (1, .ref r), (2, .int (zI (cy : Int))), (3, .int (zI (i : Int)))] [] [oW r ra ((us y : Nat) : Int), aI cI ra 12 (wa y), oW q qa ((us (x + y) : Nat) : Int), aI cI qa 12 (wa (x + y))]
      exact z_vret (w := [oW q qa ((us (x + y) : Nat) : Int), aI cI qa 12 (wa (x + y)), oW r ra ((us y : Nat) : Int), aI cI ra 12 (wa y)]) S hr hlo hAe d_W_increaseBy_73 [2, 3, 0, 1] (by decide) rfl rfl ⟨Nat.le_refl _, Nat.le_refl _⟩ (rfl)
    · skip
      refine z_aload_n S d_W_increaseBy_10 0 rfl ?_
      refine z_get S hK la_W 0 rfl rfl 0 (by decide) k_W_9 rfl d_W_increaseBy_11 ?_
      refine z_iload_n S d_W_increaseBy_14 3 rfl ?_
      refine z_iald (x := ((dg 1000000000 x i : Nat) : Int)) S hK 1 0 rfl rfl i rfl (by omega) (by decide) (mx_hi (Nat.le_refl i)) d_W_increaseBy_15 ?_
      refine z_aload_n S d_W_increaseBy_16 1 rfl ?_
      refine z_get S hK la_W 2 rfl rfl 0 (by decide) k_W_9 rfl d_W_increaseBy_17 ?_
      refine z_iload_n S d_W_increaseBy_20 3 rfl ?_
      refine z_iald (x := ((dg 1000000000 y i : Nat) : Int)) S hK 3 0 rfl rfl i rfl (by omega) (by decide) rfl d_W_increaseBy_21 ?_
      refine z_iadd S d_W_increaseBy_22 ?_
      refine z_iload_n S d_W_increaseBy_23 2 rfl ?_
      refine z_iadd S d_W_increaseBy_24 ?_
      refine z_topi (fun x2 ex2 => ?_)
      refine z_istore (lv' := [(4, .int (zI x2)), (0, .ref q), (1, .ref r), (2, .int (zI (cy : Int))), (3, .int (zI (i : Int)))]) S d_W_increaseBy_25 (by decide) rfl ?_
      refine z_iload S d_W_increaseBy_27 0 rfl ?_
      refine z_ldc (v := 1000000000) (z := 1000000000) S k_W_37 d_W_increaseBy_29 (by decide) ?_
      refine z_icmp_lt (tgt := 38) S d_W_increaseBy_31 (by decide) (by omega) (by omega) (fun c3 => ?_) (fun c3 => ?_)
      · skip
        obtain ⟨g1, g2⟩ := hst.1 (by omega)
        refine z_iconst S d_W_increaseBy_38 ?_
        refine z_istore_n (lv' := [(2, .int (zI 0)), (4, .int (zI x2)), (0, .ref q), (1, .ref r), (3, .int (zI (i : Int)))]) S d_W_increaseBy_39 rfl (by decide) rfl ?_
        refine z_aload_n S d_W_increaseBy_40 2 rfl ?_
        refine z_get S hK la_W 0 rfl rfl 0 (by decide) k_W_9 rfl d_W_increaseBy_41 ?_
        refine z_iload_n S d_W_increaseBy_44 4 rfl ?_
        refine z_iload_n S d_W_increaseBy_45 0 rfl ?_
        refine z_iconst S d_W_increaseBy_46 ?_
        refine z_icmp_ne (tgt := 58) S d_W_increaseBy_47 (by decide) (by omega) (by omega) (fun c4 => ?_) (fun c4 => ?_)
        · skip
          refine z_iload S d_W_increaseBy_58 1 rfl ?_
          refine z_iast (f' := mx (wa (x + y)) (wa x) (i + 1)) (ws' := [oW q qa ((us x : Nat) : Int), aI cI qa 12 (mx (wa (x + y)) (wa x) (i + 1)), oW r ra ((us y : Nat) : Int), aI cI ra 12 (wa y)]) S hK 1 0 rfl rfl i rfl (by omega) (by decide) (mx_up (zI_c (by omega))) rfl d_W_increaseBy_60 ?_
          refine z_iinc (y := ((i + 1 : Nat) : Int)) (lv' := [(3, .int (zI ((i + 1 : Nat) : Int))), (2, .int (zI 0)), (4, .int (zI x2)), (0, .ref q), (1, .ref r)]) S d_W_increaseBy_61 4 rfl (by omega) (by decide) rfl ?_
          refine z_goto (tgt := 4) S d_W_increaseBy_64 (by decide) ?_
          refine z_lv (lv' := [(0, .ref q), (1, .ref r), (2, .int (zI 0)), (3, .int (zI ((i + 1 : Nat) : Int)))]) [3, 4, 1, 0] rfl ?_
          refine z_lq (lv' := [(0, .ref q), (1, .ref r), (2, .int (zI ((0 : Nat) : Int))), (3, .int (zI ((i + 1 : Nat) : Int)))]) (congrArg (fun zzz : Int => ([(0, .ref q), (1, .ref r), (2, .int (zI zzz)), (3, .int (zI ((i + 1 : Nat) : Int)))] : List (Nat × Value))) (show (0 : Int) = ((0 : Nat) : Int) by omega)) ?_
          exact ih4 ((i + 1), 0) (show ((i + 1) ≤ 12) ∧ (0 ≤ 1) ∧ ((x + y) / 1000000000 ^ (i + 1) = x / 1000000000 ^ (i + 1) + y / 1000000000 ^ (i + 1) + 0) from ⟨by omega, by omega, g2⟩) (show 12 - (i + 1) < 12 - i from by omega)
        · skip
          exact absurd c4 (by omega)
      · skip
        obtain ⟨g1, g2⟩ := hst.2 (by omega)
        refine z_iconst S d_W_increaseBy_34 ?_
        refine z_goto (tgt := 39) S d_W_increaseBy_35 (by decide) ?_
        refine z_istore_n (lv' := [(2, .int (zI 1)), (4, .int (zI x2)), (0, .ref q), (1, .ref r), (3, .int (zI (i : Int)))]) S d_W_increaseBy_39 rfl (by decide) rfl ?_
        refine z_aload_n S d_W_increaseBy_40 2 rfl ?_
        refine z_get S hK la_W 0 rfl rfl 0 (by decide) k_W_9 rfl d_W_increaseBy_41 ?_
        refine z_iload_n S d_W_increaseBy_44 4 rfl ?_
        refine z_iload_n S d_W_increaseBy_45 0 rfl ?_
        refine z_iconst S d_W_increaseBy_46 ?_
        refine z_icmp_ne (tgt := 58) S d_W_increaseBy_47 (by decide) (by omega) (by omega) (fun c5 => ?_) (fun c5 => ?_)
        · skip
          exact absurd c5 (by omega)
        · skip
          refine z_iload S d_W_increaseBy_50 1 rfl ?_
          refine z_ldc (v := 1000000000) (z := 1000000000) S k_W_37 d_W_increaseBy_52 (by decide) ?_
          refine z_isub S d_W_increaseBy_54 ?_
          refine z_goto (tgt := 60) S d_W_increaseBy_55 (by decide) ?_
          refine z_topi (fun x6 ex6 => ?_)
          refine z_iast (f' := mx (wa (x + y)) (wa x) (i + 1)) (ws' := [oW q qa ((us x : Nat) : Int), aI cI qa 12 (mx (wa (x + y)) (wa x) (i + 1)), oW r ra ((us y : Nat) : Int), aI cI ra 12 (wa y)]) S hK 1 0 rfl rfl i rfl (by omega) (by decide) (mx_up (zI_c (by omega))) rfl d_W_increaseBy_60 ?_
          refine z_iinc (y := ((i + 1 : Nat) : Int)) (lv' := [(3, .int (zI ((i + 1 : Nat) : Int))), (2, .int (zI 1)), (4, .int (zI x2)), (0, .ref q), (1, .ref r)]) S d_W_increaseBy_61 4 rfl (by omega) (by decide) rfl ?_
          refine z_goto (tgt := 4) S d_W_increaseBy_64 (by decide) ?_
          refine z_lv (lv' := [(0, .ref q), (1, .ref r), (2, .int (zI 1)), (3, .int (zI ((i + 1 : Nat) : Int)))]) [3, 4, 1, 0] rfl ?_
          refine z_lq (lv' := [(0, .ref q), (1, .ref r), (2, .int (zI ((1 : Nat) : Int))), (3, .int (zI ((i + 1 : Nat) : Int)))]) (congrArg (fun zzz : Int => ([(0, .ref q), (1, .ref r), (2, .int (zI zzz)), (3, .int (zI ((i + 1 : Nat) : Int)))] : List (Nat × Value))) (show (1 : Int) = ((1 : Nat) : Int) by omega)) ?_
          exact ih4 ((i + 1), 1) (show ((i + 1) ≤ 12) ∧ (1 ≤ 1) ∧ ((x + y) / 1000000000 ^ (i + 1) = x / 1000000000 ^ (i + 1) + y / 1000000000 ^ (i + 1) + 1) from ⟨by omega, by omega, g2⟩) (show 12 - (i + 1) < 12 - i from by omega)
