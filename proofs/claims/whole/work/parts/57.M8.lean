def okM (sg : Nat → Int) (up dn : Nat → Nat) (n : Nat) : Prop := ∀ i, i < n → okV (sg i) (up i) (dn i)
theorem zs_lw {N D : Nat} {s : Int} (h : 0 < D) : zs (lwX N D) s = zs N s := by
  unfold zs
  by_cases q : N = 0
  · rw [if_pos q, if_pos ((lwX_0 h).mpr q)]
  · rw [if_neg q, if_neg (fun z => q ((lwX_0 h).mp z))]
theorem zs_pr {a b : Int} {x y : Nat} (h1 : a = 0 ↔ x = 0) (h2 : b = 0 ↔ y = 0) : zs (x * y) (a * b) = a * b := by
  unfold zs
  by_cases q : x * y = 0
  · rw [if_pos q]
    rcases Nat.mul_eq_zero.mp q with z | z
    · rw [h1.mpr z, Int.zero_mul]
    · rw [h2.mpr z, Int.mul_zero]
  · rw [if_neg q]
theorem zs_qu {a b : Int} {x z : Nat} (h0 : ¬ b = 0) (h1 : a = 0 ↔ x = 0) (hz : 0 < z) : zs (x * z) (a * b) = a * b := by
  unfold zs
  by_cases q : x * z = 0
  · rw [if_pos q]
    rcases Nat.mul_eq_zero.mp q with y | y
    · rw [h1.mpr y, Int.zero_mul]
    · omega
  · rw [if_neg q]
set_option maxHeartbeats 4000000 in
set_option maxRecDepth 100000 in
theorem s_M_sign (l : Launch) (dC : Nat → ClassId) (dI : Nat → Nat → Nat) (cI cL : ClassId) (qT : Nat) (mo : Nat) (mw : Nat) (nv : Nat) (ma : Nat) (mb : Nat) (ns : Nat) (mlo : Nat) (mhi : Nat) (nw : Nat) (mwe : Nat) (mru : Nat) (mrd : Nat) (th : Int) (mg : Nat) (sg : Nat → Int) (u : Nat) (hnv : nv ≤ 100) (hu : u < nv) : Ct l y_M_sign (Cond.code y_M_sign c_M_sign 2 (some .int) :: zB) { frames := 1, cells := 0, slots := 0, locals := 23 } (dC, dI) zcl [(cI, .int), (cL, .long)] (zG cI cL qT) [.ref mo, .int (zI (u : Int))] [oM mo th mw (nv : Int) mg ma mb (ns : Int) mlo mhi (nw : Int) mwe mru mrd, aI cI mg 100 (sgA sg)] (fun rv wv => rv = .int (zI (sg u)) ∧ wv = [oM mo 0 mw (nv : Int) mg ma mb (ns : Int) mlo mhi (nw : Int) mwe mru mrd, aI cI mg 100 (sgA sg)]) 0 0 := by
  refine Cm.ofZ (cc := c_M_sign) (maxL := 2) (ret := (some .int)) (by decide) rfl (Nat.le_of_ble_eq_true rfl) rfl ?_
  intro p e s m below meth c A S hr hlo hnm hK hg hA hAe
  have hGok := zG_ok cI cL qT
  show ZZ _ _ _ _ _ _ _ _ _ _ _ _ _ _ _ _ _ _ 0 [(0, .ref mo), (1, .int (zI (u : Int)))] [] [oM mo th mw (nv : Int) mg ma mb (ns : Int) mlo mhi (nw : Int) mwe mru mrd, aI cI mg 100 (sgA sg)]
  refine z_aload_n S d_M_sign_0 0 rfl ?_
  refine z_aload_n S d_M_sign_1 0 rfl ?_
  refine z_iload_n S d_M_sign_2 1 rfl ?_
  refine z_callVa (As := [.int (zI (u : Int))]) (st := [.ref mo]) (wc := [oM mo th mw (nv : Int) mg ma mb (ns : Int) mlo mhi (nw : Int) mwe mru mrd]) (wr := [aI cI mg 100 (sgA sg)]) S hGok hK hg hA (s_M_isValue l dC dI cI cL qT mo mw nv ma mb ns mlo mhi nw mwe mru mrd th mg (u : Int) (by omega) (by omega)) (zcwV S (List.mem_cons_of_mem _ k_M_125) mV_M_isValue k_M_125 hd_M_isValue rfl rfl ⟨Nat.le_of_ble_eq_true rfl, Nat.le_of_ble_eq_true rfl⟩) rfl (Nat.le_of_ble_eq_true rfl) d_M_sign_3 ⟨Nat.le_of_ble_eq_true rfl, Nat.le_of_ble_eq_true rfl⟩ rfl [0] [1] 0 rfl rfl rfl (by decide) rfl rfl rfl (by decide) (by decide) (fun x w hp => ?_)
  obtain ⟨rfl, rfl⟩ := hp
  show ZZ _ _ _ _ _ _ _ _ _ _ _ _ _ _ _ _ _ _ 6 [(0, .ref mo), (1, .int (zI (u : Int)))] [.int (zI (b2 (0 ≤ (u : Int) ∧ (u : Int) < (nv : Int)))), .ref mo] [aI cI mg 100 (sgA sg), oM mo th mw (nv : Int) mg ma mb (ns : Int) mlo mhi (nw : Int) mwe mru mrd]
  refine z_toi (a := 1) (zI_c (b2_t ⟨by omega, by omega⟩)) ?_
  refine z_iconst S d_M_sign_6 ?_
  refine z_iconst S d_M_sign_7 ?_
  refine z_callVa (As := [.int (zI 1), .int (zI 1), .int (zI 1)]) (st := []) (wc := [oM mo th mw (nv : Int) mg ma mb (ns : Int) mlo mhi (nw : Int) mwe mru mrd]) (wr := [aI cI mg 100 (sgA sg)]) S hGok hK hg hA (s_M_goes l dC dI cI cL qT mo mw nv ma mb ns mlo mhi nw mwe mru mrd th mg 1 1 1 (by omega) (by omega) (by omega)) (zcwV S (List.mem_cons_of_mem _ k_M_118) mV_M_goes k_M_118 hd_M_goes rfl rfl ⟨Nat.le_of_ble_eq_true rfl, Nat.le_of_ble_eq_true rfl⟩) rfl (Nat.le_of_ble_eq_true rfl) d_M_sign_8 ⟨Nat.le_of_ble_eq_true rfl, Nat.le_of_ble_eq_true rfl⟩ rfl [1] [0] 1 rfl rfl rfl (by decide) rfl rfl rfl (by decide) (by decide) (fun x w hp => ?_)
  obtain ⟨rfl, rfl⟩ := hp
  show ZZ _ _ _ _ _ _ _ _ _ _ _ _ _ _ _ _ _ _ 11 [(0, .ref mo), (1, .int (zI (u : Int)))] [.int (zI (b2 (gth 1 1 1 = 0)))] [aI cI mg 100 (sgA sg), oM mo (gth 1 1 1) mw (nv : Int) mg ma mb (ns : Int) mlo mhi (nw : Int) mwe mru mrd]
  refine z_toi (a := 1) rfl ?_
  refine z_wq (ws' := [aI cI mg 100 (sgA sg), oM mo 0 mw (nv : Int) mg ma mb (ns : Int) mlo mhi (nw : Int) mwe mru mrd]) rfl ?_
  refine z_if_ne (tgt := 16) S d_M_sign_11 (by decide) (by omega) (fun c1 => ?_) (fun c1 => ?_)
  · skip
    refine z_aload_n S d_M_sign_16 0 rfl ?_
    refine z_get S hK la_M 1 rfl rfl 3 (by decide) k_M_13 rfl d_M_sign_17 ?_
    refine z_iload_n S d_M_sign_20 1 rfl ?_
    refine z_iald (x := sg u) S hK 0 0 rfl rfl u rfl (by omega) (by decide) rfl d_M_sign_21 ?_
    exact z_iret (w := [oM mo 0 mw (nv : Int) mg ma mb (ns : Int) mlo mhi (nw : Int) mwe mru mrd, aI cI mg 100 (sgA sg)]) S hr hlo hAe d_M_sign_22 [1, 0] (by decide) rfl rfl ⟨Nat.le_refl _, Nat.le_refl _⟩ (⟨rfl, rfl⟩)
  · skip
    exact absurd c1 (by omega)
set_option maxHeartbeats 4000000 in
set_option maxRecDepth 100000 in
theorem f1_M_sign (l : Launch) (dC : Nat → ClassId) (dI : Nat → Nat → Nat) (cI cL : ClassId) (qT : Nat) (mo : Nat) (mw : Nat) (nv : Nat) (ma : Nat) (mb : Nat) (ns : Nat) (mlo : Nat) (mhi : Nat) (nw : Nat) (mwe : Nat) (mru : Nat) (mrd : Nat) (th : Int) (mg : Nat) (u : Int) (hnv : nv ≤ 100) (hur : -2147483648 ≤ u ∧ u < 2147483648) (hu : ¬ (0 ≤ u ∧ u < (nv : Int))) : Ct l y_M_sign (Cond.code y_M_sign c_M_sign 2 (some .int) :: zB) { frames := 1, cells := 0, slots := 0, locals := 23 } (dC, dI) zcl [(cI, .int), (cL, .long)] (zG cI cL qT) [.ref mo, .int (zI u)] [oM mo th mw (nv : Int) mg ma mb (ns : Int) mlo mhi (nw : Int) mwe mru mrd] (fun rv wv => rv = .int (zI 0) ∧ wv = [oM mo 1 mw (nv : Int) mg ma mb (ns : Int) mlo mhi (nw : Int) mwe mru mrd]) 0 0 := by
  refine Cm.ofZ (cc := c_M_sign) (maxL := 2) (ret := (some .int)) (by decide) rfl (Nat.le_of_ble_eq_true rfl) rfl ?_
  intro p e s m below meth c A S hr hlo hnm hK hg hA hAe
  have hGok := zG_ok cI cL qT
  show ZZ _ _ _ _ _ _ _ _ _ _ _ _ _ _ _ _ _ _ 0 [(0, .ref mo), (1, .int (zI u))] [] [oM mo th mw (nv : Int) mg ma mb (ns : Int) mlo mhi (nw : Int) mwe mru mrd]
  refine z_aload_n S d_M_sign_0 0 rfl ?_
  refine z_aload_n S d_M_sign_1 0 rfl ?_
  refine z_iload_n S d_M_sign_2 1 rfl ?_
  refine z_callVa (As := [.int (zI u)]) (st := [.ref mo]) (wc := [oM mo th mw (nv : Int) mg ma mb (ns : Int) mlo mhi (nw : Int) mwe mru mrd]) (wr := []) S hGok hK hg hA (s_M_isValue l dC dI cI cL qT mo mw nv ma mb ns mlo mhi nw mwe mru mrd th mg u (by omega) (by omega)) (zcwV S (List.mem_cons_of_mem _ k_M_125) mV_M_isValue k_M_125 hd_M_isValue rfl rfl ⟨Nat.le_of_ble_eq_true rfl, Nat.le_of_ble_eq_true rfl⟩) rfl (Nat.le_of_ble_eq_true rfl) d_M_sign_3 ⟨Nat.le_of_ble_eq_true rfl, Nat.le_of_ble_eq_true rfl⟩ rfl [0] [] 0 rfl rfl rfl (by decide) rfl rfl rfl (by decide) (by decide) (fun x w hp => ?_)
  obtain ⟨rfl, rfl⟩ := hp
  show ZZ _ _ _ _ _ _ _ _ _ _ _ _ _ _ _ _ _ _ 6 [(0, .ref mo), (1, .int (zI u))] [.int (zI (b2 (0 ≤ u ∧ u < (nv : Int)))), .ref mo] [oM mo th mw (nv : Int) mg ma mb (ns : Int) mlo mhi (nw : Int) mwe mru mrd]
  refine z_toi (a := 0) (zI_c (b2_f hu)) ?_
  refine z_iconst S d_M_sign_6 ?_
  refine z_iconst S d_M_sign_7 ?_
  refine z_callVa (As := [.int (zI 0), .int (zI 1), .int (zI 1)]) (st := []) (wc := [oM mo th mw (nv : Int) mg ma mb (ns : Int) mlo mhi (nw : Int) mwe mru mrd]) (wr := []) S hGok hK hg hA (s_M_goes l dC dI cI cL qT mo mw nv ma mb ns mlo mhi nw mwe mru mrd th mg 0 1 1 (by omega) (by omega) (by omega)) (zcwV S (List.mem_cons_of_mem _ k_M_118) mV_M_goes k_M_118 hd_M_goes rfl rfl ⟨Nat.le_of_ble_eq_true rfl, Nat.le_of_ble_eq_true rfl⟩) rfl (Nat.le_of_ble_eq_true rfl) d_M_sign_8 ⟨Nat.le_of_ble_eq_true rfl, Nat.le_of_ble_eq_true rfl⟩ rfl [0] [] 0 rfl rfl rfl (by decide) rfl rfl rfl (by decide) (by decide) (fun x w hp => ?_)
  obtain ⟨rfl, rfl⟩ := hp
  show ZZ _ _ _ _ _ _ _ _ _ _ _ _ _ _ _ _ _ _ 11 [(0, .ref mo), (1, .int (zI u))] [.int (zI (b2 (gth 0 1 1 = 0)))] [oM mo (gth 0 1 1) mw (nv : Int) mg ma mb (ns : Int) mlo mhi (nw : Int) mwe mru mrd]
  refine z_toi (a := 0) rfl ?_
  refine z_wq (ws' := [oM mo 1 mw (nv : Int) mg ma mb (ns : Int) mlo mhi (nw : Int) mwe mru mrd]) rfl ?_
  refine z_if_ne (tgt := 16) S d_M_sign_11 (by decide) (by omega) (fun c1 => ?_) (fun c1 => ?_)
  · skip
    exact absurd c1 (by omega)
  · skip
    refine z_iconst S d_M_sign_14 ?_
    exact z_iret (w := [oM mo 1 mw (nv : Int) mg ma mb (ns : Int) mlo mhi (nw : Int) mwe mru mrd]) S hr hlo hAe d_M_sign_15 [0] (by decide) rfl rfl ⟨Nat.le_refl _, Nat.le_refl _⟩ (⟨rfl, rfl⟩)
set_option maxHeartbeats 4000000 in
set_option maxRecDepth 100000 in
theorem s_M_add (l : Launch) (dC : Nat → ClassId) (dI : Nat → Nat → Nat) (cI cL : ClassId) (qT : Nat) (mo : Nat) (mw : Nat) (nv : Nat) (ma : Nat) (mb : Nat) (ns : Nat) (mlo : Nat) (mhi : Nat) (nw : Nat) (mwe : Nat) (mru : Nat) (mrd : Nat) (th : Int) (mg : Nat) (rr : Nat → Nat) (sg : Nat → Int) (up : Nat → Nat) (dn : Nat → Nat) (u : Nat) (v : Nat) (hnv : nv < 100) (hV : okM sg up dn nv) (hu : u < nv) (hv : v < nv) : Ct l y_M_add (Cond.code y_M_add c_M_add 3 (some .int) :: zB) { frames := 5, cells := 0, slots := 0, locals := 128 } (dC, dI) zcl [(cI, .int), (cL, .long)] (zG cI cL qT) [.ref mo, .int (zI (u : Int)), .int (zI (v : Int))] [oM mo th mw (nv : Int) mg ma mb (ns : Int) mlo mhi (nw : Int) mwe mru mrd, aL cL mw 160 (wkA rr), aI cI mg 100 (sgA sg), aL cL ma 800 (moA up), aL cL mb 800 (moA dn)] (fun rv wv => ∃ rr2 : Nat → Nat, rv = .int (zI (kpR nv (lwX (suN (sg u) (sg v) (up u * dn v) (up v * dn u)) (dn u * dn v)) (lwZ (suN (sg u) (sg v) (up u * dn v) (up v * dn u)) (dn u * dn v)))) ∧ wv = [oM mo 0 mw ((kpC nv (lwX (suN (sg u) (sg v) (up u * dn v) (up v * dn u)) (dn u * dn v)) (lwZ (suN (sg u) (sg v) (up u * dn v) (up v * dn u)) (dn u * dn v)) : Nat) : Int) mg ma mb (ns : Int) mlo mhi (nw : Int) mwe mru mrd, aL cL mw 160 (wkA rr2), aI cI mg 100 (sgA (kpS sg nv (suS (sg u) (sg v) (up u * dn v) (up v * dn u)) (lwX (suN (sg u) (sg v) (up u * dn v) (up v * dn u)) (dn u * dn v)) (lwZ (suN (sg u) (sg v) (up u * dn v) (up v * dn u)) (dn u * dn v)))), aL cL ma 800 (moA (kpU up nv (lwX (suN (sg u) (sg v) (up u * dn v) (up v * dn u)) (dn u * dn v)) (lwX (suN (sg u) (sg v) (up u * dn v) (up v * dn u)) (dn u * dn v)) (lwZ (suN (sg u) (sg v) (up u * dn v) (up v * dn u)) (dn u * dn v)))), aL cL mb 800 (moA (kpU dn nv (lwZ (suN (sg u) (sg v) (up u * dn v) (up v * dn u)) (dn u * dn v)) (lwX (suN (sg u) (sg v) (up u * dn v) (up v * dn u)) (dn u * dn v)) (lwZ (suN (sg u) (sg v) (up u * dn v) (up v * dn u)) (dn u * dn v))))]) 0 0 := by
  refine Cm.ofZ (cc := c_M_add) (maxL := 3) (ret := (some .int)) (by decide) rfl (Nat.le_of_ble_eq_true rfl) rfl ?_
  intro p e s m below meth c A S hr hlo hnm hK hg hA hAe
  have hGok := zG_ok cI cL qT
  show ZZ _ _ _ _ _ _ _ _ _ _ _ _ _ _ _ _ _ _ 0 [(0, .ref mo), (1, .int (zI (u : Int))), (2, .int (zI (v : Int)))] [] [oM mo th mw (nv : Int) mg ma mb (ns : Int) mlo mhi (nw : Int) mwe mru mrd, aL cL mw 160 (wkA rr), aI cI mg 100 (sgA sg), aL cL ma 800 (moA up), aL cL mb 800 (moA dn)]
  have ku := hV u hu
  have kv := hV v hv
  obtain ⟨u1, u2, u3, u4, u5, u6⟩ := id ku
  obtain ⟨v1, v2, v3, v4, v5, v6⟩ := id kv
  have m1 := mul96 u3 v5
  have m2 := mul96 v3 u5
  have m3 := mul96 u5 v5
  have hyt : 1 * sg v = sg v := by omega
  have hyr : -1 ≤ 1 * sg v ∧ 1 * sg v ≤ 1 := by omega
  have hzs := smS_zs (x := sg u) (y := 1 * sg v) (P := up u * dn v) (Q := up v * dn u) ⟨u1, u2⟩ hyr (by rw [Nat.mul_eq_zero]; omega) (by rw [Nat.mul_eq_zero]; omega)
  have hsr := smS_r (x := sg u) (y := 1 * sg v) (P := up u * dn v) (Q := up v * dn u) ⟨u1, u2⟩ hyr
  have hsl := suN_le (x := sg u) (y := 1 * sg v) (P := up u * dn v) (Q := up v * dn u) (N := 1000000 ^ 20) (by omega)
  have hDp := Nat.mul_pos u4 v4
  refine z_aload_n S d_M_add_0 0 rfl ?_
  refine z_aload_n S d_M_add_1 0 rfl ?_
  refine z_iload_n S d_M_add_2 1 rfl ?_
  refine z_callVa (As := [.int (zI (u : Int))]) (st := [.ref mo]) (wc := [oM mo th mw (nv : Int) mg ma mb (ns : Int) mlo mhi (nw : Int) mwe mru mrd]) (wr := [aL cL mw 160 (wkA rr), aI cI mg 100 (sgA sg), aL cL ma 800 (moA up), aL cL mb 800 (moA dn)]) S hGok hK hg hA (s_M_isValue l dC dI cI cL qT mo mw nv ma mb ns mlo mhi nw mwe mru mrd th mg (u : Int) (by omega) (by omega)) (zcwV S (List.mem_cons_of_mem _ k_M_125) mV_M_isValue k_M_125 hd_M_isValue rfl rfl ⟨Nat.le_of_ble_eq_true rfl, Nat.le_of_ble_eq_true rfl⟩) rfl (Nat.le_of_ble_eq_true rfl) d_M_add_3 ⟨Nat.le_of_ble_eq_true rfl, Nat.le_of_ble_eq_true rfl⟩ rfl [0] [1, 2, 3, 4] 0 rfl rfl rfl (by decide) rfl rfl rfl (by decide) (by decide) (fun x w hp => ?_)
  obtain ⟨rfl, rfl⟩ := hp
  show ZZ _ _ _ _ _ _ _ _ _ _ _ _ _ _ _ _ _ _ 6 [(0, .ref mo), (1, .int (zI (u : Int))), (2, .int (zI (v : Int)))] [.int (zI (b2 (0 ≤ (u : Int) ∧ (u : Int) < (nv : Int)))), .ref mo] [aL cL mw 160 (wkA rr), aI cI mg 100 (sgA sg), aL cL ma 800 (moA up), aL cL mb 800 (moA dn), oM mo th mw (nv : Int) mg ma mb (ns : Int) mlo mhi (nw : Int) mwe mru mrd]
  refine z_toi (a := 1) (zI_c (b2_t ⟨by omega, by omega⟩)) ?_
  refine z_if_eq (tgt := 21) S d_M_add_6 (by decide) (by omega) (fun c1 => ?_) (fun c1 => ?_)
  · skip
    exact absurd c1 (by omega)
  · skip
    refine z_aload_n S d_M_add_9 0 rfl ?_
    refine z_iload_n S d_M_add_10 2 rfl ?_
    refine z_callVa (As := [.int (zI (v : Int))]) (st := [.ref mo]) (wc := [oM mo th mw (nv : Int) mg ma mb (ns : Int) mlo mhi (nw : Int) mwe mru mrd]) (wr := [aL cL mw 160 (wkA rr), aI cI mg 100 (sgA sg), aL cL ma 800 (moA up), aL cL mb 800 (moA dn)]) S hGok hK hg hA (s_M_isValue l dC dI cI cL qT mo mw nv ma mb ns mlo mhi nw mwe mru mrd th mg (v : Int) (by omega) (by omega)) (zcwV S (List.mem_cons_of_mem _ k_M_125) mV_M_isValue k_M_125 hd_M_isValue rfl rfl ⟨Nat.le_of_ble_eq_true rfl, Nat.le_of_ble_eq_true rfl⟩) rfl (Nat.le_of_ble_eq_true rfl) d_M_add_11 ⟨Nat.le_of_ble_eq_true rfl, Nat.le_of_ble_eq_true rfl⟩ rfl [4] [0, 1, 2, 3] 4 rfl rfl rfl (by decide) rfl rfl rfl (by decide) (by decide) (fun x w hp => ?_)
    obtain ⟨rfl, rfl⟩ := hp
    show ZZ _ _ _ _ _ _ _ _ _ _ _ _ _ _ _ _ _ _ 14 [(0, .ref mo), (1, .int (zI (u : Int))), (2, .int (zI (v : Int)))] [.int (zI (b2 (0 ≤ (v : Int) ∧ (v : Int) < (nv : Int)))), .ref mo] [aL cL mw 160 (wkA rr), aI cI mg 100 (sgA sg), aL cL ma 800 (moA up), aL cL mb 800 (moA dn), oM mo th mw (nv : Int) mg ma mb (ns : Int) mlo mhi (nw : Int) mwe mru mrd]
    refine z_toi (a := 1) (zI_c (b2_t ⟨by omega, by omega⟩)) ?_
    refine z_if_eq (tgt := 21) S d_M_add_14 (by decide) (by omega) (fun c2 => ?_) (fun c2 => ?_)
    · skip
      exact absurd c2 (by omega)
    · skip
      refine z_iconst S d_M_add_17 ?_
      refine z_goto (tgt := 22) S d_M_add_18 (by decide) ?_
      refine z_aload_n S d_M_add_22 0 rfl ?_
      refine z_get S hK la_M 4 rfl rfl 2 (by decide) k_M_42 rfl d_M_add_23 ?_
      refine z_bipush S d_M_add_26 rfl ?_
      refine z_icmp_ge (tgt := 35) S d_M_add_28 (by decide) (by omega) (by omega) (fun c3 => ?_) (fun c3 => ?_)
      · skip
        omega
      · skip
        refine z_iconst S d_M_add_31 ?_
        refine z_goto (tgt := 36) S d_M_add_32 (by decide) ?_
        refine z_iconst S d_M_add_36 ?_
        refine z_callVa (As := [.int (zI 1), .int (zI 1), .int (zI 1)]) (st := []) (wc := [oM mo th mw (nv : Int) mg ma mb (ns : Int) mlo mhi (nw : Int) mwe mru mrd]) (wr := [aL cL mw 160 (wkA rr), aI cI mg 100 (sgA sg), aL cL ma 800 (moA up), aL cL mb 800 (moA dn)]) S hGok hK hg hA (s_M_goes l dC dI cI cL qT mo mw nv ma mb ns mlo mhi nw mwe mru mrd th mg 1 1 1 (by omega) (by omega) (by omega)) (zcwV S (List.mem_cons_of_mem _ k_M_118) mV_M_goes k_M_118 hd_M_goes rfl rfl ⟨Nat.le_of_ble_eq_true rfl, Nat.le_of_ble_eq_true rfl⟩) rfl (Nat.le_of_ble_eq_true rfl) d_M_add_37 ⟨Nat.le_of_ble_eq_true rfl, Nat.le_of_ble_eq_true rfl⟩ rfl [4] [0, 1, 2, 3] 4 rfl rfl rfl (by decide) rfl rfl rfl (by decide) (by decide) (fun x w hp => ?_)
        obtain ⟨rfl, rfl⟩ := hp
        show ZZ _ _ _ _ _ _ _ _ _ _ _ _ _ _ _ _ _ _ 40 [(0, .ref mo), (1, .int (zI (u : Int))), (2, .int (zI (v : Int)))] [.int (zI (b2 (gth 1 1 1 = 0)))] [aL cL mw 160 (wkA rr), aI cI mg 100 (sgA sg), aL cL ma 800 (moA up), aL cL mb 800 (moA dn), oM mo (gth 1 1 1) mw (nv : Int) mg ma mb (ns : Int) mlo mhi (nw : Int) mwe mru mrd]
        refine z_toi (a := 1) rfl ?_
        refine z_wq (ws' := [aL cL mw 160 (wkA rr), aI cI mg 100 (sgA sg), aL cL ma 800 (moA up), aL cL mb 800 (moA dn), oM mo 0 mw (nv : Int) mg ma mb (ns : Int) mlo mhi (nw : Int) mwe mru mrd]) rfl ?_
        refine z_if_ne (tgt := 45) S d_M_add_40 (by decide) (by omega) (fun c4 => ?_) (fun c4 => ?_)
        · skip
          refine z_aload_n S d_M_add_45 0 rfl ?_
          refine z_aload_n S d_M_add_46 0 rfl ?_
          refine z_iload_n S d_M_add_47 1 rfl ?_
          refine z_iload_n S d_M_add_48 2 rfl ?_
          refine z_iconst S d_M_add_49 ?_
          refine z_callVa (As := [.int (zI (u : Int)), .int (zI (v : Int)), .int (zI 1)]) (st := [.ref mo]) (wc := [oM mo 0 mw (nv : Int) mg ma mb (ns : Int) mlo mhi (nw : Int) mwe mru mrd, aL cL mw 160 (wkA rr), aI cI mg 100 (sgA sg), aL cL ma 800 (moA up), aL cL mb 800 (moA dn)]) (wr := []) S hGok hK hg hA (s_M_sum l dC dI cI cL qT mo mw nv ma mb ns mlo mhi nw mwe mru mrd 0 mg rr sg up dn u v 1 (by omega) (by omega) u3 u5 ⟨u1, u2⟩ v3 v5 ⟨v1, v2⟩ (Or.inl rfl)) (zcwV S (List.mem_cons_of_mem _ k_M_128) mV_M_sum k_M_128 hd_M_sum rfl rfl ⟨Nat.le_of_ble_eq_true rfl, Nat.le_of_ble_eq_true rfl⟩) rfl (Nat.le_of_ble_eq_true rfl) d_M_add_50 ⟨Nat.le_of_ble_eq_true rfl, Nat.le_of_ble_eq_true rfl⟩ rfl [4, 0, 1, 2, 3] [] 4 rfl rfl rfl (by decide) rfl rfl rfl (by decide) (by decide) (fun x w hp => ?_)
          obtain ⟨rs, sk0, sk1, rfl, rfl⟩ := hp
          show ZZ _ _ _ _ _ _ _ _ _ _ _ _ _ _ _ _ _ _ 53 [(0, .ref mo), (1, .int (zI (u : Int))), (2, .int (zI (v : Int)))] [.int (zI (smS (sg u) (1 * sg v) (up u * dn v) (up v * dn u))), .ref mo] [oM mo 0 mw (nv : Int) mg ma mb (ns : Int) mlo mhi (nw : Int) mwe mru mrd, aL cL mw 160 (wkA rs), aI cI mg 100 (sgA sg), aL cL ma 800 (moA up), aL cL mb 800 (moA dn)]
          refine z_callVa (As := [.int (zI (smS (sg u) (1 * sg v) (up u * dn v) (up v * dn u)))]) (st := []) (wc := [oM mo 0 mw (nv : Int) mg ma mb (ns : Int) mlo mhi (nw : Int) mwe mru mrd, aL cL mw 160 (wkA rs), aI cI mg 100 (sgA sg), aL cL ma 800 (moA up), aL cL mb 800 (moA dn)]) (wr := []) S hGok hK hg hA (s_M_keep l dC dI cI cL qT mo mw nv ma mb ns mlo mhi nw mwe mru mrd 0 mg rs sg up dn (smS (sg u) (1 * sg v) (up u * dn v) (up v * dn u)) (by omega) (by rw [sk0]; exact hsl) (by rw [sk1]; omega) (by rw [sk1]; exact hDp) hsr) (zcwV S (List.mem_cons_of_mem _ k_M_122) mV_M_keep k_M_122 hd_M_keep rfl rfl ⟨Nat.le_of_ble_eq_true rfl, Nat.le_of_ble_eq_true rfl⟩) rfl (Nat.le_of_ble_eq_true rfl) d_M_add_53 ⟨Nat.le_of_ble_eq_true rfl, Nat.le_of_ble_eq_true rfl⟩ rfl [0, 1, 2, 3, 4] [] 0 rfl rfl rfl (by decide) rfl rfl rfl (by decide) (by decide) (fun x w hp => ?_)
          obtain ⟨rk, rfl, rfl⟩ := hp
          show ZZ _ _ _ _ _ _ _ _ _ _ _ _ _ _ _ _ _ _ 56 [(0, .ref mo), (1, .int (zI (u : Int))), (2, .int (zI (v : Int)))] [.int (zI (kpR nv (lwX (rs 0) (rs 1)) (lwZ (rs 0) (rs 1))))] [oM mo 0 mw ((kpC nv (lwX (rs 0) (rs 1)) (lwZ (rs 0) (rs 1)) : Nat) : Int) mg ma mb (ns : Int) mlo mhi (nw : Int) mwe mru mrd, aL cL mw 160 (wkA rk), aI cI mg 100 (sgA (kpS sg nv (zs (lwX (rs 0) (rs 1)) (smS (sg u) (1 * sg v) (up u * dn v) (up v * dn u))) (lwX (rs 0) (rs 1)) (lwZ (rs 0) (rs 1)))), aL cL ma 800 (moA (kpU up nv (lwX (rs 0) (rs 1)) (lwX (rs 0) (rs 1)) (lwZ (rs 0) (rs 1)))), aL cL mb 800 (moA (kpU dn nv (lwZ (rs 0) (rs 1)) (lwX (rs 0) (rs 1)) (lwZ (rs 0) (rs 1))))]
          have hS : zs (lwX (suN (sg u) (1 * sg v) (up u * dn v) (up v * dn u)) (dn u * dn v)) (smS (sg u) (1 * sg v) (up u * dn v) (up v * dn u)) = suS (sg u) (1 * sg v) (up u * dn v) (up v * dn u) := (zs_lw hDp).trans hzs
          exact z_iret (w := [oM mo 0 mw ((kpC nv (lwX (rs 0) (rs 1)) (lwZ (rs 0) (rs 1)) : Nat) : Int) mg ma mb (ns : Int) mlo mhi (nw : Int) mwe mru mrd, aL cL mw 160 (wkA rk), aI cI mg 100 (sgA (kpS sg nv (zs (lwX (rs 0) (rs 1)) (smS (sg u) (1 * sg v) (up u * dn v) (up v * dn u))) (lwX (rs 0) (rs 1)) (lwZ (rs 0) (rs 1)))), aL cL ma 800 (moA (kpU up nv (lwX (rs 0) (rs 1)) (lwX (rs 0) (rs 1)) (lwZ (rs 0) (rs 1)))), aL cL mb 800 (moA (kpU dn nv (lwZ (rs 0) (rs 1)) (lwX (rs 0) (rs 1)) (lwZ (rs 0) (rs 1))))]) S hr hlo hAe d_M_add_56 [0, 1, 2, 3, 4] (by decide) rfl rfl ⟨Nat.le_refl _, Nat.le_refl _⟩ (⟨rk, by rw [sk0, sk1, hyt], by rw [sk0, sk1, hS, hyt]⟩)
        · skip
          exact absurd c4 (by omega)
set_option maxHeartbeats 4000000 in
set_option maxRecDepth 100000 in
theorem s_M_less (l : Launch) (dC : Nat → ClassId) (dI : Nat → Nat → Nat) (cI cL : ClassId) (qT : Nat) (mo : Nat) (mw : Nat) (nv : Nat) (ma : Nat) (mb : Nat) (ns : Nat) (mlo : Nat) (mhi : Nat) (nw : Nat) (mwe : Nat) (mru : Nat) (mrd : Nat) (th : Int) (mg : Nat) (rr : Nat → Nat) (sg : Nat → Int) (up : Nat → Nat) (dn : Nat → Nat) (u : Nat) (v : Nat) (hnv : nv < 100) (hV : okM sg up dn nv) (hu : u < nv) (hv : v < nv) : Ct l y_M_less (Cond.code y_M_less c_M_less 3 (some .int) :: zB) { frames := 5, cells := 0, slots := 0, locals := 128 } (dC, dI) zcl [(cI, .int), (cL, .long)] (zG cI cL qT) [.ref mo, .int (zI (u : Int)), .int (zI (v : Int))] [oM mo th mw (nv : Int) mg ma mb (ns : Int) mlo mhi (nw : Int) mwe mru mrd, aL cL mw 160 (wkA rr), aI cI mg 100 (sgA sg), aL cL ma 800 (moA up), aL cL mb 800 (moA dn)] (fun rv wv => ∃ rr2 : Nat → Nat, rv = .int (zI (kpR nv (lwX (suN (sg u) (-sg v) (up u * dn v) (up v * dn u)) (dn u * dn v)) (lwZ (suN (sg u) (-sg v) (up u * dn v) (up v * dn u)) (dn u * dn v)))) ∧ wv = [oM mo 0 mw ((kpC nv (lwX (suN (sg u) (-sg v) (up u * dn v) (up v * dn u)) (dn u * dn v)) (lwZ (suN (sg u) (-sg v) (up u * dn v) (up v * dn u)) (dn u * dn v)) : Nat) : Int) mg ma mb (ns : Int) mlo mhi (nw : Int) mwe mru mrd, aL cL mw 160 (wkA rr2), aI cI mg 100 (sgA (kpS sg nv (suS (sg u) (-sg v) (up u * dn v) (up v * dn u)) (lwX (suN (sg u) (-sg v) (up u * dn v) (up v * dn u)) (dn u * dn v)) (lwZ (suN (sg u) (-sg v) (up u * dn v) (up v * dn u)) (dn u * dn v)))), aL cL ma 800 (moA (kpU up nv (lwX (suN (sg u) (-sg v) (up u * dn v) (up v * dn u)) (dn u * dn v)) (lwX (suN (sg u) (-sg v) (up u * dn v) (up v * dn u)) (dn u * dn v)) (lwZ (suN (sg u) (-sg v) (up u * dn v) (up v * dn u)) (dn u * dn v)))), aL cL mb 800 (moA (kpU dn nv (lwZ (suN (sg u) (-sg v) (up u * dn v) (up v * dn u)) (dn u * dn v)) (lwX (suN (sg u) (-sg v) (up u * dn v) (up v * dn u)) (dn u * dn v)) (lwZ (suN (sg u) (-sg v) (up u * dn v) (up v * dn u)) (dn u * dn v))))]) 0 0 := by
  refine Cm.ofZ (cc := c_M_less) (maxL := 3) (ret := (some .int)) (by decide) rfl (Nat.le_of_ble_eq_true rfl) rfl ?_
  intro p e s m below meth c A S hr hlo hnm hK hg hA hAe
  have hGok := zG_ok cI cL qT
  show ZZ _ _ _ _ _ _ _ _ _ _ _ _ _ _ _ _ _ _ 0 [(0, .ref mo), (1, .int (zI (u : Int))), (2, .int (zI (v : Int)))] [] [oM mo th mw (nv : Int) mg ma mb (ns : Int) mlo mhi (nw : Int) mwe mru mrd, aL cL mw 160 (wkA rr), aI cI mg 100 (sgA sg), aL cL ma 800 (moA up), aL cL mb 800 (moA dn)]
  have ku := hV u hu
  have kv := hV v hv
  obtain ⟨u1, u2, u3, u4, u5, u6⟩ := id ku
  obtain ⟨v1, v2, v3, v4, v5, v6⟩ := id kv
  have m1 := mul96 u3 v5
  have m2 := mul96 v3 u5
  have m3 := mul96 u5 v5
  have hyt : (-1) * sg v = -sg v := by omega
  have hyr : -1 ≤ (-1) * sg v ∧ (-1) * sg v ≤ 1 := by omega
  have hzs := smS_zs (x := sg u) (y := (-1) * sg v) (P := up u * dn v) (Q := up v * dn u) ⟨u1, u2⟩ hyr (by rw [Nat.mul_eq_zero]; omega) (by rw [Nat.mul_eq_zero]; omega)
  have hsr := smS_r (x := sg u) (y := (-1) * sg v) (P := up u * dn v) (Q := up v * dn u) ⟨u1, u2⟩ hyr
  have hsl := suN_le (x := sg u) (y := (-1) * sg v) (P := up u * dn v) (Q := up v * dn u) (N := 1000000 ^ 20) (by omega)
  have hDp := Nat.mul_pos u4 v4
  refine z_aload_n S d_M_less_0 0 rfl ?_
  refine z_aload_n S d_M_less_1 0 rfl ?_
  refine z_iload_n S d_M_less_2 1 rfl ?_
  refine z_callVa (As := [.int (zI (u : Int))]) (st := [.ref mo]) (wc := [oM mo th mw (nv : Int) mg ma mb (ns : Int) mlo mhi (nw : Int) mwe mru mrd]) (wr := [aL cL mw 160 (wkA rr), aI cI mg 100 (sgA sg), aL cL ma 800 (moA up), aL cL mb 800 (moA dn)]) S hGok hK hg hA (s_M_isValue l dC dI cI cL qT mo mw nv ma mb ns mlo mhi nw mwe mru mrd th mg (u : Int) (by omega) (by omega)) (zcwV S (List.mem_cons_of_mem _ k_M_125) mV_M_isValue k_M_125 hd_M_isValue rfl rfl ⟨Nat.le_of_ble_eq_true rfl, Nat.le_of_ble_eq_true rfl⟩) rfl (Nat.le_of_ble_eq_true rfl) d_M_less_3 ⟨Nat.le_of_ble_eq_true rfl, Nat.le_of_ble_eq_true rfl⟩ rfl [0] [1, 2, 3, 4] 0 rfl rfl rfl (by decide) rfl rfl rfl (by decide) (by decide) (fun x w hp => ?_)
  obtain ⟨rfl, rfl⟩ := hp
  show ZZ _ _ _ _ _ _ _ _ _ _ _ _ _ _ _ _ _ _ 6 [(0, .ref mo), (1, .int (zI (u : Int))), (2, .int (zI (v : Int)))] [.int (zI (b2 (0 ≤ (u : Int) ∧ (u : Int) < (nv : Int)))), .ref mo] [aL cL mw 160 (wkA rr), aI cI mg 100 (sgA sg), aL cL ma 800 (moA up), aL cL mb 800 (moA dn), oM mo th mw (nv : Int) mg ma mb (ns : Int) mlo mhi (nw : Int) mwe mru mrd]
  refine z_toi (a := 1) (zI_c (b2_t ⟨by omega, by omega⟩)) ?_
  refine z_if_eq (tgt := 21) S d_M_less_6 (by decide) (by omega) (fun c1 => ?_) (fun c1 => ?_)
  · skip
    exact absurd c1 (by omega)
  · skip
    refine z_aload_n S d_M_less_9 0 rfl ?_
    refine z_iload_n S d_M_less_10 2 rfl ?_
    refine z_callVa (As := [.int (zI (v : Int))]) (st := [.ref mo]) (wc := [oM mo th mw (nv : Int) mg ma mb (ns : Int) mlo mhi (nw : Int) mwe mru mrd]) (wr := [aL cL mw 160 (wkA rr), aI cI mg 100 (sgA sg), aL cL ma 800 (moA up), aL cL mb 800 (moA dn)]) S hGok hK hg hA (s_M_isValue l dC dI cI cL qT mo mw nv ma mb ns mlo mhi nw mwe mru mrd th mg (v : Int) (by omega) (by omega)) (zcwV S (List.mem_cons_of_mem _ k_M_125) mV_M_isValue k_M_125 hd_M_isValue rfl rfl ⟨Nat.le_of_ble_eq_true rfl, Nat.le_of_ble_eq_true rfl⟩) rfl (Nat.le_of_ble_eq_true rfl) d_M_less_11 ⟨Nat.le_of_ble_eq_true rfl, Nat.le_of_ble_eq_true rfl⟩ rfl [4] [0, 1, 2, 3] 4 rfl rfl rfl (by decide) rfl rfl rfl (by decide) (by decide) (fun x w hp => ?_)
    obtain ⟨rfl, rfl⟩ := hp
    show ZZ _ _ _ _ _ _ _ _ _ _ _ _ _ _ _ _ _ _ 14 [(0, .ref mo), (1, .int (zI (u : Int))), (2, .int (zI (v : Int)))] [.int (zI (b2 (0 ≤ (v : Int) ∧ (v : Int) < (nv : Int)))), .ref mo] [aL cL mw 160 (wkA rr), aI cI mg 100 (sgA sg), aL cL ma 800 (moA up), aL cL mb 800 (moA dn), oM mo th mw (nv : Int) mg ma mb (ns : Int) mlo mhi (nw : Int) mwe mru mrd]
    refine z_toi (a := 1) (zI_c (b2_t ⟨by omega, by omega⟩)) ?_
    refine z_if_eq (tgt := 21) S d_M_less_14 (by decide) (by omega) (fun c2 => ?_) (fun c2 => ?_)
    · skip
      exact absurd c2 (by omega)
    · skip
      refine z_iconst S d_M_less_17 ?_
      refine z_goto (tgt := 22) S d_M_less_18 (by decide) ?_
      refine z_aload_n S d_M_less_22 0 rfl ?_
      refine z_get S hK la_M 4 rfl rfl 2 (by decide) k_M_42 rfl d_M_less_23 ?_
      refine z_bipush S d_M_less_26 rfl ?_
      refine z_icmp_ge (tgt := 35) S d_M_less_28 (by decide) (by omega) (by omega) (fun c3 => ?_) (fun c3 => ?_)
      · skip
        omega
      · skip
        refine z_iconst S d_M_less_31 ?_
        refine z_goto (tgt := 36) S d_M_less_32 (by decide) ?_
        refine z_iconst S d_M_less_36 ?_
        refine z_callVa (As := [.int (zI 1), .int (zI 1), .int (zI 1)]) (st := []) (wc := [oM mo th mw (nv : Int) mg ma mb (ns : Int) mlo mhi (nw : Int) mwe mru mrd]) (wr := [aL cL mw 160 (wkA rr), aI cI mg 100 (sgA sg), aL cL ma 800 (moA up), aL cL mb 800 (moA dn)]) S hGok hK hg hA (s_M_goes l dC dI cI cL qT mo mw nv ma mb ns mlo mhi nw mwe mru mrd th mg 1 1 1 (by omega) (by omega) (by omega)) (zcwV S (List.mem_cons_of_mem _ k_M_118) mV_M_goes k_M_118 hd_M_goes rfl rfl ⟨Nat.le_of_ble_eq_true rfl, Nat.le_of_ble_eq_true rfl⟩) rfl (Nat.le_of_ble_eq_true rfl) d_M_less_37 ⟨Nat.le_of_ble_eq_true rfl, Nat.le_of_ble_eq_true rfl⟩ rfl [4] [0, 1, 2, 3] 4 rfl rfl rfl (by decide) rfl rfl rfl (by decide) (by decide) (fun x w hp => ?_)
        obtain ⟨rfl, rfl⟩ := hp
        show ZZ _ _ _ _ _ _ _ _ _ _ _ _ _ _ _ _ _ _ 40 [(0, .ref mo), (1, .int (zI (u : Int))), (2, .int (zI (v : Int)))] [.int (zI (b2 (gth 1 1 1 = 0)))] [aL cL mw 160 (wkA rr), aI cI mg 100 (sgA sg), aL cL ma 800 (moA up), aL cL mb 800 (moA dn), oM mo (gth 1 1 1) mw (nv : Int) mg ma mb (ns : Int) mlo mhi (nw : Int) mwe mru mrd]
        refine z_toi (a := 1) rfl ?_
        refine z_wq (ws' := [aL cL mw 160 (wkA rr), aI cI mg 100 (sgA sg), aL cL ma 800 (moA up), aL cL mb 800 (moA dn), oM mo 0 mw (nv : Int) mg ma mb (ns : Int) mlo mhi (nw : Int) mwe mru mrd]) rfl ?_
        refine z_if_ne (tgt := 45) S d_M_less_40 (by decide) (by omega) (fun c4 => ?_) (fun c4 => ?_)
        · skip
          refine z_aload_n S d_M_less_45 0 rfl ?_
          refine z_aload_n S d_M_less_46 0 rfl ?_
          refine z_iload_n S d_M_less_47 1 rfl ?_
          refine z_iload_n S d_M_less_48 2 rfl ?_
          refine z_iconst S d_M_less_49 ?_
          refine z_callVa (As := [.int (zI (u : Int)), .int (zI (v : Int)), .int (zI (-1))]) (st := [.ref mo]) (wc := [oM mo 0 mw (nv : Int) mg ma mb (ns : Int) mlo mhi (nw : Int) mwe mru mrd, aL cL mw 160 (wkA rr), aI cI mg 100 (sgA sg), aL cL ma 800 (moA up), aL cL mb 800 (moA dn)]) (wr := []) S hGok hK hg hA (s_M_sum l dC dI cI cL qT mo mw nv ma mb ns mlo mhi nw mwe mru mrd 0 mg rr sg up dn u v (-1) (by omega) (by omega) u3 u5 ⟨u1, u2⟩ v3 v5 ⟨v1, v2⟩ (Or.inr rfl)) (zcwV S (List.mem_cons_of_mem _ k_M_128) mV_M_sum k_M_128 hd_M_sum rfl rfl ⟨Nat.le_of_ble_eq_true rfl, Nat.le_of_ble_eq_true rfl⟩) rfl (Nat.le_of_ble_eq_true rfl) d_M_less_50 ⟨Nat.le_of_ble_eq_true rfl, Nat.le_of_ble_eq_true rfl⟩ rfl [4, 0, 1, 2, 3] [] 4 rfl rfl rfl (by decide) rfl rfl rfl (by decide) (by decide) (fun x w hp => ?_)
          obtain ⟨rs, sk0, sk1, rfl, rfl⟩ := hp
          show ZZ _ _ _ _ _ _ _ _ _ _ _ _ _ _ _ _ _ _ 53 [(0, .ref mo), (1, .int (zI (u : Int))), (2, .int (zI (v : Int)))] [.int (zI (smS (sg u) ((-1) * sg v) (up u * dn v) (up v * dn u))), .ref mo] [oM mo 0 mw (nv : Int) mg ma mb (ns : Int) mlo mhi (nw : Int) mwe mru mrd, aL cL mw 160 (wkA rs), aI cI mg 100 (sgA sg), aL cL ma 800 (moA up), aL cL mb 800 (moA dn)]
          refine z_callVa (As := [.int (zI (smS (sg u) ((-1) * sg v) (up u * dn v) (up v * dn u)))]) (st := []) (wc := [oM mo 0 mw (nv : Int) mg ma mb (ns : Int) mlo mhi (nw : Int) mwe mru mrd, aL cL mw 160 (wkA rs), aI cI mg 100 (sgA sg), aL cL ma 800 (moA up), aL cL mb 800 (moA dn)]) (wr := []) S hGok hK hg hA (s_M_keep l dC dI cI cL qT mo mw nv ma mb ns mlo mhi nw mwe mru mrd 0 mg rs sg up dn (smS (sg u) ((-1) * sg v) (up u * dn v) (up v * dn u)) (by omega) (by rw [sk0]; exact hsl) (by rw [sk1]; omega) (by rw [sk1]; exact hDp) hsr) (zcwV S (List.mem_cons_of_mem _ k_M_122) mV_M_keep k_M_122 hd_M_keep rfl rfl ⟨Nat.le_of_ble_eq_true rfl, Nat.le_of_ble_eq_true rfl⟩) rfl (Nat.le_of_ble_eq_true rfl) d_M_less_53 ⟨Nat.le_of_ble_eq_true rfl, Nat.le_of_ble_eq_true rfl⟩ rfl [0, 1, 2, 3, 4] [] 0 rfl rfl rfl (by decide) rfl rfl rfl (by decide) (by decide) (fun x w hp => ?_)
          obtain ⟨rk, rfl, rfl⟩ := hp
          show ZZ _ _ _ _ _ _ _ _ _ _ _ _ _ _ _ _ _ _ 56 [(0, .ref mo), (1, .int (zI (u : Int))), (2, .int (zI (v : Int)))] [.int (zI (kpR nv (lwX (rs 0) (rs 1)) (lwZ (rs 0) (rs 1))))] [oM mo 0 mw ((kpC nv (lwX (rs 0) (rs 1)) (lwZ (rs 0) (rs 1)) : Nat) : Int) mg ma mb (ns : Int) mlo mhi (nw : Int) mwe mru mrd, aL cL mw 160 (wkA rk), aI cI mg 100 (sgA (kpS sg nv (zs (lwX (rs 0) (rs 1)) (smS (sg u) ((-1) * sg v) (up u * dn v) (up v * dn u))) (lwX (rs 0) (rs 1)) (lwZ (rs 0) (rs 1)))), aL cL ma 800 (moA (kpU up nv (lwX (rs 0) (rs 1)) (lwX (rs 0) (rs 1)) (lwZ (rs 0) (rs 1)))), aL cL mb 800 (moA (kpU dn nv (lwZ (rs 0) (rs 1)) (lwX (rs 0) (rs 1)) (lwZ (rs 0) (rs 1))))]
          have hS : zs (lwX (suN (sg u) ((-1) * sg v) (up u * dn v) (up v * dn u)) (dn u * dn v)) (smS (sg u) ((-1) * sg v) (up u * dn v) (up v * dn u)) = suS (sg u) ((-1) * sg v) (up u * dn v) (up v * dn u) := (zs_lw hDp).trans hzs
          exact z_iret (w := [oM mo 0 mw ((kpC nv (lwX (rs 0) (rs 1)) (lwZ (rs 0) (rs 1)) : Nat) : Int) mg ma mb (ns : Int) mlo mhi (nw : Int) mwe mru mrd, aL cL mw 160 (wkA rk), aI cI mg 100 (sgA (kpS sg nv (zs (lwX (rs 0) (rs 1)) (smS (sg u) ((-1) * sg v) (up u * dn v) (up v * dn u))) (lwX (rs 0) (rs 1)) (lwZ (rs 0) (rs 1)))), aL cL ma 800 (moA (kpU up nv (lwX (rs 0) (rs 1)) (lwX (rs 0) (rs 1)) (lwZ (rs 0) (rs 1)))), aL cL mb 800 (moA (kpU dn nv (lwZ (rs 0) (rs 1)) (lwX (rs 0) (rs 1)) (lwZ (rs 0) (rs 1))))]) S hr hlo hAe d_M_less_56 [0, 1, 2, 3, 4] (by decide) rfl rfl ⟨Nat.le_refl _, Nat.le_refl _⟩ (⟨rk, by rw [sk0, sk1, hyt], by rw [sk0, sk1, hS, hyt]⟩)
        · skip
          exact absurd c4 (by omega)
set_option maxHeartbeats 4000000 in
set_option maxRecDepth 100000 in
theorem s_M_times (l : Launch) (dC : Nat → ClassId) (dI : Nat → Nat → Nat) (cI cL : ClassId) (qT : Nat) (mo : Nat) (mw : Nat) (nv : Nat) (ma : Nat) (mb : Nat) (ns : Nat) (mlo : Nat) (mhi : Nat) (nw : Nat) (mwe : Nat) (mru : Nat) (mrd : Nat) (th : Int) (mg : Nat) (rr : Nat → Nat) (sg : Nat → Int) (up : Nat → Nat) (dn : Nat → Nat) (u : Nat) (v : Nat) (hnv : nv < 100) (hV : okM sg up dn nv) (hu : u < nv) (hv : v < nv) : Ct l y_M_times (Cond.code y_M_times c_M_times 3 (some .int) :: zB) { frames := 5, cells := 0, slots := 0, locals := 128 } (dC, dI) zcl [(cI, .int), (cL, .long)] (zG cI cL qT) [.ref mo, .int (zI (u : Int)), .int (zI (v : Int))] [oM mo th mw (nv : Int) mg ma mb (ns : Int) mlo mhi (nw : Int) mwe mru mrd, aL cL mw 160 (wkA rr), aI cI mg 100 (sgA sg), aL cL ma 800 (moA up), aL cL mb 800 (moA dn)] (fun rv wv => ∃ rr2 : Nat → Nat, rv = .int (zI (kpR nv (lwX (up u * up v) (dn u * dn v)) (lwZ (up u * up v) (dn u * dn v)))) ∧ wv = [oM mo 0 mw ((kpC nv (lwX (up u * up v) (dn u * dn v)) (lwZ (up u * up v) (dn u * dn v)) : Nat) : Int) mg ma mb (ns : Int) mlo mhi (nw : Int) mwe mru mrd, aL cL mw 160 (wkA rr2), aI cI mg 100 (sgA (kpS sg nv (sg u * sg v) (lwX (up u * up v) (dn u * dn v)) (lwZ (up u * up v) (dn u * dn v)))), aL cL ma 800 (moA (kpU up nv (lwX (up u * up v) (dn u * dn v)) (lwX (up u * up v) (dn u * dn v)) (lwZ (up u * up v) (dn u * dn v)))), aL cL mb 800 (moA (kpU dn nv (lwZ (up u * up v) (dn u * dn v)) (lwX (up u * up v) (dn u * dn v)) (lwZ (up u * up v) (dn u * dn v))))]) 0 0 := by
  refine Cm.ofZ (cc := c_M_times) (maxL := 3) (ret := (some .int)) (by decide) rfl (Nat.le_of_ble_eq_true rfl) rfl ?_
  intro p e s m below meth c A S hr hlo hnm hK hg hA hAe
  have hGok := zG_ok cI cL qT
  show ZZ _ _ _ _ _ _ _ _ _ _ _ _ _ _ _ _ _ _ 0 [(0, .ref mo), (1, .int (zI (u : Int))), (2, .int (zI (v : Int)))] [] [oM mo th mw (nv : Int) mg ma mb (ns : Int) mlo mhi (nw : Int) mwe mru mrd, aL cL mw 160 (wkA rr), aI cI mg 100 (sgA sg), aL cL ma 800 (moA up), aL cL mb 800 (moA dn)]
  have ku := hV u hu
  have kv := hV v hv
  obtain ⟨u1, u2, u3, u4, u5, u6⟩ := id ku
  obtain ⟨v1, v2, v3, v4, v5, v6⟩ := id kv
  have m1 := mul96 u3 v3
  have m3 := mul96 u5 v5
  have hDp := Nat.mul_pos u4 v4
  have hsr := sg_mul ⟨u1, u2⟩ ⟨v1, v2⟩
  have hS : zs (lwX (up u * up v) (dn u * dn v)) (sg u * sg v) = sg u * sg v := (zs_lw hDp).trans (zs_pr u6 v6)
  refine z_aload_n S d_M_times_0 0 rfl ?_
  refine z_aload_n S d_M_times_1 0 rfl ?_
  refine z_iload_n S d_M_times_2 1 rfl ?_
  refine z_callVa (As := [.int (zI (u : Int))]) (st := [.ref mo]) (wc := [oM mo th mw (nv : Int) mg ma mb (ns : Int) mlo mhi (nw : Int) mwe mru mrd]) (wr := [aL cL mw 160 (wkA rr), aI cI mg 100 (sgA sg), aL cL ma 800 (moA up), aL cL mb 800 (moA dn)]) S hGok hK hg hA (s_M_isValue l dC dI cI cL qT mo mw nv ma mb ns mlo mhi nw mwe mru mrd th mg (u : Int) (by omega) (by omega)) (zcwV S (List.mem_cons_of_mem _ k_M_125) mV_M_isValue k_M_125 hd_M_isValue rfl rfl ⟨Nat.le_of_ble_eq_true rfl, Nat.le_of_ble_eq_true rfl⟩) rfl (Nat.le_of_ble_eq_true rfl) d_M_times_3 ⟨Nat.le_of_ble_eq_true rfl, Nat.le_of_ble_eq_true rfl⟩ rfl [0] [1, 2, 3, 4] 0 rfl rfl rfl (by decide) rfl rfl rfl (by decide) (by decide) (fun x w hp => ?_)
  obtain ⟨rfl, rfl⟩ := hp
  show ZZ _ _ _ _ _ _ _ _ _ _ _ _ _ _ _ _ _ _ 6 [(0, .ref mo), (1, .int (zI (u : Int))), (2, .int (zI (v : Int)))] [.int (zI (b2 (0 ≤ (u : Int) ∧ (u : Int) < (nv : Int)))), .ref mo] [aL cL mw 160 (wkA rr), aI cI mg 100 (sgA sg), aL cL ma 800 (moA up), aL cL mb 800 (moA dn), oM mo th mw (nv : Int) mg ma mb (ns : Int) mlo mhi (nw : Int) mwe mru mrd]
  refine z_toi (a := 1) (zI_c (b2_t ⟨by omega, by omega⟩)) ?_
  refine z_if_eq (tgt := 21) S d_M_times_6 (by decide) (by omega) (fun c1 => ?_) (fun c1 => ?_)
  · skip
    exact absurd c1 (by omega)
  · skip
    refine z_aload_n S d_M_times_9 0 rfl ?_
    refine z_iload_n S d_M_times_10 2 rfl ?_
    refine z_callVa (As := [.int (zI (v : Int))]) (st := [.ref mo]) (wc := [oM mo th mw (nv : Int) mg ma mb (ns : Int) mlo mhi (nw : Int) mwe mru mrd]) (wr := [aL cL mw 160 (wkA rr), aI cI mg 100 (sgA sg), aL cL ma 800 (moA up), aL cL mb 800 (moA dn)]) S hGok hK hg hA (s_M_isValue l dC dI cI cL qT mo mw nv ma mb ns mlo mhi nw mwe mru mrd th mg (v : Int) (by omega) (by omega)) (zcwV S (List.mem_cons_of_mem _ k_M_125) mV_M_isValue k_M_125 hd_M_isValue rfl rfl ⟨Nat.le_of_ble_eq_true rfl, Nat.le_of_ble_eq_true rfl⟩) rfl (Nat.le_of_ble_eq_true rfl) d_M_times_11 ⟨Nat.le_of_ble_eq_true rfl, Nat.le_of_ble_eq_true rfl⟩ rfl [4] [0, 1, 2, 3] 4 rfl rfl rfl (by decide) rfl rfl rfl (by decide) (by decide) (fun x w hp => ?_)
    obtain ⟨rfl, rfl⟩ := hp
    show ZZ _ _ _ _ _ _ _ _ _ _ _ _ _ _ _ _ _ _ 14 [(0, .ref mo), (1, .int (zI (u : Int))), (2, .int (zI (v : Int)))] [.int (zI (b2 (0 ≤ (v : Int) ∧ (v : Int) < (nv : Int)))), .ref mo] [aL cL mw 160 (wkA rr), aI cI mg 100 (sgA sg), aL cL ma 800 (moA up), aL cL mb 800 (moA dn), oM mo th mw (nv : Int) mg ma mb (ns : Int) mlo mhi (nw : Int) mwe mru mrd]
    refine z_toi (a := 1) (zI_c (b2_t ⟨by omega, by omega⟩)) ?_
    refine z_if_eq (tgt := 21) S d_M_times_14 (by decide) (by omega) (fun c2 => ?_) (fun c2 => ?_)
    · skip
      exact absurd c2 (by omega)
    · skip
      refine z_iconst S d_M_times_17 ?_
      refine z_goto (tgt := 22) S d_M_times_18 (by decide) ?_
      refine z_aload_n S d_M_times_22 0 rfl ?_
      refine z_get S hK la_M 4 rfl rfl 2 (by decide) k_M_42 rfl d_M_times_23 ?_
      refine z_bipush S d_M_times_26 rfl ?_
      refine z_icmp_ge (tgt := 35) S d_M_times_28 (by decide) (by omega) (by omega) (fun c3 => ?_) (fun c3 => ?_)
      · skip
        omega
      · skip
        refine z_iconst S d_M_times_31 ?_
        refine z_goto (tgt := 36) S d_M_times_32 (by decide) ?_
        refine z_iconst S d_M_times_36 ?_
        refine z_callVa (As := [.int (zI 1), .int (zI 1), .int (zI 1)]) (st := []) (wc := [oM mo th mw (nv : Int) mg ma mb (ns : Int) mlo mhi (nw : Int) mwe mru mrd]) (wr := [aL cL mw 160 (wkA rr), aI cI mg 100 (sgA sg), aL cL ma 800 (moA up), aL cL mb 800 (moA dn)]) S hGok hK hg hA (s_M_goes l dC dI cI cL qT mo mw nv ma mb ns mlo mhi nw mwe mru mrd th mg 1 1 1 (by omega) (by omega) (by omega)) (zcwV S (List.mem_cons_of_mem _ k_M_118) mV_M_goes k_M_118 hd_M_goes rfl rfl ⟨Nat.le_of_ble_eq_true rfl, Nat.le_of_ble_eq_true rfl⟩) rfl (Nat.le_of_ble_eq_true rfl) d_M_times_37 ⟨Nat.le_of_ble_eq_true rfl, Nat.le_of_ble_eq_true rfl⟩ rfl [4] [0, 1, 2, 3] 4 rfl rfl rfl (by decide) rfl rfl rfl (by decide) (by decide) (fun x w hp => ?_)
        obtain ⟨rfl, rfl⟩ := hp
        show ZZ _ _ _ _ _ _ _ _ _ _ _ _ _ _ _ _ _ _ 40 [(0, .ref mo), (1, .int (zI (u : Int))), (2, .int (zI (v : Int)))] [.int (zI (b2 (gth 1 1 1 = 0)))] [aL cL mw 160 (wkA rr), aI cI mg 100 (sgA sg), aL cL ma 800 (moA up), aL cL mb 800 (moA dn), oM mo (gth 1 1 1) mw (nv : Int) mg ma mb (ns : Int) mlo mhi (nw : Int) mwe mru mrd]
        refine z_toi (a := 1) rfl ?_
        refine z_wq (ws' := [aL cL mw 160 (wkA rr), aI cI mg 100 (sgA sg), aL cL ma 800 (moA up), aL cL mb 800 (moA dn), oM mo 0 mw (nv : Int) mg ma mb (ns : Int) mlo mhi (nw : Int) mwe mru mrd]) rfl ?_
        refine z_if_ne (tgt := 45) S d_M_times_40 (by decide) (by omega) (fun c4 => ?_) (fun c4 => ?_)
        · skip
          refine z_aload_n S d_M_times_45 0 rfl ?_
          refine z_aload_n S d_M_times_46 0 rfl ?_
          refine z_iload_n S d_M_times_47 1 rfl ?_
          refine z_iload_n S d_M_times_48 2 rfl ?_
          refine z_callVa (As := [.int (zI (u : Int)), .int (zI (v : Int))]) (st := [.ref mo]) (wc := [oM mo 0 mw (nv : Int) mg ma mb (ns : Int) mlo mhi (nw : Int) mwe mru mrd, aL cL mw 160 (wkA rr), aI cI mg 100 (sgA sg), aL cL ma 800 (moA up), aL cL mb 800 (moA dn)]) (wr := []) S hGok hK hg hA (s_M_product l dC dI cI cL qT mo mw nv ma mb ns mlo mhi nw mwe mru mrd 0 mg rr sg up dn u v (by omega) (by omega) u3 u5 ⟨u1, u2⟩ v3 v5 ⟨v1, v2⟩) (zcwV S (List.mem_cons_of_mem _ k_M_132) mV_M_product k_M_132 hd_M_product rfl rfl ⟨Nat.le_of_ble_eq_true rfl, Nat.le_of_ble_eq_true rfl⟩) rfl (Nat.le_of_ble_eq_true rfl) d_M_times_49 ⟨Nat.le_of_ble_eq_true rfl, Nat.le_of_ble_eq_true rfl⟩ rfl [4, 0, 1, 2, 3] [] 4 rfl rfl rfl (by decide) rfl rfl rfl (by decide) (by decide) (fun x w hp => ?_)
          obtain ⟨rs, sk0, sk1, rfl, rfl⟩ := hp
          show ZZ _ _ _ _ _ _ _ _ _ _ _ _ _ _ _ _ _ _ 52 [(0, .ref mo), (1, .int (zI (u : Int))), (2, .int (zI (v : Int)))] [.int (zI (sg u * sg v)), .ref mo] [oM mo 0 mw (nv : Int) mg ma mb (ns : Int) mlo mhi (nw : Int) mwe mru mrd, aL cL mw 160 (wkA rs), aI cI mg 100 (sgA sg), aL cL ma 800 (moA up), aL cL mb 800 (moA dn)]
          refine z_callVa (As := [.int (zI (sg u * sg v))]) (st := []) (wc := [oM mo 0 mw (nv : Int) mg ma mb (ns : Int) mlo mhi (nw : Int) mwe mru mrd, aL cL mw 160 (wkA rs), aI cI mg 100 (sgA sg), aL cL ma 800 (moA up), aL cL mb 800 (moA dn)]) (wr := []) S hGok hK hg hA (s_M_keep l dC dI cI cL qT mo mw nv ma mb ns mlo mhi nw mwe mru mrd 0 mg rs sg up dn (sg u * sg v) (by omega) (by rw [sk0]; omega) (by rw [sk1]; omega) (by rw [sk1]; exact hDp) hsr) (zcwV S (List.mem_cons_of_mem _ k_M_122) mV_M_keep k_M_122 hd_M_keep rfl rfl ⟨Nat.le_of_ble_eq_true rfl, Nat.le_of_ble_eq_true rfl⟩) rfl (Nat.le_of_ble_eq_true rfl) d_M_times_52 ⟨Nat.le_of_ble_eq_true rfl, Nat.le_of_ble_eq_true rfl⟩ rfl [0, 1, 2, 3, 4] [] 0 rfl rfl rfl (by decide) rfl rfl rfl (by decide) (by decide) (fun x w hp => ?_)
          obtain ⟨rk, rfl, rfl⟩ := hp
          show ZZ _ _ _ _ _ _ _ _ _ _ _ _ _ _ _ _ _ _ 55 [(0, .ref mo), (1, .int (zI (u : Int))), (2, .int (zI (v : Int)))] [.int (zI (kpR nv (lwX (rs 0) (rs 1)) (lwZ (rs 0) (rs 1))))] [oM mo 0 mw ((kpC nv (lwX (rs 0) (rs 1)) (lwZ (rs 0) (rs 1)) : Nat) : Int) mg ma mb (ns : Int) mlo mhi (nw : Int) mwe mru mrd, aL cL mw 160 (wkA rk), aI cI mg 100 (sgA (kpS sg nv (zs (lwX (rs 0) (rs 1)) (sg u * sg v)) (lwX (rs 0) (rs 1)) (lwZ (rs 0) (rs 1)))), aL cL ma 800 (moA (kpU up nv (lwX (rs 0) (rs 1)) (lwX (rs 0) (rs 1)) (lwZ (rs 0) (rs 1)))), aL cL mb 800 (moA (kpU dn nv (lwZ (rs 0) (rs 1)) (lwX (rs 0) (rs 1)) (lwZ (rs 0) (rs 1))))]
          exact z_iret (w := [oM mo 0 mw ((kpC nv (lwX (rs 0) (rs 1)) (lwZ (rs 0) (rs 1)) : Nat) : Int) mg ma mb (ns : Int) mlo mhi (nw : Int) mwe mru mrd, aL cL mw 160 (wkA rk), aI cI mg 100 (sgA (kpS sg nv (zs (lwX (rs 0) (rs 1)) (sg u * sg v)) (lwX (rs 0) (rs 1)) (lwZ (rs 0) (rs 1)))), aL cL ma 800 (moA (kpU up nv (lwX (rs 0) (rs 1)) (lwX (rs 0) (rs 1)) (lwZ (rs 0) (rs 1)))), aL cL mb 800 (moA (kpU dn nv (lwZ (rs 0) (rs 1)) (lwX (rs 0) (rs 1)) (lwZ (rs 0) (rs 1))))]) S hr hlo hAe d_M_times_55 [0, 1, 2, 3, 4] (by decide) rfl rfl ⟨Nat.le_refl _, Nat.le_refl _⟩ (⟨rk, by rw [sk0, sk1], by rw [sk0, sk1, hS]⟩)
        · skip
          exact absurd c4 (by omega)
set_option maxHeartbeats 4000000 in
set_option maxRecDepth 100000 in
theorem s_M_over (l : Launch) (dC : Nat → ClassId) (dI : Nat → Nat → Nat) (cI cL : ClassId) (qT : Nat) (mo : Nat) (mw : Nat) (nv : Nat) (ma : Nat) (mb : Nat) (ns : Nat) (mlo : Nat) (mhi : Nat) (nw : Nat) (mwe : Nat) (mru : Nat) (mrd : Nat) (th : Int) (mg : Nat) (rr : Nat → Nat) (sg : Nat → Int) (up : Nat → Nat) (dn : Nat → Nat) (u : Nat) (v : Nat) (hnv : nv < 100) (hV : okM sg up dn nv) (hu : u < nv) (hv : v < nv) (h0 : ¬ sg v = 0) : Ct l y_M_over (Cond.code y_M_over c_M_over 4 (some .int) :: zB) { frames := 5, cells := 0, slots := 0, locals := 128 } (dC, dI) zcl [(cI, .int), (cL, .long)] (zG cI cL qT) [.ref mo, .int (zI (u : Int)), .int (zI (v : Int))] [oM mo th mw (nv : Int) mg ma mb (ns : Int) mlo mhi (nw : Int) mwe mru mrd, aL cL mw 160 (wkA rr), aI cI mg 100 (sgA sg), aL cL ma 800 (moA up), aL cL mb 800 (moA dn)] (fun rv wv => ∃ rr2 : Nat → Nat, rv = .int (zI (kpR nv (lwX (up u * dn v) (dn u * up v)) (lwZ (up u * dn v) (dn u * up v)))) ∧ wv = [oM mo 0 mw ((kpC nv (lwX (up u * dn v) (dn u * up v)) (lwZ (up u * dn v) (dn u * up v)) : Nat) : Int) mg ma mb (ns : Int) mlo mhi (nw : Int) mwe mru mrd, aL cL mw 160 (wkA rr2), aI cI mg 100 (sgA (kpS sg nv (sg u * sg v) (lwX (up u * dn v) (dn u * up v)) (lwZ (up u * dn v) (dn u * up v)))), aL cL ma 800 (moA (kpU up nv (lwX (up u * dn v) (dn u * up v)) (lwX (up u * dn v) (dn u * up v)) (lwZ (up u * dn v) (dn u * up v)))), aL cL mb 800 (moA (kpU dn nv (lwZ (up u * dn v) (dn u * up v)) (lwX (up u * dn v) (dn u * up v)) (lwZ (up u * dn v) (dn u * up v))))]) 0 0 := by
  refine Cm.ofZ (cc := c_M_over) (maxL := 4) (ret := (some .int)) (by decide) rfl (Nat.le_of_ble_eq_true rfl) rfl ?_
  intro p e s m below meth c A S hr hlo hnm hK hg hA hAe
  have hGok := zG_ok cI cL qT
  show ZZ _ _ _ _ _ _ _ _ _ _ _ _ _ _ _ _ _ _ 0 [(0, .ref mo), (1, .int (zI (u : Int))), (2, .int (zI (v : Int)))] [] [oM mo th mw (nv : Int) mg ma mb (ns : Int) mlo mhi (nw : Int) mwe mru mrd, aL cL mw 160 (wkA rr), aI cI mg 100 (sgA sg), aL cL ma 800 (moA up), aL cL mb 800 (moA dn)]
  have ku := hV u hu
  have kv := hV v hv
  obtain ⟨u1, u2, u3, u4, u5, u6⟩ := id ku
  obtain ⟨v1, v2, v3, v4, v5, v6⟩ := id kv
  have m1 := mul96 u3 v5
  have m3 := mul96 u5 v3
  have hDp := Nat.mul_pos u4 (show 0 < up v by omega)
  have hsr := sg_mul ⟨u1, u2⟩ ⟨v1, v2⟩
  have hS : zs (lwX (up u * dn v) (dn u * up v)) (sg u * sg v) = sg u * sg v := (zs_lw hDp).trans (zs_qu h0 u6 v4)
  refine z_aload_n S d_M_over_0 0 rfl ?_
  refine z_iload_n S d_M_over_1 1 rfl ?_
  refine z_callVa (As := [.int (zI (u : Int))]) (st := []) (wc := [oM mo th mw (nv : Int) mg ma mb (ns : Int) mlo mhi (nw : Int) mwe mru mrd]) (wr := [aL cL mw 160 (wkA rr), aI cI mg 100 (sgA sg), aL cL ma 800 (moA up), aL cL mb 800 (moA dn)]) S hGok hK hg hA (s_M_isValue l dC dI cI cL qT mo mw nv ma mb ns mlo mhi nw mwe mru mrd th mg (u : Int) (by omega) (by omega)) (zcwV S (List.mem_cons_of_mem _ k_M_125) mV_M_isValue k_M_125 hd_M_isValue rfl rfl ⟨Nat.le_of_ble_eq_true rfl, Nat.le_of_ble_eq_true rfl⟩) rfl (Nat.le_of_ble_eq_true rfl) d_M_over_2 ⟨Nat.le_of_ble_eq_true rfl, Nat.le_of_ble_eq_true rfl⟩ rfl [0] [1, 2, 3, 4] 0 rfl rfl rfl (by decide) rfl rfl rfl (by decide) (by decide) (fun x w hp => ?_)
  obtain ⟨rfl, rfl⟩ := hp
  show ZZ _ _ _ _ _ _ _ _ _ _ _ _ _ _ _ _ _ _ 5 [(0, .ref mo), (1, .int (zI (u : Int))), (2, .int (zI (v : Int)))] [.int (zI (b2 (0 ≤ (u : Int) ∧ (u : Int) < (nv : Int))))] [aL cL mw 160 (wkA rr), aI cI mg 100 (sgA sg), aL cL ma 800 (moA up), aL cL mb 800 (moA dn), oM mo th mw (nv : Int) mg ma mb (ns : Int) mlo mhi (nw : Int) mwe mru mrd]
  refine z_toi (a := 1) (zI_c (b2_t ⟨by omega, by omega⟩)) ?_
  refine z_if_eq (tgt := 20) S d_M_over_5 (by decide) (by omega) (fun c1 => ?_) (fun c1 => ?_)
  · skip
    exact absurd c1 (by omega)
  · skip
    refine z_aload_n S d_M_over_8 0 rfl ?_
    refine z_iload_n S d_M_over_9 2 rfl ?_
    refine z_callVa (As := [.int (zI (v : Int))]) (st := []) (wc := [oM mo th mw (nv : Int) mg ma mb (ns : Int) mlo mhi (nw : Int) mwe mru mrd]) (wr := [aL cL mw 160 (wkA rr), aI cI mg 100 (sgA sg), aL cL ma 800 (moA up), aL cL mb 800 (moA dn)]) S hGok hK hg hA (s_M_isValue l dC dI cI cL qT mo mw nv ma mb ns mlo mhi nw mwe mru mrd th mg (v : Int) (by omega) (by omega)) (zcwV S (List.mem_cons_of_mem _ k_M_125) mV_M_isValue k_M_125 hd_M_isValue rfl rfl ⟨Nat.le_of_ble_eq_true rfl, Nat.le_of_ble_eq_true rfl⟩) rfl (Nat.le_of_ble_eq_true rfl) d_M_over_10 ⟨Nat.le_of_ble_eq_true rfl, Nat.le_of_ble_eq_true rfl⟩ rfl [4] [0, 1, 2, 3] 4 rfl rfl rfl (by decide) rfl rfl rfl (by decide) (by decide) (fun x w hp => ?_)
    obtain ⟨rfl, rfl⟩ := hp
    show ZZ _ _ _ _ _ _ _ _ _ _ _ _ _ _ _ _ _ _ 13 [(0, .ref mo), (1, .int (zI (u : Int))), (2, .int (zI (v : Int)))] [.int (zI (b2 (0 ≤ (v : Int) ∧ (v : Int) < (nv : Int))))] [aL cL mw 160 (wkA rr), aI cI mg 100 (sgA sg), aL cL ma 800 (moA up), aL cL mb 800 (moA dn), oM mo th mw (nv : Int) mg ma mb (ns : Int) mlo mhi (nw : Int) mwe mru mrd]
    refine z_toi (a := 1) (zI_c (b2_t ⟨by omega, by omega⟩)) ?_
    refine z_if_eq (tgt := 20) S d_M_over_13 (by decide) (by omega) (fun c2 => ?_) (fun c2 => ?_)
    · skip
      exact absurd c2 (by omega)
    · skip
      refine z_iconst S d_M_over_16 ?_
      refine z_goto (tgt := 21) S d_M_over_17 (by decide) ?_
      refine z_istore_n (lv' := [(3, .int (zI 1)), (0, .ref mo), (1, .int (zI (u : Int))), (2, .int (zI (v : Int)))]) S d_M_over_21 rfl (by decide) rfl ?_
      refine z_aload_n S d_M_over_22 1 rfl ?_
      refine z_iload_n S d_M_over_23 0 rfl ?_
      refine z_aload_n S d_M_over_24 1 rfl ?_
      refine z_get S hK la_M 4 rfl rfl 2 (by decide) k_M_42 rfl d_M_over_25 ?_
      refine z_bipush S d_M_over_28 rfl ?_
      refine z_icmp_ge (tgt := 37) S d_M_over_30 (by decide) (by omega) (by omega) (fun c3 => ?_) (fun c3 => ?_)
      · skip
        omega
      · skip
        refine z_iconst S d_M_over_33 ?_
        refine z_goto (tgt := 38) S d_M_over_34 (by decide) ?_
        refine z_iload_n S d_M_over_38 0 rfl ?_
        refine z_if_eq (tgt := 55) S d_M_over_39 (by decide) (by omega) (fun c4 => ?_) (fun c4 => ?_)
        · skip
          exact absurd c4 (by omega)
        · skip
          refine z_aload_n S d_M_over_42 1 rfl ?_
          refine z_get S hK la_M 4 rfl rfl 3 (by decide) k_M_13 rfl d_M_over_43 ?_
          refine z_iload_n S d_M_over_46 3 rfl ?_
          refine z_iald (x := sg v) S hK 1 0 rfl rfl v rfl (by omega) (by decide) rfl d_M_over_47 ?_
          refine z_if_eq (tgt := 55) S d_M_over_48 (by decide) (by omega) (fun c5 => ?_) (fun c5 => ?_)
          · skip
            exact absurd c5 (h0)
          · skip
            refine z_iconst S d_M_over_51 ?_
            refine z_goto (tgt := 56) S d_M_over_52 (by decide) ?_
            refine z_callVa (As := [.int (zI 1), .int (zI 1), .int (zI 1)]) (st := []) (wc := [oM mo th mw (nv : Int) mg ma mb (ns : Int) mlo mhi (nw : Int) mwe mru mrd]) (wr := [aL cL mw 160 (wkA rr), aI cI mg 100 (sgA sg), aL cL ma 800 (moA up), aL cL mb 800 (moA dn)]) S hGok hK hg hA (s_M_goes l dC dI cI cL qT mo mw nv ma mb ns mlo mhi nw mwe mru mrd th mg 1 1 1 (by omega) (by omega) (by omega)) (zcwV S (List.mem_cons_of_mem _ k_M_118) mV_M_goes k_M_118 hd_M_goes rfl rfl ⟨Nat.le_of_ble_eq_true rfl, Nat.le_of_ble_eq_true rfl⟩) rfl (Nat.le_of_ble_eq_true rfl) d_M_over_56 ⟨Nat.le_of_ble_eq_true rfl, Nat.le_of_ble_eq_true rfl⟩ rfl [4] [0, 1, 2, 3] 4 rfl rfl rfl (by decide) rfl rfl rfl (by decide) (by decide) (fun x w hp => ?_)
            obtain ⟨rfl, rfl⟩ := hp
            show ZZ _ _ _ _ _ _ _ _ _ _ _ _ _ _ _ _ _ _ 59 [(3, .int (zI 1)), (0, .ref mo), (1, .int (zI (u : Int))), (2, .int (zI (v : Int)))] [.int (zI (b2 (gth 1 1 1 = 0)))] [aL cL mw 160 (wkA rr), aI cI mg 100 (sgA sg), aL cL ma 800 (moA up), aL cL mb 800 (moA dn), oM mo (gth 1 1 1) mw (nv : Int) mg ma mb (ns : Int) mlo mhi (nw : Int) mwe mru mrd]
            refine z_toi (a := 1) rfl ?_
            refine z_wq (ws' := [aL cL mw 160 (wkA rr), aI cI mg 100 (sgA sg), aL cL ma 800 (moA up), aL cL mb 800 (moA dn), oM mo 0 mw (nv : Int) mg ma mb (ns : Int) mlo mhi (nw : Int) mwe mru mrd]) rfl ?_
            refine z_if_ne (tgt := 64) S d_M_over_59 (by decide) (by omega) (fun c6 => ?_) (fun c6 => ?_)
            · skip
              refine z_aload_n S d_M_over_64 1 rfl ?_
              refine z_iload_n S d_M_over_65 2 rfl ?_
              refine z_iconst S d_M_over_66 ?_
              refine z_callVv (As := [.int (zI (u : Int)), .int (zI 2)]) (st := []) (wc := [oM mo 0 mw (nv : Int) mg ma mb (ns : Int) mlo mhi (nw : Int) mwe mru mrd, aL cL mw 160 (wkA rr), aL cL ma 800 (moA up)]) (wr := [aI cI mg 100 (sgA sg), aL cL mb 800 (moA dn)]) S hGok hK hg hA (s_M_loadUp l dC dI cI cL qT mo mw nv ma mb ns mlo mhi nw mwe mru mrd 0 mg rr up u 2 (by omega) (by omega) (by omega)) (zcwV S (List.mem_cons_of_mem _ k_M_109) mV_M_loadUp k_M_109 hd_M_loadUp rfl rfl ⟨Nat.le_of_ble_eq_true rfl, Nat.le_of_ble_eq_true rfl⟩) rfl (Nat.le_of_ble_eq_true rfl) d_M_over_67 ⟨Nat.le_of_ble_eq_true rfl, Nat.le_of_ble_eq_true rfl⟩ rfl [4, 0, 2] [1, 3] 4 rfl rfl rfl (by decide) rfl rfl rfl (by decide) (by decide) (fun w hp => ?_)
              subst hp
              show ZZ _ _ _ _ _ _ _ _ _ _ _ _ _ _ _ _ _ _ 70 [(3, .int (zI 1)), (0, .ref mo), (1, .int (zI (u : Int))), (2, .int (zI (v : Int)))] [] [aI cI mg 100 (sgA sg), aL cL mb 800 (moA dn), oM mo 0 mw (nv : Int) mg ma mb (ns : Int) mlo mhi (nw : Int) mwe mru mrd, aL cL mw 160 (wkA (un rr 2 (up u))), aL cL ma 800 (moA up)]
              obtain ⟨ra, hra, a2⟩ : ∃ ra : Nat → Nat, ra = (un rr 2 (up u)) ∧ ra 2 = up u := ⟨(un rr 2 (up u)), rfl, rfl⟩
              refine z_wq (ws' := [aI cI mg 100 (sgA sg), aL cL mb 800 (moA dn), oM mo 0 mw (nv : Int) mg ma mb (ns : Int) mlo mhi (nw : Int) mwe mru mrd, aL cL mw 160 (wkA ra), aL cL ma 800 (moA up)]) (by rw [hra]) ?_
              refine z_aload_n S d_M_over_70 1 rfl ?_
              refine z_iload_n S d_M_over_71 3 rfl ?_
              refine z_iconst S d_M_over_72 ?_
              refine z_callVv (As := [.int (zI (v : Int)), .int (zI 3)]) (st := []) (wc := [oM mo 0 mw (nv : Int) mg ma mb (ns : Int) mlo mhi (nw : Int) mwe mru mrd, aL cL mw 160 (wkA ra), aL cL mb 800 (moA dn)]) (wr := [aI cI mg 100 (sgA sg), aL cL ma 800 (moA up)]) S hGok hK hg hA (s_M_loadDown l dC dI cI cL qT mo mw nv ma mb ns mlo mhi nw mwe mru mrd 0 mg ra dn v 3 (by omega) (by omega) (by omega)) (zcwV S (List.mem_cons_of_mem _ k_M_112) mV_M_loadDown k_M_112 hd_M_loadDown rfl rfl ⟨Nat.le_of_ble_eq_true rfl, Nat.le_of_ble_eq_true rfl⟩) rfl (Nat.le_of_ble_eq_true rfl) d_M_over_73 ⟨Nat.le_of_ble_eq_true rfl, Nat.le_of_ble_eq_true rfl⟩ rfl [2, 3, 1] [0, 4] 2 rfl rfl rfl (by decide) rfl rfl rfl (by decide) (by decide) (fun w hp => ?_)
              subst hp
              show ZZ _ _ _ _ _ _ _ _ _ _ _ _ _ _ _ _ _ _ 76 [(3, .int (zI 1)), (0, .ref mo), (1, .int (zI (u : Int))), (2, .int (zI (v : Int)))] [] [aI cI mg 100 (sgA sg), aL cL ma 800 (moA up), oM mo 0 mw (nv : Int) mg ma mb (ns : Int) mlo mhi (nw : Int) mwe mru mrd, aL cL mw 160 (wkA (un ra 3 (dn v))), aL cL mb 800 (moA dn)]
              obtain ⟨rb, hrb, b2_, b3_⟩ : ∃ rb : Nat → Nat, rb = (un ra 3 (dn v)) ∧ rb 2 = up u ∧ rb 3 = dn v := ⟨(un ra 3 (dn v)), rfl, a2, rfl⟩
              refine z_wq (ws' := [aI cI mg 100 (sgA sg), aL cL ma 800 (moA up), oM mo 0 mw (nv : Int) mg ma mb (ns : Int) mlo mhi (nw : Int) mwe mru mrd, aL cL mw 160 (wkA rb), aL cL mb 800 (moA dn)]) (by rw [hrb]) ?_
              refine z_aload_n S d_M_over_76 1 rfl ?_
              refine z_iconst S d_M_over_77 ?_
              refine z_iconst S d_M_over_78 ?_
              refine z_iconst S d_M_over_79 ?_
              refine z_callVv (As := [.int (zI 2), .int (zI 3), .int (zI 0)]) (st := []) (wc := [oM mo 0 mw (nv : Int) mg ma mb (ns : Int) mlo mhi (nw : Int) mwe mru mrd, aL cL mw 160 (wkA rb)]) (wr := [aI cI mg 100 (sgA sg), aL cL ma 800 (moA up), aL cL mb 800 (moA dn)]) S hGok hK hg hA (s_M_multiply l dC dI cI cL qT mo mw nv ma mb ns mlo mhi nw mwe mru mrd 0 mg rb 2 3 0 (by omega) (by omega) (by omega) (by omega) (by omega) (by omega) (by omega) (by rw [b2_, b3_]; omega)) (zcwV S (List.mem_cons_of_mem _ k_M_115) mV_M_multiply k_M_115 hd_M_multiply rfl rfl ⟨Nat.le_of_ble_eq_true rfl, Nat.le_of_ble_eq_true rfl⟩) rfl (Nat.le_of_ble_eq_true rfl) d_M_over_80 ⟨Nat.le_of_ble_eq_true rfl, Nat.le_of_ble_eq_true rfl⟩ rfl [2, 3] [0, 1, 4] 2 rfl rfl rfl (by decide) rfl rfl rfl (by decide) (by decide) (fun w hp => ?_)
              subst hp
              show ZZ _ _ _ _ _ _ _ _ _ _ _ _ _ _ _ _ _ _ 83 [(3, .int (zI 1)), (0, .ref mo), (1, .int (zI (u : Int))), (2, .int (zI (v : Int)))] [] [aI cI mg 100 (sgA sg), aL cL ma 800 (moA up), aL cL mb 800 (moA dn), oM mo 0 mw (nv : Int) mg ma mb (ns : Int) mlo mhi (nw : Int) mwe mru mrd, aL cL mw 160 (wkA (un rb 0 (rb 2 * rb 3)))]
              obtain ⟨rc, hrc, c0⟩ : ∃ rc : Nat → Nat, rc = (un rb 0 (rb 2 * rb 3)) ∧ rc 0 = up u * dn v := ⟨(un rb 0 (rb 2 * rb 3)), rfl, (by show rb 2 * rb 3 = _; rw [b2_, b3_])⟩
              refine z_wq (ws' := [aI cI mg 100 (sgA sg), aL cL ma 800 (moA up), aL cL mb 800 (moA dn), oM mo 0 mw (nv : Int) mg ma mb (ns : Int) mlo mhi (nw : Int) mwe mru mrd, aL cL mw 160 (wkA rc)]) (by rw [hrc]) ?_
              refine z_aload_n S d_M_over_83 1 rfl ?_
              refine z_iload_n S d_M_over_84 2 rfl ?_
              refine z_iconst S d_M_over_85 ?_
              refine z_callVv (As := [.int (zI (u : Int)), .int (zI 2)]) (st := []) (wc := [oM mo 0 mw (nv : Int) mg ma mb (ns : Int) mlo mhi (nw : Int) mwe mru mrd, aL cL mw 160 (wkA rc), aL cL mb 800 (moA dn)]) (wr := [aI cI mg 100 (sgA sg), aL cL ma 800 (moA up)]) S hGok hK hg hA (s_M_loadDown l dC dI cI cL qT mo mw nv ma mb ns mlo mhi nw mwe mru mrd 0 mg rc dn u 2 (by omega) (by omega) (by omega)) (zcwV S (List.mem_cons_of_mem _ k_M_112) mV_M_loadDown k_M_112 hd_M_loadDown rfl rfl ⟨Nat.le_of_ble_eq_true rfl, Nat.le_of_ble_eq_true rfl⟩) rfl (Nat.le_of_ble_eq_true rfl) d_M_over_86 ⟨Nat.le_of_ble_eq_true rfl, Nat.le_of_ble_eq_true rfl⟩ rfl [3, 4, 2] [0, 1] 3 rfl rfl rfl (by decide) rfl rfl rfl (by decide) (by decide) (fun w hp => ?_)
              subst hp
              show ZZ _ _ _ _ _ _ _ _ _ _ _ _ _ _ _ _ _ _ 89 [(3, .int (zI 1)), (0, .ref mo), (1, .int (zI (u : Int))), (2, .int (zI (v : Int)))] [] [aI cI mg 100 (sgA sg), aL cL ma 800 (moA up), oM mo 0 mw (nv : Int) mg ma mb (ns : Int) mlo mhi (nw : Int) mwe mru mrd, aL cL mw 160 (wkA (un rc 2 (dn u))), aL cL mb 800 (moA dn)]
              obtain ⟨rd, hrd, d0, d2⟩ : ∃ rd : Nat → Nat, rd = (un rc 2 (dn u)) ∧ rd 0 = up u * dn v ∧ rd 2 = dn u := ⟨(un rc 2 (dn u)), rfl, c0, rfl⟩
              refine z_wq (ws' := [aI cI mg 100 (sgA sg), aL cL ma 800 (moA up), oM mo 0 mw (nv : Int) mg ma mb (ns : Int) mlo mhi (nw : Int) mwe mru mrd, aL cL mw 160 (wkA rd), aL cL mb 800 (moA dn)]) (by rw [hrd]) ?_
              refine z_aload_n S d_M_over_89 1 rfl ?_
              refine z_iload_n S d_M_over_90 3 rfl ?_
              refine z_iconst S d_M_over_91 ?_
              refine z_callVv (As := [.int (zI (v : Int)), .int (zI 3)]) (st := []) (wc := [oM mo 0 mw (nv : Int) mg ma mb (ns : Int) mlo mhi (nw : Int) mwe mru mrd, aL cL mw 160 (wkA rd), aL cL ma 800 (moA up)]) (wr := [aI cI mg 100 (sgA sg), aL cL mb 800 (moA dn)]) S hGok hK hg hA (s_M_loadUp l dC dI cI cL qT mo mw nv ma mb ns mlo mhi nw mwe mru mrd 0 mg rd up v 3 (by omega) (by omega) (by omega)) (zcwV S (List.mem_cons_of_mem _ k_M_109) mV_M_loadUp k_M_109 hd_M_loadUp rfl rfl ⟨Nat.le_of_ble_eq_true rfl, Nat.le_of_ble_eq_true rfl⟩) rfl (Nat.le_of_ble_eq_true rfl) d_M_over_92 ⟨Nat.le_of_ble_eq_true rfl, Nat.le_of_ble_eq_true rfl⟩ rfl [2, 3, 1] [0, 4] 2 rfl rfl rfl (by decide) rfl rfl rfl (by decide) (by decide) (fun w hp => ?_)
              subst hp
              show ZZ _ _ _ _ _ _ _ _ _ _ _ _ _ _ _ _ _ _ 95 [(3, .int (zI 1)), (0, .ref mo), (1, .int (zI (u : Int))), (2, .int (zI (v : Int)))] [] [aI cI mg 100 (sgA sg), aL cL mb 800 (moA dn), oM mo 0 mw (nv : Int) mg ma mb (ns : Int) mlo mhi (nw : Int) mwe mru mrd, aL cL mw 160 (wkA (un rd 3 (up v))), aL cL ma 800 (moA up)]
              obtain ⟨re, hre, e0, e2, e3⟩ : ∃ re : Nat → Nat, re = (un rd 3 (up v)) ∧ re 0 = up u * dn v ∧ re 2 = dn u ∧ re 3 = up v := ⟨(un rd 3 (up v)), rfl, d0, d2, rfl⟩
              refine z_wq (ws' := [aI cI mg 100 (sgA sg), aL cL mb 800 (moA dn), oM mo 0 mw (nv : Int) mg ma mb (ns : Int) mlo mhi (nw : Int) mwe mru mrd, aL cL mw 160 (wkA re), aL cL ma 800 (moA up)]) (by rw [hre]) ?_
              refine z_aload_n S d_M_over_95 1 rfl ?_
              refine z_iconst S d_M_over_96 ?_
              refine z_iconst S d_M_over_97 ?_
              refine z_iconst S d_M_over_98 ?_
              refine z_callVv (As := [.int (zI 2), .int (zI 3), .int (zI 1)]) (st := []) (wc := [oM mo 0 mw (nv : Int) mg ma mb (ns : Int) mlo mhi (nw : Int) mwe mru mrd, aL cL mw 160 (wkA re)]) (wr := [aI cI mg 100 (sgA sg), aL cL mb 800 (moA dn), aL cL ma 800 (moA up)]) S hGok hK hg hA (s_M_multiply l dC dI cI cL qT mo mw nv ma mb ns mlo mhi nw mwe mru mrd 0 mg re 2 3 1 (by omega) (by omega) (by omega) (by omega) (by omega) (by omega) (by omega) (by rw [e2, e3]; omega)) (zcwV S (List.mem_cons_of_mem _ k_M_115) mV_M_multiply k_M_115 hd_M_multiply rfl rfl ⟨Nat.le_of_ble_eq_true rfl, Nat.le_of_ble_eq_true rfl⟩) rfl (Nat.le_of_ble_eq_true rfl) d_M_over_99 ⟨Nat.le_of_ble_eq_true rfl, Nat.le_of_ble_eq_true rfl⟩ rfl [2, 3] [0, 1, 4] 2 rfl rfl rfl (by decide) rfl rfl rfl (by decide) (by decide) (fun w hp => ?_)
              subst hp
              show ZZ _ _ _ _ _ _ _ _ _ _ _ _ _ _ _ _ _ _ 102 [(3, .int (zI 1)), (0, .ref mo), (1, .int (zI (u : Int))), (2, .int (zI (v : Int)))] [] [aI cI mg 100 (sgA sg), aL cL mb 800 (moA dn), aL cL ma 800 (moA up), oM mo 0 mw (nv : Int) mg ma mb (ns : Int) mlo mhi (nw : Int) mwe mru mrd, aL cL mw 160 (wkA (un re 1 (re 2 * re 3)))]
              obtain ⟨rf, hrf, sk0, sk1⟩ : ∃ rf : Nat → Nat, rf = (un re 1 (re 2 * re 3)) ∧ rf 0 = up u * dn v ∧ rf 1 = dn u * up v := ⟨(un re 1 (re 2 * re 3)), rfl, e0, (by show re 2 * re 3 = _; rw [e2, e3])⟩
              refine z_wq (ws' := [aI cI mg 100 (sgA sg), aL cL mb 800 (moA dn), aL cL ma 800 (moA up), oM mo 0 mw (nv : Int) mg ma mb (ns : Int) mlo mhi (nw : Int) mwe mru mrd, aL cL mw 160 (wkA rf)]) (by rw [hrf]) ?_
              refine z_aload_n S d_M_over_102 1 rfl ?_
              refine z_aload_n S d_M_over_103 1 rfl ?_
              refine z_get S hK la_M 3 rfl rfl 3 (by decide) k_M_13 rfl d_M_over_104 ?_
              refine z_iload_n S d_M_over_107 2 rfl ?_
              refine z_iald (x := sg u) S hK 0 0 rfl rfl u rfl (by omega) (by decide) rfl d_M_over_108 ?_
              refine z_aload_n S d_M_over_109 1 rfl ?_
              refine z_get S hK la_M 3 rfl rfl 3 (by decide) k_M_13 rfl d_M_over_110 ?_
              refine z_iload_n S d_M_over_113 3 rfl ?_
              refine z_iald (x := sg v) S hK 0 0 rfl rfl v rfl (by omega) (by decide) rfl d_M_over_114 ?_
              refine z_imul S d_M_over_115 ?_
              refine z_callVa (As := [.int (zI ((sg u) * (sg v)))]) (st := []) (wc := [oM mo 0 mw (nv : Int) mg ma mb (ns : Int) mlo mhi (nw : Int) mwe mru mrd, aL cL mw 160 (wkA rf), aI cI mg 100 (sgA sg), aL cL ma 800 (moA up), aL cL mb 800 (moA dn)]) (wr := []) S hGok hK hg hA (s_M_keep l dC dI cI cL qT mo mw nv ma mb ns mlo mhi nw mwe mru mrd 0 mg rf sg up dn ((sg u) * (sg v)) (by omega) (by rw [sk0]; omega) (by rw [sk1]; omega) (by rw [sk1]; exact hDp) hsr) (zcwV S (List.mem_cons_of_mem _ k_M_122) mV_M_keep k_M_122 hd_M_keep rfl rfl ⟨Nat.le_of_ble_eq_true rfl, Nat.le_of_ble_eq_true rfl⟩) rfl (Nat.le_of_ble_eq_true rfl) d_M_over_116 ⟨Nat.le_of_ble_eq_true rfl, Nat.le_of_ble_eq_true rfl⟩ rfl [3, 4, 0, 2, 1] [] 3 rfl rfl rfl (by decide) rfl rfl rfl (by decide) (by decide) (fun x w hp => ?_)
              obtain ⟨rk, rfl, rfl⟩ := hp
              show ZZ _ _ _ _ _ _ _ _ _ _ _ _ _ _ _ _ _ _ 119 [(3, .int (zI 1)), (0, .ref mo), (1, .int (zI (u : Int))), (2, .int (zI (v : Int)))] [.int (zI (kpR nv (lwX (rf 0) (rf 1)) (lwZ (rf 0) (rf 1))))] [oM mo 0 mw ((kpC nv (lwX (rf 0) (rf 1)) (lwZ (rf 0) (rf 1)) : Nat) : Int) mg ma mb (ns : Int) mlo mhi (nw : Int) mwe mru mrd, aL cL mw 160 (wkA rk), aI cI mg 100 (sgA (kpS sg nv (zs (lwX (rf 0) (rf 1)) ((sg u) * (sg v))) (lwX (rf 0) (rf 1)) (lwZ (rf 0) (rf 1)))), aL cL ma 800 (moA (kpU up nv (lwX (rf 0) (rf 1)) (lwX (rf 0) (rf 1)) (lwZ (rf 0) (rf 1)))), aL cL mb 800 (moA (kpU dn nv (lwZ (rf 0) (rf 1)) (lwX (rf 0) (rf 1)) (lwZ (rf 0) (rf 1))))]
              exact z_iret (w := [oM mo 0 mw ((kpC nv (lwX (rf 0) (rf 1)) (lwZ (rf 0) (rf 1)) : Nat) : Int) mg ma mb (ns : Int) mlo mhi (nw : Int) mwe mru mrd, aL cL mw 160 (wkA rk), aI cI mg 100 (sgA (kpS sg nv (zs (lwX (rf 0) (rf 1)) ((sg u) * (sg v))) (lwX (rf 0) (rf 1)) (lwZ (rf 0) (rf 1)))), aL cL ma 800 (moA (kpU up nv (lwX (rf 0) (rf 1)) (lwX (rf 0) (rf 1)) (lwZ (rf 0) (rf 1)))), aL cL mb 800 (moA (kpU dn nv (lwZ (rf 0) (rf 1)) (lwX (rf 0) (rf 1)) (lwZ (rf 0) (rf 1))))]) S hr hlo hAe d_M_over_119 [0, 1, 2, 3, 4] (by decide) rfl rfl ⟨Nat.le_refl _, Nat.le_refl _⟩ (⟨rk, by rw [sk0, sk1], by rw [sk0, sk1, hS]⟩)
            · skip
              exact absurd c6 (by omega)
set_option maxHeartbeats 4000000 in
set_option maxRecDepth 100000 in
theorem f3_M_over (l : Launch) (dC : Nat → ClassId) (dI : Nat → Nat → Nat) (cI cL : ClassId) (qT : Nat) (mo : Nat) (mw : Nat) (nv : Nat) (ma : Nat) (mb : Nat) (ns : Nat) (mlo : Nat) (mhi : Nat) (nw : Nat) (mwe : Nat) (mru : Nat) (mrd : Nat) (th : Int) (mg : Nat) (rr : Nat → Nat) (sg : Nat → Int) (up : Nat → Nat) (dn : Nat → Nat) (u : Nat) (v : Nat) (hnv : nv < 100) (hu : u < nv) (hv : v < nv) (h0 : sg v = 0) : Ct l y_M_over (Cond.code y_M_over c_M_over 4 (some .int) :: zB) { frames := 5, cells := 0, slots := 0, locals := 128 } (dC, dI) zcl [(cI, .int), (cL, .long)] (zG cI cL qT) [.ref mo, .int (zI (u : Int)), .int (zI (v : Int))] [oM mo th mw (nv : Int) mg ma mb (ns : Int) mlo mhi (nw : Int) mwe mru mrd, aI cI mg 100 (sgA sg), aL cL ma 800 (moA up), aL cL mb 800 (moA dn)] (fun rv wv => rv = .int (zI 0) ∧ wv = [oM mo 3 mw (nv : Int) mg ma mb (ns : Int) mlo mhi (nw : Int) mwe mru mrd, aI cI mg 100 (sgA sg), aL cL ma 800 (moA up), aL cL mb 800 (moA dn)]) 0 0 := by
  refine Cm.ofZ (cc := c_M_over) (maxL := 4) (ret := (some .int)) (by decide) rfl (Nat.le_of_ble_eq_true rfl) rfl ?_
  intro p e s m below meth c A S hr hlo hnm hK hg hA hAe
  have hGok := zG_ok cI cL qT
  show ZZ _ _ _ _ _ _ _ _ _ _ _ _ _ _ _ _ _ _ 0 [(0, .ref mo), (1, .int (zI (u : Int))), (2, .int (zI (v : Int)))] [] [oM mo th mw (nv : Int) mg ma mb (ns : Int) mlo mhi (nw : Int) mwe mru mrd, aI cI mg 100 (sgA sg), aL cL ma 800 (moA up), aL cL mb 800 (moA dn)]
  refine z_aload_n S d_M_over_0 0 rfl ?_
  refine z_iload_n S d_M_over_1 1 rfl ?_
  refine z_callVa (As := [.int (zI (u : Int))]) (st := []) (wc := [oM mo th mw (nv : Int) mg ma mb (ns : Int) mlo mhi (nw : Int) mwe mru mrd]) (wr := [aI cI mg 100 (sgA sg), aL cL ma 800 (moA up), aL cL mb 800 (moA dn)]) S hGok hK hg hA (s_M_isValue l dC dI cI cL qT mo mw nv ma mb ns mlo mhi nw mwe mru mrd th mg (u : Int) (by omega) (by omega)) (zcwV S (List.mem_cons_of_mem _ k_M_125) mV_M_isValue k_M_125 hd_M_isValue rfl rfl ⟨Nat.le_of_ble_eq_true rfl, Nat.le_of_ble_eq_true rfl⟩) rfl (Nat.le_of_ble_eq_true rfl) d_M_over_2 ⟨Nat.le_of_ble_eq_true rfl, Nat.le_of_ble_eq_true rfl⟩ rfl [0] [1, 2, 3] 0 rfl rfl rfl (by decide) rfl rfl rfl (by decide) (by decide) (fun x w hp => ?_)
  obtain ⟨rfl, rfl⟩ := hp
  show ZZ _ _ _ _ _ _ _ _ _ _ _ _ _ _ _ _ _ _ 5 [(0, .ref mo), (1, .int (zI (u : Int))), (2, .int (zI (v : Int)))] [.int (zI (b2 (0 ≤ (u : Int) ∧ (u : Int) < (nv : Int))))] [aI cI mg 100 (sgA sg), aL cL ma 800 (moA up), aL cL mb 800 (moA dn), oM mo th mw (nv : Int) mg ma mb (ns : Int) mlo mhi (nw : Int) mwe mru mrd]
  refine z_toi (a := 1) (zI_c (b2_t ⟨by omega, by omega⟩)) ?_
  refine z_if_eq (tgt := 20) S d_M_over_5 (by decide) (by omega) (fun c1 => ?_) (fun c1 => ?_)
  · skip
    exact absurd c1 (by omega)
  · skip
    refine z_aload_n S d_M_over_8 0 rfl ?_
    refine z_iload_n S d_M_over_9 2 rfl ?_
    refine z_callVa (As := [.int (zI (v : Int))]) (st := []) (wc := [oM mo th mw (nv : Int) mg ma mb (ns : Int) mlo mhi (nw : Int) mwe mru mrd]) (wr := [aI cI mg 100 (sgA sg), aL cL ma 800 (moA up), aL cL mb 800 (moA dn)]) S hGok hK hg hA (s_M_isValue l dC dI cI cL qT mo mw nv ma mb ns mlo mhi nw mwe mru mrd th mg (v : Int) (by omega) (by omega)) (zcwV S (List.mem_cons_of_mem _ k_M_125) mV_M_isValue k_M_125 hd_M_isValue rfl rfl ⟨Nat.le_of_ble_eq_true rfl, Nat.le_of_ble_eq_true rfl⟩) rfl (Nat.le_of_ble_eq_true rfl) d_M_over_10 ⟨Nat.le_of_ble_eq_true rfl, Nat.le_of_ble_eq_true rfl⟩ rfl [3] [0, 1, 2] 3 rfl rfl rfl (by decide) rfl rfl rfl (by decide) (by decide) (fun x w hp => ?_)
    obtain ⟨rfl, rfl⟩ := hp
    show ZZ _ _ _ _ _ _ _ _ _ _ _ _ _ _ _ _ _ _ 13 [(0, .ref mo), (1, .int (zI (u : Int))), (2, .int (zI (v : Int)))] [.int (zI (b2 (0 ≤ (v : Int) ∧ (v : Int) < (nv : Int))))] [aI cI mg 100 (sgA sg), aL cL ma 800 (moA up), aL cL mb 800 (moA dn), oM mo th mw (nv : Int) mg ma mb (ns : Int) mlo mhi (nw : Int) mwe mru mrd]
    refine z_toi (a := 1) (zI_c (b2_t ⟨by omega, by omega⟩)) ?_
    refine z_if_eq (tgt := 20) S d_M_over_13 (by decide) (by omega) (fun c2 => ?_) (fun c2 => ?_)
    · skip
      exact absurd c2 (by omega)
    · skip
      refine z_iconst S d_M_over_16 ?_
      refine z_goto (tgt := 21) S d_M_over_17 (by decide) ?_
      refine z_istore_n (lv' := [(3, .int (zI 1)), (0, .ref mo), (1, .int (zI (u : Int))), (2, .int (zI (v : Int)))]) S d_M_over_21 rfl (by decide) rfl ?_
      refine z_aload_n S d_M_over_22 1 rfl ?_
      refine z_iload_n S d_M_over_23 0 rfl ?_
      refine z_aload_n S d_M_over_24 1 rfl ?_
      refine z_get S hK la_M 3 rfl rfl 2 (by decide) k_M_42 rfl d_M_over_25 ?_
      refine z_bipush S d_M_over_28 rfl ?_
      refine z_icmp_ge (tgt := 37) S d_M_over_30 (by decide) (by omega) (by omega) (fun c3 => ?_) (fun c3 => ?_)
      · skip
        omega
      · skip
        refine z_iconst S d_M_over_33 ?_
        refine z_goto (tgt := 38) S d_M_over_34 (by decide) ?_
        refine z_iload_n S d_M_over_38 0 rfl ?_
        refine z_if_eq (tgt := 55) S d_M_over_39 (by decide) (by omega) (fun c4 => ?_) (fun c4 => ?_)
        · skip
          exact absurd c4 (by omega)
        · skip
          refine z_aload_n S d_M_over_42 1 rfl ?_
          refine z_get S hK la_M 3 rfl rfl 3 (by decide) k_M_13 rfl d_M_over_43 ?_
          refine z_iload_n S d_M_over_46 3 rfl ?_
          refine z_iald (x := sg v) S hK 0 0 rfl rfl v rfl (by omega) (by decide) rfl d_M_over_47 ?_
          refine z_if_eq (tgt := 55) S d_M_over_48 (by decide) (by omega) (fun c5 => ?_) (fun c5 => ?_)
          · skip
            refine z_iconst S d_M_over_55 ?_
            refine z_callVa (As := [.int (zI 1), .int (zI 1), .int (zI 0)]) (st := []) (wc := [oM mo th mw (nv : Int) mg ma mb (ns : Int) mlo mhi (nw : Int) mwe mru mrd]) (wr := [aI cI mg 100 (sgA sg), aL cL ma 800 (moA up), aL cL mb 800 (moA dn)]) S hGok hK hg hA (s_M_goes l dC dI cI cL qT mo mw nv ma mb ns mlo mhi nw mwe mru mrd th mg 1 1 0 (by omega) (by omega) (by omega)) (zcwV S (List.mem_cons_of_mem _ k_M_118) mV_M_goes k_M_118 hd_M_goes rfl rfl ⟨Nat.le_of_ble_eq_true rfl, Nat.le_of_ble_eq_true rfl⟩) rfl (Nat.le_of_ble_eq_true rfl) d_M_over_56 ⟨Nat.le_of_ble_eq_true rfl, Nat.le_of_ble_eq_true rfl⟩ rfl [3] [0, 1, 2] 3 rfl rfl rfl (by decide) rfl rfl rfl (by decide) (by decide) (fun x w hp => ?_)
            obtain ⟨rfl, rfl⟩ := hp
            show ZZ _ _ _ _ _ _ _ _ _ _ _ _ _ _ _ _ _ _ 59 [(3, .int (zI 1)), (0, .ref mo), (1, .int (zI (u : Int))), (2, .int (zI (v : Int)))] [.int (zI (b2 (gth 1 1 0 = 0)))] [aI cI mg 100 (sgA sg), aL cL ma 800 (moA up), aL cL mb 800 (moA dn), oM mo (gth 1 1 0) mw (nv : Int) mg ma mb (ns : Int) mlo mhi (nw : Int) mwe mru mrd]
            refine z_toi (a := 0) rfl ?_
            refine z_wq (ws' := [aI cI mg 100 (sgA sg), aL cL ma 800 (moA up), aL cL mb 800 (moA dn), oM mo 3 mw (nv : Int) mg ma mb (ns : Int) mlo mhi (nw : Int) mwe mru mrd]) rfl ?_
            refine z_if_ne (tgt := 64) S d_M_over_59 (by decide) (by omega) (fun c6 => ?_) (fun c6 => ?_)
            · skip
              exact absurd c6 (by omega)
            · skip
              refine z_iconst S d_M_over_62 ?_
              exact z_iret (w := [oM mo 3 mw (nv : Int) mg ma mb (ns : Int) mlo mhi (nw : Int) mwe mru mrd, aI cI mg 100 (sgA sg), aL cL ma 800 (moA up), aL cL mb 800 (moA dn)]) S hr hlo hAe d_M_over_63 [3, 0, 1, 2] (by decide) rfl rfl ⟨Nat.le_refl _, Nat.le_refl _⟩ (⟨rfl, rfl⟩)
          · skip
            exact absurd c5 (not_not_intro h0)
set_option maxHeartbeats 4000000 in
set_option maxRecDepth 100000 in
theorem s_M_order (l : Launch) (dC : Nat → ClassId) (dI : Nat → Nat → Nat) (cI cL : ClassId) (qT : Nat) (mo : Nat) (mw : Nat) (nv : Nat) (ma : Nat) (mb : Nat) (ns : Nat) (mlo : Nat) (mhi : Nat) (nw : Nat) (mwe : Nat) (mru : Nat) (mrd : Nat) (th : Int) (mg : Nat) (rr : Nat → Nat) (sg : Nat → Int) (up : Nat → Nat) (dn : Nat → Nat) (u : Nat) (v : Nat) (hnv : nv ≤ 100) (hV : okM sg up dn nv) (hu : u < nv) (hv : v < nv) : Ct l y_M_order (Cond.code y_M_order c_M_order 3 (some .int) :: zB) { frames := 4, cells := 0, slots := 0, locals := 101 } (dC, dI) zcl [(cI, .int), (cL, .long)] (zG cI cL qT) [.ref mo, .int (zI (u : Int)), .int (zI (v : Int))] [oM mo th mw (nv : Int) mg ma mb (ns : Int) mlo mhi (nw : Int) mwe mru mrd, aL cL mw 160 (wkA rr), aI cI mg 100 (sgA sg), aL cL ma 800 (moA up), aL cL mb 800 (moA dn)] (fun rv wv => ∃ rr2 : Nat → Nat, rv = .int (zI (suS (sg u) (-sg v) (up u * dn v) (up v * dn u))) ∧ wv = [oM mo 0 mw (nv : Int) mg ma mb (ns : Int) mlo mhi (nw : Int) mwe mru mrd, aL cL mw 160 (wkA rr2), aI cI mg 100 (sgA sg), aL cL ma 800 (moA up), aL cL mb 800 (moA dn)]) 0 0 := by
  refine Cm.ofZ (cc := c_M_order) (maxL := 3) (ret := (some .int)) (by decide) rfl (Nat.le_of_ble_eq_true rfl) rfl ?_
  intro p e s m below meth c A S hr hlo hnm hK hg hA hAe
  have hGok := zG_ok cI cL qT
  show ZZ _ _ _ _ _ _ _ _ _ _ _ _ _ _ _ _ _ _ 0 [(0, .ref mo), (1, .int (zI (u : Int))), (2, .int (zI (v : Int)))] [] [oM mo th mw (nv : Int) mg ma mb (ns : Int) mlo mhi (nw : Int) mwe mru mrd, aL cL mw 160 (wkA rr), aI cI mg 100 (sgA sg), aL cL ma 800 (moA up), aL cL mb 800 (moA dn)]
  refine z_aload_n S d_M_order_0 0 rfl ?_
  refine z_aload_n S d_M_order_1 0 rfl ?_
  refine z_iload_n S d_M_order_2 1 rfl ?_
  refine z_callVa (As := [.int (zI (u : Int))]) (st := [.ref mo]) (wc := [oM mo th mw (nv : Int) mg ma mb (ns : Int) mlo mhi (nw : Int) mwe mru mrd]) (wr := [aL cL mw 160 (wkA rr), aI cI mg 100 (sgA sg), aL cL ma 800 (moA up), aL cL mb 800 (moA dn)]) S hGok hK hg hA (s_M_isValue l dC dI cI cL qT mo mw nv ma mb ns mlo mhi nw mwe mru mrd th mg (u : Int) (by omega) (by omega)) (zcwV S (List.mem_cons_of_mem _ k_M_125) mV_M_isValue k_M_125 hd_M_isValue rfl rfl ⟨Nat.le_of_ble_eq_true rfl, Nat.le_of_ble_eq_true rfl⟩) rfl (Nat.le_of_ble_eq_true rfl) d_M_order_3 ⟨Nat.le_of_ble_eq_true rfl, Nat.le_of_ble_eq_true rfl⟩ rfl [0] [1, 2, 3, 4] 0 rfl rfl rfl (by decide) rfl rfl rfl (by decide) (by decide) (fun x w hp => ?_)
  obtain ⟨rfl, rfl⟩ := hp
  show ZZ _ _ _ _ _ _ _ _ _ _ _ _ _ _ _ _ _ _ 6 [(0, .ref mo), (1, .int (zI (u : Int))), (2, .int (zI (v : Int)))] [.int (zI (b2 (0 ≤ (u : Int) ∧ (u : Int) < (nv : Int)))), .ref mo] [aL cL mw 160 (wkA rr), aI cI mg 100 (sgA sg), aL cL ma 800 (moA up), aL cL mb 800 (moA dn), oM mo th mw (nv : Int) mg ma mb (ns : Int) mlo mhi (nw : Int) mwe mru mrd]
  refine z_toi (a := 1) (zI_c (b2_t ⟨by omega, by omega⟩)) ?_
  refine z_if_eq (tgt := 21) S d_M_order_6 (by decide) (by omega) (fun c1 => ?_) (fun c1 => ?_)
  · skip
    exact absurd c1 (by omega)
  · skip
    refine z_aload_n S d_M_order_9 0 rfl ?_
    refine z_iload_n S d_M_order_10 2 rfl ?_
    refine z_callVa (As := [.int (zI (v : Int))]) (st := [.ref mo]) (wc := [oM mo th mw (nv : Int) mg ma mb (ns : Int) mlo mhi (nw : Int) mwe mru mrd]) (wr := [aL cL mw 160 (wkA rr), aI cI mg 100 (sgA sg), aL cL ma 800 (moA up), aL cL mb 800 (moA dn)]) S hGok hK hg hA (s_M_isValue l dC dI cI cL qT mo mw nv ma mb ns mlo mhi nw mwe mru mrd th mg (v : Int) (by omega) (by omega)) (zcwV S (List.mem_cons_of_mem _ k_M_125) mV_M_isValue k_M_125 hd_M_isValue rfl rfl ⟨Nat.le_of_ble_eq_true rfl, Nat.le_of_ble_eq_true rfl⟩) rfl (Nat.le_of_ble_eq_true rfl) d_M_order_11 ⟨Nat.le_of_ble_eq_true rfl, Nat.le_of_ble_eq_true rfl⟩ rfl [4] [0, 1, 2, 3] 4 rfl rfl rfl (by decide) rfl rfl rfl (by decide) (by decide) (fun x w hp => ?_)
    obtain ⟨rfl, rfl⟩ := hp
    show ZZ _ _ _ _ _ _ _ _ _ _ _ _ _ _ _ _ _ _ 14 [(0, .ref mo), (1, .int (zI (u : Int))), (2, .int (zI (v : Int)))] [.int (zI (b2 (0 ≤ (v : Int) ∧ (v : Int) < (nv : Int)))), .ref mo] [aL cL mw 160 (wkA rr), aI cI mg 100 (sgA sg), aL cL ma 800 (moA up), aL cL mb 800 (moA dn), oM mo th mw (nv : Int) mg ma mb (ns : Int) mlo mhi (nw : Int) mwe mru mrd]
    refine z_toi (a := 1) (zI_c (b2_t ⟨by omega, by omega⟩)) ?_
    refine z_if_eq (tgt := 21) S d_M_order_14 (by decide) (by omega) (fun c2 => ?_) (fun c2 => ?_)
    · skip
      exact absurd c2 (by omega)
    · skip
      refine z_iconst S d_M_order_17 ?_
      refine z_goto (tgt := 22) S d_M_order_18 (by decide) ?_
      refine z_iconst S d_M_order_22 ?_
      refine z_iconst S d_M_order_23 ?_
      refine z_callVa (As := [.int (zI 1), .int (zI 1), .int (zI 1)]) (st := []) (wc := [oM mo th mw (nv : Int) mg ma mb (ns : Int) mlo mhi (nw : Int) mwe mru mrd]) (wr := [aL cL mw 160 (wkA rr), aI cI mg 100 (sgA sg), aL cL ma 800 (moA up), aL cL mb 800 (moA dn)]) S hGok hK hg hA (s_M_goes l dC dI cI cL qT mo mw nv ma mb ns mlo mhi nw mwe mru mrd th mg 1 1 1 (by omega) (by omega) (by omega)) (zcwV S (List.mem_cons_of_mem _ k_M_118) mV_M_goes k_M_118 hd_M_goes rfl rfl ⟨Nat.le_of_ble_eq_true rfl, Nat.le_of_ble_eq_true rfl⟩) rfl (Nat.le_of_ble_eq_true rfl) d_M_order_24 ⟨Nat.le_of_ble_eq_true rfl, Nat.le_of_ble_eq_true rfl⟩ rfl [4] [0, 1, 2, 3] 4 rfl rfl rfl (by decide) rfl rfl rfl (by decide) (by decide) (fun x w hp => ?_)
      obtain ⟨rfl, rfl⟩ := hp
      show ZZ _ _ _ _ _ _ _ _ _ _ _ _ _ _ _ _ _ _ 27 [(0, .ref mo), (1, .int (zI (u : Int))), (2, .int (zI (v : Int)))] [.int (zI (b2 (gth 1 1 1 = 0)))] [aL cL mw 160 (wkA rr), aI cI mg 100 (sgA sg), aL cL ma 800 (moA up), aL cL mb 800 (moA dn), oM mo (gth 1 1 1) mw (nv : Int) mg ma mb (ns : Int) mlo mhi (nw : Int) mwe mru mrd]
      refine z_toi (a := 1) rfl ?_
      refine z_wq (ws' := [aL cL mw 160 (wkA rr), aI cI mg 100 (sgA sg), aL cL ma 800 (moA up), aL cL mb 800 (moA dn), oM mo 0 mw (nv : Int) mg ma mb (ns : Int) mlo mhi (nw : Int) mwe mru mrd]) rfl ?_
      refine z_if_ne (tgt := 32) S d_M_order_27 (by decide) (by omega) (fun c3 => ?_) (fun c3 => ?_)
      · skip
        refine z_aload_n S d_M_order_32 0 rfl ?_
        refine z_iload_n S d_M_order_33 1 rfl ?_
        refine z_iload_n S d_M_order_34 2 rfl ?_
        refine z_callVa (As := [.int (zI (u : Int)), .int (zI (v : Int))]) (st := []) (wc := [oM mo 0 mw (nv : Int) mg ma mb (ns : Int) mlo mhi (nw : Int) mwe mru mrd, aL cL mw 160 (wkA rr), aI cI mg 100 (sgA sg), aL cL ma 800 (moA up), aL cL mb 800 (moA dn)]) (wr := []) S hGok hK hg hA (s_M_compareValues l dC dI cI cL qT mo mw nv ma mb ns mlo mhi nw mwe mru mrd 0 mg rr sg up dn u v (by omega) (by omega) (hV u hu) (hV v hv)) (zcwV S (List.mem_cons_of_mem _ k_M_135) mV_M_compareValues k_M_135 hd_M_compareValues rfl rfl ⟨Nat.le_of_ble_eq_true rfl, Nat.le_of_ble_eq_true rfl⟩) rfl (Nat.le_of_ble_eq_true rfl) d_M_order_35 ⟨Nat.le_of_ble_eq_true rfl, Nat.le_of_ble_eq_true rfl⟩ rfl [4, 0, 1, 2, 3] [] 4 rfl rfl rfl (by decide) rfl rfl rfl (by decide) (by decide) (fun x w hp => ?_)
        obtain ⟨rk, rfl, rfl⟩ := hp
        show ZZ _ _ _ _ _ _ _ _ _ _ _ _ _ _ _ _ _ _ 38 [(0, .ref mo), (1, .int (zI (u : Int))), (2, .int (zI (v : Int)))] [.int (zI (suS (sg u) (-sg v) (up u * dn v) (up v * dn u)))] [oM mo 0 mw (nv : Int) mg ma mb (ns : Int) mlo mhi (nw : Int) mwe mru mrd, aL cL mw 160 (wkA rk), aI cI mg 100 (sgA sg), aL cL ma 800 (moA up), aL cL mb 800 (moA dn)]
        exact z_iret (w := [oM mo 0 mw (nv : Int) mg ma mb (ns : Int) mlo mhi (nw : Int) mwe mru mrd, aL cL mw 160 (wkA rk), aI cI mg 100 (sgA sg), aL cL ma 800 (moA up), aL cL mb 800 (moA dn)]) S hr hlo hAe d_M_order_38 [0, 1, 2, 3, 4] (by decide) rfl rfl ⟨Nat.le_refl _, Nat.le_refl _⟩ (⟨rk, rfl, rfl⟩)
      · skip
        exact absurd c3 (by omega)
set_option maxHeartbeats 4000000 in
set_option maxRecDepth 100000 in
theorem f1_M_add (l : Launch) (dC : Nat → ClassId) (dI : Nat → Nat → Nat) (cI cL : ClassId) (qT : Nat) (mo : Nat) (mw : Nat) (nv : Nat) (ma : Nat) (mb : Nat) (ns : Nat) (mlo : Nat) (mhi : Nat) (nw : Nat) (mwe : Nat) (mru : Nat) (mrd : Nat) (th : Int) (mg : Nat) (u : Int) (v : Int) (hnv : nv ≤ 100) (hur : -2147483648 ≤ u ∧ u < 2147483648) (hvr : -2147483648 ≤ v ∧ v < 2147483648) (hu : ¬ ((0 ≤ u ∧ u < (nv : Int)) ∧ (0 ≤ v ∧ v < (nv : Int)))) : Ct l y_M_add (Cond.code y_M_add c_M_add 3 (some .int) :: zB) { frames := 5, cells := 0, slots := 0, locals := 128 } (dC, dI) zcl [(cI, .int), (cL, .long)] (zG cI cL qT) [.ref mo, .int (zI u), .int (zI v)] [oM mo th mw (nv : Int) mg ma mb (ns : Int) mlo mhi (nw : Int) mwe mru mrd] (fun rv wv => rv = .int (zI 0) ∧ wv = [oM mo 1 mw (nv : Int) mg ma mb (ns : Int) mlo mhi (nw : Int) mwe mru mrd]) 0 0 := by
  refine Cm.ofZ (cc := c_M_add) (maxL := 3) (ret := (some .int)) (by decide) rfl (Nat.le_of_ble_eq_true rfl) rfl ?_
  intro p e s m below meth c A S hr hlo hnm hK hg hA hAe
  have hGok := zG_ok cI cL qT
  show ZZ _ _ _ _ _ _ _ _ _ _ _ _ _ _ _ _ _ _ 0 [(0, .ref mo), (1, .int (zI u)), (2, .int (zI v))] [] [oM mo th mw (nv : Int) mg ma mb (ns : Int) mlo mhi (nw : Int) mwe mru mrd]
  refine z_aload_n S d_M_add_0 0 rfl ?_
  refine z_aload_n S d_M_add_1 0 rfl ?_
  refine z_iload_n S d_M_add_2 1 rfl ?_
  refine z_callVa (As := [.int (zI u)]) (st := [.ref mo]) (wc := [oM mo th mw (nv : Int) mg ma mb (ns : Int) mlo mhi (nw : Int) mwe mru mrd]) (wr := []) S hGok hK hg hA (s_M_isValue l dC dI cI cL qT mo mw nv ma mb ns mlo mhi nw mwe mru mrd th mg u (by omega) (by omega)) (zcwV S (List.mem_cons_of_mem _ k_M_125) mV_M_isValue k_M_125 hd_M_isValue rfl rfl ⟨Nat.le_of_ble_eq_true rfl, Nat.le_of_ble_eq_true rfl⟩) rfl (Nat.le_of_ble_eq_true rfl) d_M_add_3 ⟨Nat.le_of_ble_eq_true rfl, Nat.le_of_ble_eq_true rfl⟩ rfl [0] [] 0 rfl rfl rfl (by decide) rfl rfl rfl (by decide) (by decide) (fun x w hp => ?_)
  obtain ⟨rfl, rfl⟩ := hp
  show ZZ _ _ _ _ _ _ _ _ _ _ _ _ _ _ _ _ _ _ 6 [(0, .ref mo), (1, .int (zI u)), (2, .int (zI v))] [.int (zI (b2 (0 ≤ u ∧ u < (nv : Int)))), .ref mo] [oM mo th mw (nv : Int) mg ma mb (ns : Int) mlo mhi (nw : Int) mwe mru mrd]
  have hb1 := b2_r (0 ≤ u ∧ u < (nv : Int))
  refine z_if_eq (tgt := 21) S d_M_add_6 (by decide) (by omega) (fun c1 => ?_) (fun c1 => ?_)
  · skip
    refine z_iconst S d_M_add_21 ?_
    refine z_aload_n S d_M_add_22 0 rfl ?_
    refine z_get S hK la_M 0 rfl rfl 2 (by decide) k_M_42 rfl d_M_add_23 ?_
    refine z_bipush S d_M_add_26 rfl ?_
    refine z_icmp_ge (tgt := 35) S d_M_add_28 (by decide) (by omega) (by omega) (fun c2 => ?_) (fun c2 => ?_)
    · skip
      refine z_iconst S d_M_add_35 ?_
      refine z_iconst S d_M_add_36 ?_
      refine z_callVa (As := [.int (zI 0), .int (zI 0), .int (zI 1)]) (st := []) (wc := [oM mo th mw (nv : Int) mg ma mb (ns : Int) mlo mhi (nw : Int) mwe mru mrd]) (wr := []) S hGok hK hg hA (s_M_goes l dC dI cI cL qT mo mw nv ma mb ns mlo mhi nw mwe mru mrd th mg 0 0 1 (by omega) (by omega) (by omega)) (zcwV S (List.mem_cons_of_mem _ k_M_118) mV_M_goes k_M_118 hd_M_goes rfl rfl ⟨Nat.le_of_ble_eq_true rfl, Nat.le_of_ble_eq_true rfl⟩) rfl (Nat.le_of_ble_eq_true rfl) d_M_add_37 ⟨Nat.le_of_ble_eq_true rfl, Nat.le_of_ble_eq_true rfl⟩ rfl [0] [] 0 rfl rfl rfl (by decide) rfl rfl rfl (by decide) (by decide) (fun x w hp => ?_)
      obtain ⟨rfl, rfl⟩ := hp
      show ZZ _ _ _ _ _ _ _ _ _ _ _ _ _ _ _ _ _ _ 40 [(0, .ref mo), (1, .int (zI u)), (2, .int (zI v))] [.int (zI (b2 (gth 0 0 1 = 0)))] [oM mo (gth 0 0 1) mw (nv : Int) mg ma mb (ns : Int) mlo mhi (nw : Int) mwe mru mrd]
      refine z_toi (a := 0) rfl ?_
      refine z_wq (ws' := [oM mo 1 mw (nv : Int) mg ma mb (ns : Int) mlo mhi (nw : Int) mwe mru mrd]) rfl ?_
      refine z_if_ne (tgt := 45) S d_M_add_40 (by decide) (by omega) (fun c3 => ?_) (fun c3 => ?_)
      · skip
        exact absurd c3 (by omega)
      · skip
        refine z_iconst S d_M_add_43 ?_
        exact z_iret (w := [oM mo 1 mw (nv : Int) mg ma mb (ns : Int) mlo mhi (nw : Int) mwe mru mrd]) S hr hlo hAe d_M_add_44 [0] (by decide) rfl rfl ⟨Nat.le_refl _, Nat.le_refl _⟩ (⟨rfl, rfl⟩)
    · skip
      refine z_iconst S d_M_add_31 ?_
      refine z_goto (tgt := 36) S d_M_add_32 (by decide) ?_
      refine z_iconst S d_M_add_36 ?_
      refine z_callVa (As := [.int (zI 0), .int (zI 1), .int (zI 1)]) (st := []) (wc := [oM mo th mw (nv : Int) mg ma mb (ns : Int) mlo mhi (nw : Int) mwe mru mrd]) (wr := []) S hGok hK hg hA (s_M_goes l dC dI cI cL qT mo mw nv ma mb ns mlo mhi nw mwe mru mrd th mg 0 1 1 (by omega) (by omega) (by omega)) (zcwV S (List.mem_cons_of_mem _ k_M_118) mV_M_goes k_M_118 hd_M_goes rfl rfl ⟨Nat.le_of_ble_eq_true rfl, Nat.le_of_ble_eq_true rfl⟩) rfl (Nat.le_of_ble_eq_true rfl) d_M_add_37 ⟨Nat.le_of_ble_eq_true rfl, Nat.le_of_ble_eq_true rfl⟩ rfl [0] [] 0 rfl rfl rfl (by decide) rfl rfl rfl (by decide) (by decide) (fun x w hp => ?_)
      obtain ⟨rfl, rfl⟩ := hp
      show ZZ _ _ _ _ _ _ _ _ _ _ _ _ _ _ _ _ _ _ 40 [(0, .ref mo), (1, .int (zI u)), (2, .int (zI v))] [.int (zI (b2 (gth 0 1 1 = 0)))] [oM mo (gth 0 1 1) mw (nv : Int) mg ma mb (ns : Int) mlo mhi (nw : Int) mwe mru mrd]
      refine z_toi (a := 0) rfl ?_
      refine z_wq (ws' := [oM mo 1 mw (nv : Int) mg ma mb (ns : Int) mlo mhi (nw : Int) mwe mru mrd]) rfl ?_
      refine z_if_ne (tgt := 45) S d_M_add_40 (by decide) (by omega) (fun c4 => ?_) (fun c4 => ?_)
      · skip
        exact absurd c4 (by omega)
      · skip
        refine z_iconst S d_M_add_43 ?_
        exact z_iret (w := [oM mo 1 mw (nv : Int) mg ma mb (ns : Int) mlo mhi (nw : Int) mwe mru mrd]) S hr hlo hAe d_M_add_44 [0] (by decide) rfl rfl ⟨Nat.le_refl _, Nat.le_refl _⟩ (⟨rfl, rfl⟩)
  · skip
    have hq6 := b2_p c1
    refine z_aload_n S d_M_add_9 0 rfl ?_
    refine z_iload_n S d_M_add_10 2 rfl ?_
    refine z_callVa (As := [.int (zI v)]) (st := [.ref mo]) (wc := [oM mo th mw (nv : Int) mg ma mb (ns : Int) mlo mhi (nw : Int) mwe mru mrd]) (wr := []) S hGok hK hg hA (s_M_isValue l dC dI cI cL qT mo mw nv ma mb ns mlo mhi nw mwe mru mrd th mg v (by omega) (by omega)) (zcwV S (List.mem_cons_of_mem _ k_M_125) mV_M_isValue k_M_125 hd_M_isValue rfl rfl ⟨Nat.le_of_ble_eq_true rfl, Nat.le_of_ble_eq_true rfl⟩) rfl (Nat.le_of_ble_eq_true rfl) d_M_add_11 ⟨Nat.le_of_ble_eq_true rfl, Nat.le_of_ble_eq_true rfl⟩ rfl [0] [] 0 rfl rfl rfl (by decide) rfl rfl rfl (by decide) (by decide) (fun x w hp => ?_)
    obtain ⟨rfl, rfl⟩ := hp
    show ZZ _ _ _ _ _ _ _ _ _ _ _ _ _ _ _ _ _ _ 14 [(0, .ref mo), (1, .int (zI u)), (2, .int (zI v))] [.int (zI (b2 (0 ≤ v ∧ v < (nv : Int)))), .ref mo] [oM mo th mw (nv : Int) mg ma mb (ns : Int) mlo mhi (nw : Int) mwe mru mrd]
    have hb2 := b2_r (0 ≤ v ∧ v < (nv : Int))
    refine z_if_eq (tgt := 21) S d_M_add_14 (by decide) (by omega) (fun c5 => ?_) (fun c5 => ?_)
    · skip
      refine z_iconst S d_M_add_21 ?_
      refine z_aload_n S d_M_add_22 0 rfl ?_
      refine z_get S hK la_M 0 rfl rfl 2 (by decide) k_M_42 rfl d_M_add_23 ?_
      refine z_bipush S d_M_add_26 rfl ?_
      refine z_icmp_ge (tgt := 35) S d_M_add_28 (by decide) (by omega) (by omega) (fun c6 => ?_) (fun c6 => ?_)
      · skip
        refine z_iconst S d_M_add_35 ?_
        refine z_iconst S d_M_add_36 ?_
        refine z_callVa (As := [.int (zI 0), .int (zI 0), .int (zI 1)]) (st := []) (wc := [oM mo th mw (nv : Int) mg ma mb (ns : Int) mlo mhi (nw : Int) mwe mru mrd]) (wr := []) S hGok hK hg hA (s_M_goes l dC dI cI cL qT mo mw nv ma mb ns mlo mhi nw mwe mru mrd th mg 0 0 1 (by omega) (by omega) (by omega)) (zcwV S (List.mem_cons_of_mem _ k_M_118) mV_M_goes k_M_118 hd_M_goes rfl rfl ⟨Nat.le_of_ble_eq_true rfl, Nat.le_of_ble_eq_true rfl⟩) rfl (Nat.le_of_ble_eq_true rfl) d_M_add_37 ⟨Nat.le_of_ble_eq_true rfl, Nat.le_of_ble_eq_true rfl⟩ rfl [0] [] 0 rfl rfl rfl (by decide) rfl rfl rfl (by decide) (by decide) (fun x w hp => ?_)
        obtain ⟨rfl, rfl⟩ := hp
        show ZZ _ _ _ _ _ _ _ _ _ _ _ _ _ _ _ _ _ _ 40 [(0, .ref mo), (1, .int (zI u)), (2, .int (zI v))] [.int (zI (b2 (gth 0 0 1 = 0)))] [oM mo (gth 0 0 1) mw (nv : Int) mg ma mb (ns : Int) mlo mhi (nw : Int) mwe mru mrd]
        refine z_toi (a := 0) rfl ?_
        refine z_wq (ws' := [oM mo 1 mw (nv : Int) mg ma mb (ns : Int) mlo mhi (nw : Int) mwe mru mrd]) rfl ?_
        refine z_if_ne (tgt := 45) S d_M_add_40 (by decide) (by omega) (fun c7 => ?_) (fun c7 => ?_)
        · skip
          exact absurd c7 (by omega)
        · skip
          refine z_iconst S d_M_add_43 ?_
          exact z_iret (w := [oM mo 1 mw (nv : Int) mg ma mb (ns : Int) mlo mhi (nw : Int) mwe mru mrd]) S hr hlo hAe d_M_add_44 [0] (by decide) rfl rfl ⟨Nat.le_refl _, Nat.le_refl _⟩ (⟨rfl, rfl⟩)
      · skip
        refine z_iconst S d_M_add_31 ?_
        refine z_goto (tgt := 36) S d_M_add_32 (by decide) ?_
        refine z_iconst S d_M_add_36 ?_
        refine z_callVa (As := [.int (zI 0), .int (zI 1), .int (zI 1)]) (st := []) (wc := [oM mo th mw (nv : Int) mg ma mb (ns : Int) mlo mhi (nw : Int) mwe mru mrd]) (wr := []) S hGok hK hg hA (s_M_goes l dC dI cI cL qT mo mw nv ma mb ns mlo mhi nw mwe mru mrd th mg 0 1 1 (by omega) (by omega) (by omega)) (zcwV S (List.mem_cons_of_mem _ k_M_118) mV_M_goes k_M_118 hd_M_goes rfl rfl ⟨Nat.le_of_ble_eq_true rfl, Nat.le_of_ble_eq_true rfl⟩) rfl (Nat.le_of_ble_eq_true rfl) d_M_add_37 ⟨Nat.le_of_ble_eq_true rfl, Nat.le_of_ble_eq_true rfl⟩ rfl [0] [] 0 rfl rfl rfl (by decide) rfl rfl rfl (by decide) (by decide) (fun x w hp => ?_)
        obtain ⟨rfl, rfl⟩ := hp
        show ZZ _ _ _ _ _ _ _ _ _ _ _ _ _ _ _ _ _ _ 40 [(0, .ref mo), (1, .int (zI u)), (2, .int (zI v))] [.int (zI (b2 (gth 0 1 1 = 0)))] [oM mo (gth 0 1 1) mw (nv : Int) mg ma mb (ns : Int) mlo mhi (nw : Int) mwe mru mrd]
        refine z_toi (a := 0) rfl ?_
        refine z_wq (ws' := [oM mo 1 mw (nv : Int) mg ma mb (ns : Int) mlo mhi (nw : Int) mwe mru mrd]) rfl ?_
        refine z_if_ne (tgt := 45) S d_M_add_40 (by decide) (by omega) (fun c8 => ?_) (fun c8 => ?_)
        · skip
          exact absurd c8 (by omega)
        · skip
          refine z_iconst S d_M_add_43 ?_
          exact z_iret (w := [oM mo 1 mw (nv : Int) mg ma mb (ns : Int) mlo mhi (nw : Int) mwe mru mrd]) S hr hlo hAe d_M_add_44 [0] (by decide) rfl rfl ⟨Nat.le_refl _, Nat.le_refl _⟩ (⟨rfl, rfl⟩)
    · skip
      exact absurd c5 (fun z => hu ⟨hq6, b2_p z⟩)
set_option maxHeartbeats 4000000 in
set_option maxRecDepth 100000 in
theorem f1_M_less (l : Launch) (dC : Nat → ClassId) (dI : Nat → Nat → Nat) (cI cL : ClassId) (qT : Nat) (mo : Nat) (mw : Nat) (nv : Nat) (ma : Nat) (mb : Nat) (ns : Nat) (mlo : Nat) (mhi : Nat) (nw : Nat) (mwe : Nat) (mru : Nat) (mrd : Nat) (th : Int) (mg : Nat) (u : Int) (v : Int) (hnv : nv ≤ 100) (hur : -2147483648 ≤ u ∧ u < 2147483648) (hvr : -2147483648 ≤ v ∧ v < 2147483648) (hu : ¬ ((0 ≤ u ∧ u < (nv : Int)) ∧ (0 ≤ v ∧ v < (nv : Int)))) : Ct l y_M_less (Cond.code y_M_less c_M_less 3 (some .int) :: zB) { frames := 5, cells := 0, slots := 0, locals := 128 } (dC, dI) zcl [(cI, .int), (cL, .long)] (zG cI cL qT) [.ref mo, .int (zI u), .int (zI v)] [oM mo th mw (nv : Int) mg ma mb (ns : Int) mlo mhi (nw : Int) mwe mru mrd] (fun rv wv => rv = .int (zI 0) ∧ wv = [oM mo 1 mw (nv : Int) mg ma mb (ns : Int) mlo mhi (nw : Int) mwe mru mrd]) 0 0 := by
  refine Cm.ofZ (cc := c_M_less) (maxL := 3) (ret := (some .int)) (by decide) rfl (Nat.le_of_ble_eq_true rfl) rfl ?_
  intro p e s m below meth c A S hr hlo hnm hK hg hA hAe
  have hGok := zG_ok cI cL qT
  show ZZ _ _ _ _ _ _ _ _ _ _ _ _ _ _ _ _ _ _ 0 [(0, .ref mo), (1, .int (zI u)), (2, .int (zI v))] [] [oM mo th mw (nv : Int) mg ma mb (ns : Int) mlo mhi (nw : Int) mwe mru mrd]
  refine z_aload_n S d_M_less_0 0 rfl ?_
  refine z_aload_n S d_M_less_1 0 rfl ?_
  refine z_iload_n S d_M_less_2 1 rfl ?_
  refine z_callVa (As := [.int (zI u)]) (st := [.ref mo]) (wc := [oM mo th mw (nv : Int) mg ma mb (ns : Int) mlo mhi (nw : Int) mwe mru mrd]) (wr := []) S hGok hK hg hA (s_M_isValue l dC dI cI cL qT mo mw nv ma mb ns mlo mhi nw mwe mru mrd th mg u (by omega) (by omega)) (zcwV S (List.mem_cons_of_mem _ k_M_125) mV_M_isValue k_M_125 hd_M_isValue rfl rfl ⟨Nat.le_of_ble_eq_true rfl, Nat.le_of_ble_eq_true rfl⟩) rfl (Nat.le_of_ble_eq_true rfl) d_M_less_3 ⟨Nat.le_of_ble_eq_true rfl, Nat.le_of_ble_eq_true rfl⟩ rfl [0] [] 0 rfl rfl rfl (by decide) rfl rfl rfl (by decide) (by decide) (fun x w hp => ?_)
  obtain ⟨rfl, rfl⟩ := hp
  show ZZ _ _ _ _ _ _ _ _ _ _ _ _ _ _ _ _ _ _ 6 [(0, .ref mo), (1, .int (zI u)), (2, .int (zI v))] [.int (zI (b2 (0 ≤ u ∧ u < (nv : Int)))), .ref mo] [oM mo th mw (nv : Int) mg ma mb (ns : Int) mlo mhi (nw : Int) mwe mru mrd]
  have hb1 := b2_r (0 ≤ u ∧ u < (nv : Int))
  refine z_if_eq (tgt := 21) S d_M_less_6 (by decide) (by omega) (fun c1 => ?_) (fun c1 => ?_)
  · skip
    refine z_iconst S d_M_less_21 ?_
    refine z_aload_n S d_M_less_22 0 rfl ?_
    refine z_get S hK la_M 0 rfl rfl 2 (by decide) k_M_42 rfl d_M_less_23 ?_
    refine z_bipush S d_M_less_26 rfl ?_
    refine z_icmp_ge (tgt := 35) S d_M_less_28 (by decide) (by omega) (by omega) (fun c2 => ?_) (fun c2 => ?_)
    · skip
      refine z_iconst S d_M_less_35 ?_
      refine z_iconst S d_M_less_36 ?_
      refine z_callVa (As := [.int (zI 0), .int (zI 0), .int (zI 1)]) (st := []) (wc := [oM mo th mw (nv : Int) mg ma mb (ns : Int) mlo mhi (nw : Int) mwe mru mrd]) (wr := []) S hGok hK hg hA (s_M_goes l dC dI cI cL qT mo mw nv ma mb ns mlo mhi nw mwe mru mrd th mg 0 0 1 (by omega) (by omega) (by omega)) (zcwV S (List.mem_cons_of_mem _ k_M_118) mV_M_goes k_M_118 hd_M_goes rfl rfl ⟨Nat.le_of_ble_eq_true rfl, Nat.le_of_ble_eq_true rfl⟩) rfl (Nat.le_of_ble_eq_true rfl) d_M_less_37 ⟨Nat.le_of_ble_eq_true rfl, Nat.le_of_ble_eq_true rfl⟩ rfl [0] [] 0 rfl rfl rfl (by decide) rfl rfl rfl (by decide) (by decide) (fun x w hp => ?_)
      obtain ⟨rfl, rfl⟩ := hp
      show ZZ _ _ _ _ _ _ _ _ _ _ _ _ _ _ _ _ _ _ 40 [(0, .ref mo), (1, .int (zI u)), (2, .int (zI v))] [.int (zI (b2 (gth 0 0 1 = 0)))] [oM mo (gth 0 0 1) mw (nv : Int) mg ma mb (ns : Int) mlo mhi (nw : Int) mwe mru mrd]
      refine z_toi (a := 0) rfl ?_
      refine z_wq (ws' := [oM mo 1 mw (nv : Int) mg ma mb (ns : Int) mlo mhi (nw : Int) mwe mru mrd]) rfl ?_
      refine z_if_ne (tgt := 45) S d_M_less_40 (by decide) (by omega) (fun c3 => ?_) (fun c3 => ?_)
      · skip
        exact absurd c3 (by omega)
      · skip
        refine z_iconst S d_M_less_43 ?_
        exact z_iret (w := [oM mo 1 mw (nv : Int) mg ma mb (ns : Int) mlo mhi (nw : Int) mwe mru mrd]) S hr hlo hAe d_M_less_44 [0] (by decide) rfl rfl ⟨Nat.le_refl _, Nat.le_refl _⟩ (⟨rfl, rfl⟩)
    · skip
      refine z_iconst S d_M_less_31 ?_
      refine z_goto (tgt := 36) S d_M_less_32 (by decide) ?_
      refine z_iconst S d_M_less_36 ?_
      refine z_callVa (As := [.int (zI 0), .int (zI 1), .int (zI 1)]) (st := []) (wc := [oM mo th mw (nv : Int) mg ma mb (ns : Int) mlo mhi (nw : Int) mwe mru mrd]) (wr := []) S hGok hK hg hA (s_M_goes l dC dI cI cL qT mo mw nv ma mb ns mlo mhi nw mwe mru mrd th mg 0 1 1 (by omega) (by omega) (by omega)) (zcwV S (List.mem_cons_of_mem _ k_M_118) mV_M_goes k_M_118 hd_M_goes rfl rfl ⟨Nat.le_of_ble_eq_true rfl, Nat.le_of_ble_eq_true rfl⟩) rfl (Nat.le_of_ble_eq_true rfl) d_M_less_37 ⟨Nat.le_of_ble_eq_true rfl, Nat.le_of_ble_eq_true rfl⟩ rfl [0] [] 0 rfl rfl rfl (by decide) rfl rfl rfl (by decide) (by decide) (fun x w hp => ?_)
      obtain ⟨rfl, rfl⟩ := hp
      show ZZ _ _ _ _ _ _ _ _ _ _ _ _ _ _ _ _ _ _ 40 [(0, .ref mo), (1, .int (zI u)), (2, .int (zI v))] [.int (zI (b2 (gth 0 1 1 = 0)))] [oM mo (gth 0 1 1) mw (nv : Int) mg ma mb (ns : Int) mlo mhi (nw : Int) mwe mru mrd]
      refine z_toi (a := 0) rfl ?_
      refine z_wq (ws' := [oM mo 1 mw (nv : Int) mg ma mb (ns : Int) mlo mhi (nw : Int) mwe mru mrd]) rfl ?_
      refine z_if_ne (tgt := 45) S d_M_less_40 (by decide) (by omega) (fun c4 => ?_) (fun c4 => ?_)
      · skip
        exact absurd c4 (by omega)
      · skip
        refine z_iconst S d_M_less_43 ?_
        exact z_iret (w := [oM mo 1 mw (nv : Int) mg ma mb (ns : Int) mlo mhi (nw : Int) mwe mru mrd]) S hr hlo hAe d_M_less_44 [0] (by decide) rfl rfl ⟨Nat.le_refl _, Nat.le_refl _⟩ (⟨rfl, rfl⟩)
  · skip
    have hq6 := b2_p c1
    refine z_aload_n S d_M_less_9 0 rfl ?_
    refine z_iload_n S d_M_less_10 2 rfl ?_
    refine z_callVa (As := [.int (zI v)]) (st := [.ref mo]) (wc := [oM mo th mw (nv : Int) mg ma mb (ns : Int) mlo mhi (nw : Int) mwe mru mrd]) (wr := []) S hGok hK hg hA (s_M_isValue l dC dI cI cL qT mo mw nv ma mb ns mlo mhi nw mwe mru mrd th mg v (by omega) (by omega)) (zcwV S (List.mem_cons_of_mem _ k_M_125) mV_M_isValue k_M_125 hd_M_isValue rfl rfl ⟨Nat.le_of_ble_eq_true rfl, Nat.le_of_ble_eq_true rfl⟩) rfl (Nat.le_of_ble_eq_true rfl) d_M_less_11 ⟨Nat.le_of_ble_eq_true rfl, Nat.le_of_ble_eq_true rfl⟩ rfl [0] [] 0 rfl rfl rfl (by decide) rfl rfl rfl (by decide) (by decide) (fun x w hp => ?_)
    obtain ⟨rfl, rfl⟩ := hp
    show ZZ _ _ _ _ _ _ _ _ _ _ _ _ _ _ _ _ _ _ 14 [(0, .ref mo), (1, .int (zI u)), (2, .int (zI v))] [.int (zI (b2 (0 ≤ v ∧ v < (nv : Int)))), .ref mo] [oM mo th mw (nv : Int) mg ma mb (ns : Int) mlo mhi (nw : Int) mwe mru mrd]
    have hb2 := b2_r (0 ≤ v ∧ v < (nv : Int))
    refine z_if_eq (tgt := 21) S d_M_less_14 (by decide) (by omega) (fun c5 => ?_) (fun c5 => ?_)
    · skip
      refine z_iconst S d_M_less_21 ?_
      refine z_aload_n S d_M_less_22 0 rfl ?_
      refine z_get S hK la_M 0 rfl rfl 2 (by decide) k_M_42 rfl d_M_less_23 ?_
      refine z_bipush S d_M_less_26 rfl ?_
      refine z_icmp_ge (tgt := 35) S d_M_less_28 (by decide) (by omega) (by omega) (fun c6 => ?_) (fun c6 => ?_)
      · skip
        refine z_iconst S d_M_less_35 ?_
        refine z_iconst S d_M_less_36 ?_
        refine z_callVa (As := [.int (zI 0), .int (zI 0), .int (zI 1)]) (st := []) (wc := [oM mo th mw (nv : Int) mg ma mb (ns : Int) mlo mhi (nw : Int) mwe mru mrd]) (wr := []) S hGok hK hg hA (s_M_goes l dC dI cI cL qT mo mw nv ma mb ns mlo mhi nw mwe mru mrd th mg 0 0 1 (by omega) (by omega) (by omega)) (zcwV S (List.mem_cons_of_mem _ k_M_118) mV_M_goes k_M_118 hd_M_goes rfl rfl ⟨Nat.le_of_ble_eq_true rfl, Nat.le_of_ble_eq_true rfl⟩) rfl (Nat.le_of_ble_eq_true rfl) d_M_less_37 ⟨Nat.le_of_ble_eq_true rfl, Nat.le_of_ble_eq_true rfl⟩ rfl [0] [] 0 rfl rfl rfl (by decide) rfl rfl rfl (by decide) (by decide) (fun x w hp => ?_)
        obtain ⟨rfl, rfl⟩ := hp
        show ZZ _ _ _ _ _ _ _ _ _ _ _ _ _ _ _ _ _ _ 40 [(0, .ref mo), (1, .int (zI u)), (2, .int (zI v))] [.int (zI (b2 (gth 0 0 1 = 0)))] [oM mo (gth 0 0 1) mw (nv : Int) mg ma mb (ns : Int) mlo mhi (nw : Int) mwe mru mrd]
        refine z_toi (a := 0) rfl ?_
        refine z_wq (ws' := [oM mo 1 mw (nv : Int) mg ma mb (ns : Int) mlo mhi (nw : Int) mwe mru mrd]) rfl ?_
        refine z_if_ne (tgt := 45) S d_M_less_40 (by decide) (by omega) (fun c7 => ?_) (fun c7 => ?_)
        · skip
          exact absurd c7 (by omega)
        · skip
          refine z_iconst S d_M_less_43 ?_
          exact z_iret (w := [oM mo 1 mw (nv : Int) mg ma mb (ns : Int) mlo mhi (nw : Int) mwe mru mrd]) S hr hlo hAe d_M_less_44 [0] (by decide) rfl rfl ⟨Nat.le_refl _, Nat.le_refl _⟩ (⟨rfl, rfl⟩)
      · skip
        refine z_iconst S d_M_less_31 ?_
        refine z_goto (tgt := 36) S d_M_less_32 (by decide) ?_
        refine z_iconst S d_M_less_36 ?_
        refine z_callVa (As := [.int (zI 0), .int (zI 1), .int (zI 1)]) (st := []) (wc := [oM mo th mw (nv : Int) mg ma mb (ns : Int) mlo mhi (nw : Int) mwe mru mrd]) (wr := []) S hGok hK hg hA (s_M_goes l dC dI cI cL qT mo mw nv ma mb ns mlo mhi nw mwe mru mrd th mg 0 1 1 (by omega) (by omega) (by omega)) (zcwV S (List.mem_cons_of_mem _ k_M_118) mV_M_goes k_M_118 hd_M_goes rfl rfl ⟨Nat.le_of_ble_eq_true rfl, Nat.le_of_ble_eq_true rfl⟩) rfl (Nat.le_of_ble_eq_true rfl) d_M_less_37 ⟨Nat.le_of_ble_eq_true rfl, Nat.le_of_ble_eq_true rfl⟩ rfl [0] [] 0 rfl rfl rfl (by decide) rfl rfl rfl (by decide) (by decide) (fun x w hp => ?_)
        obtain ⟨rfl, rfl⟩ := hp
        show ZZ _ _ _ _ _ _ _ _ _ _ _ _ _ _ _ _ _ _ 40 [(0, .ref mo), (1, .int (zI u)), (2, .int (zI v))] [.int (zI (b2 (gth 0 1 1 = 0)))] [oM mo (gth 0 1 1) mw (nv : Int) mg ma mb (ns : Int) mlo mhi (nw : Int) mwe mru mrd]
        refine z_toi (a := 0) rfl ?_
        refine z_wq (ws' := [oM mo 1 mw (nv : Int) mg ma mb (ns : Int) mlo mhi (nw : Int) mwe mru mrd]) rfl ?_
        refine z_if_ne (tgt := 45) S d_M_less_40 (by decide) (by omega) (fun c8 => ?_) (fun c8 => ?_)
        · skip
          exact absurd c8 (by omega)
        · skip
          refine z_iconst S d_M_less_43 ?_
          exact z_iret (w := [oM mo 1 mw (nv : Int) mg ma mb (ns : Int) mlo mhi (nw : Int) mwe mru mrd]) S hr hlo hAe d_M_less_44 [0] (by decide) rfl rfl ⟨Nat.le_refl _, Nat.le_refl _⟩ (⟨rfl, rfl⟩)
    · skip
      exact absurd c5 (fun z => hu ⟨hq6, b2_p z⟩)
set_option maxHeartbeats 4000000 in
set_option maxRecDepth 100000 in
theorem f1_M_times (l : Launch) (dC : Nat → ClassId) (dI : Nat → Nat → Nat) (cI cL : ClassId) (qT : Nat) (mo : Nat) (mw : Nat) (nv : Nat) (ma : Nat) (mb : Nat) (ns : Nat) (mlo : Nat) (mhi : Nat) (nw : Nat) (mwe : Nat) (mru : Nat) (mrd : Nat) (th : Int) (mg : Nat) (u : Int) (v : Int) (hnv : nv ≤ 100) (hur : -2147483648 ≤ u ∧ u < 2147483648) (hvr : -2147483648 ≤ v ∧ v < 2147483648) (hu : ¬ ((0 ≤ u ∧ u < (nv : Int)) ∧ (0 ≤ v ∧ v < (nv : Int)))) : Ct l y_M_times (Cond.code y_M_times c_M_times 3 (some .int) :: zB) { frames := 5, cells := 0, slots := 0, locals := 128 } (dC, dI) zcl [(cI, .int), (cL, .long)] (zG cI cL qT) [.ref mo, .int (zI u), .int (zI v)] [oM mo th mw (nv : Int) mg ma mb (ns : Int) mlo mhi (nw : Int) mwe mru mrd] (fun rv wv => rv = .int (zI 0) ∧ wv = [oM mo 1 mw (nv : Int) mg ma mb (ns : Int) mlo mhi (nw : Int) mwe mru mrd]) 0 0 := by
  refine Cm.ofZ (cc := c_M_times) (maxL := 3) (ret := (some .int)) (by decide) rfl (Nat.le_of_ble_eq_true rfl) rfl ?_
  intro p e s m below meth c A S hr hlo hnm hK hg hA hAe
  have hGok := zG_ok cI cL qT
  show ZZ _ _ _ _ _ _ _ _ _ _ _ _ _ _ _ _ _ _ 0 [(0, .ref mo), (1, .int (zI u)), (2, .int (zI v))] [] [oM mo th mw (nv : Int) mg ma mb (ns : Int) mlo mhi (nw : Int) mwe mru mrd]
  refine z_aload_n S d_M_times_0 0 rfl ?_
  refine z_aload_n S d_M_times_1 0 rfl ?_
  refine z_iload_n S d_M_times_2 1 rfl ?_
  refine z_callVa (As := [.int (zI u)]) (st := [.ref mo]) (wc := [oM mo th mw (nv : Int) mg ma mb (ns : Int) mlo mhi (nw : Int) mwe mru mrd]) (wr := []) S hGok hK hg hA (s_M_isValue l dC dI cI cL qT mo mw nv ma mb ns mlo mhi nw mwe mru mrd th mg u (by omega) (by omega)) (zcwV S (List.mem_cons_of_mem _ k_M_125) mV_M_isValue k_M_125 hd_M_isValue rfl rfl ⟨Nat.le_of_ble_eq_true rfl, Nat.le_of_ble_eq_true rfl⟩) rfl (Nat.le_of_ble_eq_true rfl) d_M_times_3 ⟨Nat.le_of_ble_eq_true rfl, Nat.le_of_ble_eq_true rfl⟩ rfl [0] [] 0 rfl rfl rfl (by decide) rfl rfl rfl (by decide) (by decide) (fun x w hp => ?_)
  obtain ⟨rfl, rfl⟩ := hp
  show ZZ _ _ _ _ _ _ _ _ _ _ _ _ _ _ _ _ _ _ 6 [(0, .ref mo), (1, .int (zI u)), (2, .int (zI v))] [.int (zI (b2 (0 ≤ u ∧ u < (nv : Int)))), .ref mo] [oM mo th mw (nv : Int) mg ma mb (ns : Int) mlo mhi (nw : Int) mwe mru mrd]
  have hb1 := b2_r (0 ≤ u ∧ u < (nv : Int))
  refine z_if_eq (tgt := 21) S d_M_times_6 (by decide) (by omega) (fun c1 => ?_) (fun c1 => ?_)
  · skip
    refine z_iconst S d_M_times_21 ?_
    refine z_aload_n S d_M_times_22 0 rfl ?_
    refine z_get S hK la_M 0 rfl rfl 2 (by decide) k_M_42 rfl d_M_times_23 ?_
    refine z_bipush S d_M_times_26 rfl ?_
    refine z_icmp_ge (tgt := 35) S d_M_times_28 (by decide) (by omega) (by omega) (fun c2 => ?_) (fun c2 => ?_)
    · skip
      refine z_iconst S d_M_times_35 ?_
      refine z_iconst S d_M_times_36 ?_
      refine z_callVa (As := [.int (zI 0), .int (zI 0), .int (zI 1)]) (st := []) (wc := [oM mo th mw (nv : Int) mg ma mb (ns : Int) mlo mhi (nw : Int) mwe mru mrd]) (wr := []) S hGok hK hg hA (s_M_goes l dC dI cI cL qT mo mw nv ma mb ns mlo mhi nw mwe mru mrd th mg 0 0 1 (by omega) (by omega) (by omega)) (zcwV S (List.mem_cons_of_mem _ k_M_118) mV_M_goes k_M_118 hd_M_goes rfl rfl ⟨Nat.le_of_ble_eq_true rfl, Nat.le_of_ble_eq_true rfl⟩) rfl (Nat.le_of_ble_eq_true rfl) d_M_times_37 ⟨Nat.le_of_ble_eq_true rfl, Nat.le_of_ble_eq_true rfl⟩ rfl [0] [] 0 rfl rfl rfl (by decide) rfl rfl rfl (by decide) (by decide) (fun x w hp => ?_)
      obtain ⟨rfl, rfl⟩ := hp
      show ZZ _ _ _ _ _ _ _ _ _ _ _ _ _ _ _ _ _ _ 40 [(0, .ref mo), (1, .int (zI u)), (2, .int (zI v))] [.int (zI (b2 (gth 0 0 1 = 0)))] [oM mo (gth 0 0 1) mw (nv : Int) mg ma mb (ns : Int) mlo mhi (nw : Int) mwe mru mrd]
      refine z_toi (a := 0) rfl ?_
      refine z_wq (ws' := [oM mo 1 mw (nv : Int) mg ma mb (ns : Int) mlo mhi (nw : Int) mwe mru mrd]) rfl ?_
      refine z_if_ne (tgt := 45) S d_M_times_40 (by decide) (by omega) (fun c3 => ?_) (fun c3 => ?_)
      · skip
        exact absurd c3 (by omega)
      · skip
        refine z_iconst S d_M_times_43 ?_
        exact z_iret (w := [oM mo 1 mw (nv : Int) mg ma mb (ns : Int) mlo mhi (nw : Int) mwe mru mrd]) S hr hlo hAe d_M_times_44 [0] (by decide) rfl rfl ⟨Nat.le_refl _, Nat.le_refl _⟩ (⟨rfl, rfl⟩)
    · skip
      refine z_iconst S d_M_times_31 ?_
      refine z_goto (tgt := 36) S d_M_times_32 (by decide) ?_
      refine z_iconst S d_M_times_36 ?_
      refine z_callVa (As := [.int (zI 0), .int (zI 1), .int (zI 1)]) (st := []) (wc := [oM mo th mw (nv : Int) mg ma mb (ns : Int) mlo mhi (nw : Int) mwe mru mrd]) (wr := []) S hGok hK hg hA (s_M_goes l dC dI cI cL qT mo mw nv ma mb ns mlo mhi nw mwe mru mrd th mg 0 1 1 (by omega) (by omega) (by omega)) (zcwV S (List.mem_cons_of_mem _ k_M_118) mV_M_goes k_M_118 hd_M_goes rfl rfl ⟨Nat.le_of_ble_eq_true rfl, Nat.le_of_ble_eq_true rfl⟩) rfl (Nat.le_of_ble_eq_true rfl) d_M_times_37 ⟨Nat.le_of_ble_eq_true rfl, Nat.le_of_ble_eq_true rfl⟩ rfl [0] [] 0 rfl rfl rfl (by decide) rfl rfl rfl (by decide) (by decide) (fun x w hp => ?_)
      obtain ⟨rfl, rfl⟩ := hp
      show ZZ _ _ _ _ _ _ _ _ _ _ _ _ _ _ _ _ _ _ 40 [(0, .ref mo), (1, .int (zI u)), (2, .int (zI v))] [.int (zI (b2 (gth 0 1 1 = 0)))] [oM mo (gth 0 1 1) mw (nv : Int) mg ma mb (ns : Int) mlo mhi (nw : Int) mwe mru mrd]
      refine z_toi (a := 0) rfl ?_
      refine z_wq (ws' := [oM mo 1 mw (nv : Int) mg ma mb (ns : Int) mlo mhi (nw : Int) mwe mru mrd]) rfl ?_
      refine z_if_ne (tgt := 45) S d_M_times_40 (by decide) (by omega) (fun c4 => ?_) (fun c4 => ?_)
      · skip
        exact absurd c4 (by omega)
      · skip
        refine z_iconst S d_M_times_43 ?_
        exact z_iret (w := [oM mo 1 mw (nv : Int) mg ma mb (ns : Int) mlo mhi (nw : Int) mwe mru mrd]) S hr hlo hAe d_M_times_44 [0] (by decide) rfl rfl ⟨Nat.le_refl _, Nat.le_refl _⟩ (⟨rfl, rfl⟩)
  · skip
    have hq6 := b2_p c1
    refine z_aload_n S d_M_times_9 0 rfl ?_
    refine z_iload_n S d_M_times_10 2 rfl ?_
    refine z_callVa (As := [.int (zI v)]) (st := [.ref mo]) (wc := [oM mo th mw (nv : Int) mg ma mb (ns : Int) mlo mhi (nw : Int) mwe mru mrd]) (wr := []) S hGok hK hg hA (s_M_isValue l dC dI cI cL qT mo mw nv ma mb ns mlo mhi nw mwe mru mrd th mg v (by omega) (by omega)) (zcwV S (List.mem_cons_of_mem _ k_M_125) mV_M_isValue k_M_125 hd_M_isValue rfl rfl ⟨Nat.le_of_ble_eq_true rfl, Nat.le_of_ble_eq_true rfl⟩) rfl (Nat.le_of_ble_eq_true rfl) d_M_times_11 ⟨Nat.le_of_ble_eq_true rfl, Nat.le_of_ble_eq_true rfl⟩ rfl [0] [] 0 rfl rfl rfl (by decide) rfl rfl rfl (by decide) (by decide) (fun x w hp => ?_)
    obtain ⟨rfl, rfl⟩ := hp
    show ZZ _ _ _ _ _ _ _ _ _ _ _ _ _ _ _ _ _ _ 14 [(0, .ref mo), (1, .int (zI u)), (2, .int (zI v))] [.int (zI (b2 (0 ≤ v ∧ v < (nv : Int)))), .ref mo] [oM mo th mw (nv : Int) mg ma mb (ns : Int) mlo mhi (nw : Int) mwe mru mrd]
    have hb2 := b2_r (0 ≤ v ∧ v < (nv : Int))
    refine z_if_eq (tgt := 21) S d_M_times_14 (by decide) (by omega) (fun c5 => ?_) (fun c5 => ?_)
    · skip
      refine z_iconst S d_M_times_21 ?_
      refine z_aload_n S d_M_times_22 0 rfl ?_
      refine z_get S hK la_M 0 rfl rfl 2 (by decide) k_M_42 rfl d_M_times_23 ?_
      refine z_bipush S d_M_times_26 rfl ?_
      refine z_icmp_ge (tgt := 35) S d_M_times_28 (by decide) (by omega) (by omega) (fun c6 => ?_) (fun c6 => ?_)
      · skip
        refine z_iconst S d_M_times_35 ?_
        refine z_iconst S d_M_times_36 ?_
        refine z_callVa (As := [.int (zI 0), .int (zI 0), .int (zI 1)]) (st := []) (wc := [oM mo th mw (nv : Int) mg ma mb (ns : Int) mlo mhi (nw : Int) mwe mru mrd]) (wr := []) S hGok hK hg hA (s_M_goes l dC dI cI cL qT mo mw nv ma mb ns mlo mhi nw mwe mru mrd th mg 0 0 1 (by omega) (by omega) (by omega)) (zcwV S (List.mem_cons_of_mem _ k_M_118) mV_M_goes k_M_118 hd_M_goes rfl rfl ⟨Nat.le_of_ble_eq_true rfl, Nat.le_of_ble_eq_true rfl⟩) rfl (Nat.le_of_ble_eq_true rfl) d_M_times_37 ⟨Nat.le_of_ble_eq_true rfl, Nat.le_of_ble_eq_true rfl⟩ rfl [0] [] 0 rfl rfl rfl (by decide) rfl rfl rfl (by decide) (by decide) (fun x w hp => ?_)
        obtain ⟨rfl, rfl⟩ := hp
        show ZZ _ _ _ _ _ _ _ _ _ _ _ _ _ _ _ _ _ _ 40 [(0, .ref mo), (1, .int (zI u)), (2, .int (zI v))] [.int (zI (b2 (gth 0 0 1 = 0)))] [oM mo (gth 0 0 1) mw (nv : Int) mg ma mb (ns : Int) mlo mhi (nw : Int) mwe mru mrd]
        refine z_toi (a := 0) rfl ?_
        refine z_wq (ws' := [oM mo 1 mw (nv : Int) mg ma mb (ns : Int) mlo mhi (nw : Int) mwe mru mrd]) rfl ?_
        refine z_if_ne (tgt := 45) S d_M_times_40 (by decide) (by omega) (fun c7 => ?_) (fun c7 => ?_)
        · skip
          exact absurd c7 (by omega)
        · skip
          refine z_iconst S d_M_times_43 ?_
          exact z_iret (w := [oM mo 1 mw (nv : Int) mg ma mb (ns : Int) mlo mhi (nw : Int) mwe mru mrd]) S hr hlo hAe d_M_times_44 [0] (by decide) rfl rfl ⟨Nat.le_refl _, Nat.le_refl _⟩ (⟨rfl, rfl⟩)
      · skip
        refine z_iconst S d_M_times_31 ?_
        refine z_goto (tgt := 36) S d_M_times_32 (by decide) ?_
        refine z_iconst S d_M_times_36 ?_
        refine z_callVa (As := [.int (zI 0), .int (zI 1), .int (zI 1)]) (st := []) (wc := [oM mo th mw (nv : Int) mg ma mb (ns : Int) mlo mhi (nw : Int) mwe mru mrd]) (wr := []) S hGok hK hg hA (s_M_goes l dC dI cI cL qT mo mw nv ma mb ns mlo mhi nw mwe mru mrd th mg 0 1 1 (by omega) (by omega) (by omega)) (zcwV S (List.mem_cons_of_mem _ k_M_118) mV_M_goes k_M_118 hd_M_goes rfl rfl ⟨Nat.le_of_ble_eq_true rfl, Nat.le_of_ble_eq_true rfl⟩) rfl (Nat.le_of_ble_eq_true rfl) d_M_times_37 ⟨Nat.le_of_ble_eq_true rfl, Nat.le_of_ble_eq_true rfl⟩ rfl [0] [] 0 rfl rfl rfl (by decide) rfl rfl rfl (by decide) (by decide) (fun x w hp => ?_)
        obtain ⟨rfl, rfl⟩ := hp
        show ZZ _ _ _ _ _ _ _ _ _ _ _ _ _ _ _ _ _ _ 40 [(0, .ref mo), (1, .int (zI u)), (2, .int (zI v))] [.int (zI (b2 (gth 0 1 1 = 0)))] [oM mo (gth 0 1 1) mw (nv : Int) mg ma mb (ns : Int) mlo mhi (nw : Int) mwe mru mrd]
        refine z_toi (a := 0) rfl ?_
        refine z_wq (ws' := [oM mo 1 mw (nv : Int) mg ma mb (ns : Int) mlo mhi (nw : Int) mwe mru mrd]) rfl ?_
        refine z_if_ne (tgt := 45) S d_M_times_40 (by decide) (by omega) (fun c8 => ?_) (fun c8 => ?_)
        · skip
          exact absurd c8 (by omega)
        · skip
          refine z_iconst S d_M_times_43 ?_
          exact z_iret (w := [oM mo 1 mw (nv : Int) mg ma mb (ns : Int) mlo mhi (nw : Int) mwe mru mrd]) S hr hlo hAe d_M_times_44 [0] (by decide) rfl rfl ⟨Nat.le_refl _, Nat.le_refl _⟩ (⟨rfl, rfl⟩)
    · skip
      exact absurd c5 (fun z => hu ⟨hq6, b2_p z⟩)
set_option maxHeartbeats 4000000 in
set_option maxRecDepth 100000 in
theorem f1_M_order (l : Launch) (dC : Nat → ClassId) (dI : Nat → Nat → Nat) (cI cL : ClassId) (qT : Nat) (mo : Nat) (mw : Nat) (nv : Nat) (ma : Nat) (mb : Nat) (ns : Nat) (mlo : Nat) (mhi : Nat) (nw : Nat) (mwe : Nat) (mru : Nat) (mrd : Nat) (th : Int) (mg : Nat) (u : Int) (v : Int) (hnv : nv ≤ 100) (hur : -2147483648 ≤ u ∧ u < 2147483648) (hvr : -2147483648 ≤ v ∧ v < 2147483648) (hu : ¬ ((0 ≤ u ∧ u < (nv : Int)) ∧ (0 ≤ v ∧ v < (nv : Int)))) : Ct l y_M_order (Cond.code y_M_order c_M_order 3 (some .int) :: zB) { frames := 4, cells := 0, slots := 0, locals := 101 } (dC, dI) zcl [(cI, .int), (cL, .long)] (zG cI cL qT) [.ref mo, .int (zI u), .int (zI v)] [oM mo th mw (nv : Int) mg ma mb (ns : Int) mlo mhi (nw : Int) mwe mru mrd] (fun rv wv => rv = .int (zI 0) ∧ wv = [oM mo 1 mw (nv : Int) mg ma mb (ns : Int) mlo mhi (nw : Int) mwe mru mrd]) 0 0 := by
  refine Cm.ofZ (cc := c_M_order) (maxL := 3) (ret := (some .int)) (by decide) rfl (Nat.le_of_ble_eq_true rfl) rfl ?_
  intro p e s m below meth c A S hr hlo hnm hK hg hA hAe
  have hGok := zG_ok cI cL qT
  show ZZ _ _ _ _ _ _ _ _ _ _ _ _ _ _ _ _ _ _ 0 [(0, .ref mo), (1, .int (zI u)), (2, .int (zI v))] [] [oM mo th mw (nv : Int) mg ma mb (ns : Int) mlo mhi (nw : Int) mwe mru mrd]
  refine z_aload_n S d_M_order_0 0 rfl ?_
  refine z_aload_n S d_M_order_1 0 rfl ?_
  refine z_iload_n S d_M_order_2 1 rfl ?_
  refine z_callVa (As := [.int (zI u)]) (st := [.ref mo]) (wc := [oM mo th mw (nv : Int) mg ma mb (ns : Int) mlo mhi (nw : Int) mwe mru mrd]) (wr := []) S hGok hK hg hA (s_M_isValue l dC dI cI cL qT mo mw nv ma mb ns mlo mhi nw mwe mru mrd th mg u (by omega) (by omega)) (zcwV S (List.mem_cons_of_mem _ k_M_125) mV_M_isValue k_M_125 hd_M_isValue rfl rfl ⟨Nat.le_of_ble_eq_true rfl, Nat.le_of_ble_eq_true rfl⟩) rfl (Nat.le_of_ble_eq_true rfl) d_M_order_3 ⟨Nat.le_of_ble_eq_true rfl, Nat.le_of_ble_eq_true rfl⟩ rfl [0] [] 0 rfl rfl rfl (by decide) rfl rfl rfl (by decide) (by decide) (fun x w hp => ?_)
  obtain ⟨rfl, rfl⟩ := hp
  show ZZ _ _ _ _ _ _ _ _ _ _ _ _ _ _ _ _ _ _ 6 [(0, .ref mo), (1, .int (zI u)), (2, .int (zI v))] [.int (zI (b2 (0 ≤ u ∧ u < (nv : Int)))), .ref mo] [oM mo th mw (nv : Int) mg ma mb (ns : Int) mlo mhi (nw : Int) mwe mru mrd]
  have hb1 := b2_r (0 ≤ u ∧ u < (nv : Int))
  refine z_if_eq (tgt := 21) S d_M_order_6 (by decide) (by omega) (fun c1 => ?_) (fun c1 => ?_)
  · skip
    refine z_iconst S d_M_order_21 ?_
    refine z_iconst S d_M_order_22 ?_
    refine z_iconst S d_M_order_23 ?_
    refine z_callVa (As := [.int (zI 0), .int (zI 1), .int (zI 1)]) (st := []) (wc := [oM mo th mw (nv : Int) mg ma mb (ns : Int) mlo mhi (nw : Int) mwe mru mrd]) (wr := []) S hGok hK hg hA (s_M_goes l dC dI cI cL qT mo mw nv ma mb ns mlo mhi nw mwe mru mrd th mg 0 1 1 (by omega) (by omega) (by omega)) (zcwV S (List.mem_cons_of_mem _ k_M_118) mV_M_goes k_M_118 hd_M_goes rfl rfl ⟨Nat.le_of_ble_eq_true rfl, Nat.le_of_ble_eq_true rfl⟩) rfl (Nat.le_of_ble_eq_true rfl) d_M_order_24 ⟨Nat.le_of_ble_eq_true rfl, Nat.le_of_ble_eq_true rfl⟩ rfl [0] [] 0 rfl rfl rfl (by decide) rfl rfl rfl (by decide) (by decide) (fun x w hp => ?_)
    obtain ⟨rfl, rfl⟩ := hp
    show ZZ _ _ _ _ _ _ _ _ _ _ _ _ _ _ _ _ _ _ 27 [(0, .ref mo), (1, .int (zI u)), (2, .int (zI v))] [.int (zI (b2 (gth 0 1 1 = 0)))] [oM mo (gth 0 1 1) mw (nv : Int) mg ma mb (ns : Int) mlo mhi (nw : Int) mwe mru mrd]
    refine z_toi (a := 0) rfl ?_
    refine z_wq (ws' := [oM mo 1 mw (nv : Int) mg ma mb (ns : Int) mlo mhi (nw : Int) mwe mru mrd]) rfl ?_
    refine z_if_ne (tgt := 32) S d_M_order_27 (by decide) (by omega) (fun c2 => ?_) (fun c2 => ?_)
    · skip
      exact absurd c2 (by omega)
    · skip
      refine z_iconst S d_M_order_30 ?_
      exact z_iret (w := [oM mo 1 mw (nv : Int) mg ma mb (ns : Int) mlo mhi (nw : Int) mwe mru mrd]) S hr hlo hAe d_M_order_31 [0] (by decide) rfl rfl ⟨Nat.le_refl _, Nat.le_refl _⟩ (⟨rfl, rfl⟩)
  · skip
    have hq6 := b2_p c1
    refine z_aload_n S d_M_order_9 0 rfl ?_
    refine z_iload_n S d_M_order_10 2 rfl ?_
    refine z_callVa (As := [.int (zI v)]) (st := [.ref mo]) (wc := [oM mo th mw (nv : Int) mg ma mb (ns : Int) mlo mhi (nw : Int) mwe mru mrd]) (wr := []) S hGok hK hg hA (s_M_isValue l dC dI cI cL qT mo mw nv ma mb ns mlo mhi nw mwe mru mrd th mg v (by omega) (by omega)) (zcwV S (List.mem_cons_of_mem _ k_M_125) mV_M_isValue k_M_125 hd_M_isValue rfl rfl ⟨Nat.le_of_ble_eq_true rfl, Nat.le_of_ble_eq_true rfl⟩) rfl (Nat.le_of_ble_eq_true rfl) d_M_order_11 ⟨Nat.le_of_ble_eq_true rfl, Nat.le_of_ble_eq_true rfl⟩ rfl [0] [] 0 rfl rfl rfl (by decide) rfl rfl rfl (by decide) (by decide) (fun x w hp => ?_)
    obtain ⟨rfl, rfl⟩ := hp
    show ZZ _ _ _ _ _ _ _ _ _ _ _ _ _ _ _ _ _ _ 14 [(0, .ref mo), (1, .int (zI u)), (2, .int (zI v))] [.int (zI (b2 (0 ≤ v ∧ v < (nv : Int)))), .ref mo] [oM mo th mw (nv : Int) mg ma mb (ns : Int) mlo mhi (nw : Int) mwe mru mrd]
    have hb2 := b2_r (0 ≤ v ∧ v < (nv : Int))
    refine z_if_eq (tgt := 21) S d_M_order_14 (by decide) (by omega) (fun c3 => ?_) (fun c3 => ?_)
    · skip
      refine z_iconst S d_M_order_21 ?_
      refine z_iconst S d_M_order_22 ?_
      refine z_iconst S d_M_order_23 ?_
      refine z_callVa (As := [.int (zI 0), .int (zI 1), .int (zI 1)]) (st := []) (wc := [oM mo th mw (nv : Int) mg ma mb (ns : Int) mlo mhi (nw : Int) mwe mru mrd]) (wr := []) S hGok hK hg hA (s_M_goes l dC dI cI cL qT mo mw nv ma mb ns mlo mhi nw mwe mru mrd th mg 0 1 1 (by omega) (by omega) (by omega)) (zcwV S (List.mem_cons_of_mem _ k_M_118) mV_M_goes k_M_118 hd_M_goes rfl rfl ⟨Nat.le_of_ble_eq_true rfl, Nat.le_of_ble_eq_true rfl⟩) rfl (Nat.le_of_ble_eq_true rfl) d_M_order_24 ⟨Nat.le_of_ble_eq_true rfl, Nat.le_of_ble_eq_true rfl⟩ rfl [0] [] 0 rfl rfl rfl (by decide) rfl rfl rfl (by decide) (by decide) (fun x w hp => ?_)
      obtain ⟨rfl, rfl⟩ := hp
      show ZZ _ _ _ _ _ _ _ _ _ _ _ _ _ _ _ _ _ _ 27 [(0, .ref mo), (1, .int (zI u)), (2, .int (zI v))] [.int (zI (b2 (gth 0 1 1 = 0)))] [oM mo (gth 0 1 1) mw (nv : Int) mg ma mb (ns : Int) mlo mhi (nw : Int) mwe mru mrd]
      refine z_toi (a := 0) rfl ?_
      refine z_wq (ws' := [oM mo 1 mw (nv : Int) mg ma mb (ns : Int) mlo mhi (nw : Int) mwe mru mrd]) rfl ?_
      refine z_if_ne (tgt := 32) S d_M_order_27 (by decide) (by omega) (fun c4 => ?_) (fun c4 => ?_)
      · skip
        exact absurd c4 (by omega)
      · skip
        refine z_iconst S d_M_order_30 ?_
        exact z_iret (w := [oM mo 1 mw (nv : Int) mg ma mb (ns : Int) mlo mhi (nw : Int) mwe mru mrd]) S hr hlo hAe d_M_order_31 [0] (by decide) rfl rfl ⟨Nat.le_refl _, Nat.le_refl _⟩ (⟨rfl, rfl⟩)
    · skip
      exact absurd c3 (fun z => hu ⟨hq6, b2_p z⟩)
set_option maxHeartbeats 4000000 in
set_option maxRecDepth 100000 in
theorem f1_M_over (l : Launch) (dC : Nat → ClassId) (dI : Nat → Nat → Nat) (cI cL : ClassId) (qT : Nat) (mo : Nat) (mw : Nat) (nv : Nat) (ma : Nat) (mb : Nat) (ns : Nat) (mlo : Nat) (mhi : Nat) (nw : Nat) (mwe : Nat) (mru : Nat) (mrd : Nat) (th : Int) (mg : Nat) (sg : Nat → Int) (u : Int) (v : Int) (hnv : nv ≤ 100) (hur : -2147483648 ≤ u ∧ u < 2147483648) (hvr : -2147483648 ≤ v ∧ v < 2147483648) (hu : ¬ ((0 ≤ u ∧ u < (nv : Int)) ∧ (0 ≤ v ∧ v < (nv : Int)))) : Ct l y_M_over (Cond.code y_M_over c_M_over 4 (some .int) :: zB) { frames := 5, cells := 0, slots := 0, locals := 128 } (dC, dI) zcl [(cI, .int), (cL, .long)] (zG cI cL qT) [.ref mo, .int (zI u), .int (zI v)] [oM mo th mw (nv : Int) mg ma mb (ns : Int) mlo mhi (nw : Int) mwe mru mrd, aI cI mg 100 (sgA sg)] (fun rv wv => rv = .int (zI 0) ∧ wv = [oM mo 1 mw (nv : Int) mg ma mb (ns : Int) mlo mhi (nw : Int) mwe mru mrd, aI cI mg 100 (sgA sg)]) 0 0 := by
  refine Cm.ofZ (cc := c_M_over) (maxL := 4) (ret := (some .int)) (by decide) rfl (Nat.le_of_ble_eq_true rfl) rfl ?_
  intro p e s m below meth c A S hr hlo hnm hK hg hA hAe
  have hGok := zG_ok cI cL qT
  show ZZ _ _ _ _ _ _ _ _ _ _ _ _ _ _ _ _ _ _ 0 [(0, .ref mo), (1, .int (zI u)), (2, .int (zI v))] [] [oM mo th mw (nv : Int) mg ma mb (ns : Int) mlo mhi (nw : Int) mwe mru mrd, aI cI mg 100 (sgA sg)]
  refine z_aload_n S d_M_over_0 0 rfl ?_
  refine z_iload_n S d_M_over_1 1 rfl ?_
  refine z_callVa (As := [.int (zI u)]) (st := []) (wc := [oM mo th mw (nv : Int) mg ma mb (ns : Int) mlo mhi (nw : Int) mwe mru mrd]) (wr := [aI cI mg 100 (sgA sg)]) S hGok hK hg hA (s_M_isValue l dC dI cI cL qT mo mw nv ma mb ns mlo mhi nw mwe mru mrd th mg u (by omega) (by omega)) (zcwV S (List.mem_cons_of_mem _ k_M_125) mV_M_isValue k_M_125 hd_M_isValue rfl rfl ⟨Nat.le_of_ble_eq_true rfl, Nat.le_of_ble_eq_true rfl⟩) rfl (Nat.le_of_ble_eq_true rfl) d_M_over_2 ⟨Nat.le_of_ble_eq_true rfl, Nat.le_of_ble_eq_true rfl⟩ rfl [0] [1] 0 rfl rfl rfl (by decide) rfl rfl rfl (by decide) (by decide) (fun x w hp => ?_)
  obtain ⟨rfl, rfl⟩ := hp
  show ZZ _ _ _ _ _ _ _ _ _ _ _ _ _ _ _ _ _ _ 5 [(0, .ref mo), (1, .int (zI u)), (2, .int (zI v))] [.int (zI (b2 (0 ≤ u ∧ u < (nv : Int))))] [aI cI mg 100 (sgA sg), oM mo th mw (nv : Int) mg ma mb (ns : Int) mlo mhi (nw : Int) mwe mru mrd]
  have hb1 := b2_r (0 ≤ u ∧ u < (nv : Int))
  refine z_if_eq (tgt := 20) S d_M_over_5 (by decide) (by omega) (fun c1 => ?_) (fun c1 => ?_)
  · skip
    refine z_iconst S d_M_over_20 ?_
    refine z_istore_n (lv' := [(3, .int (zI 0)), (0, .ref mo), (1, .int (zI u)), (2, .int (zI v))]) S d_M_over_21 rfl (by decide) rfl ?_
    refine z_aload_n S d_M_over_22 1 rfl ?_
    refine z_iload_n S d_M_over_23 0 rfl ?_
    refine z_aload_n S d_M_over_24 1 rfl ?_
    refine z_get S hK la_M 1 rfl rfl 2 (by decide) k_M_42 rfl d_M_over_25 ?_
    refine z_bipush S d_M_over_28 rfl ?_
    refine z_icmp_ge (tgt := 37) S d_M_over_30 (by decide) (by omega) (by omega) (fun c2 => ?_) (fun c2 => ?_)
    · skip
      refine z_iconst S d_M_over_37 ?_
      refine z_iload_n S d_M_over_38 0 rfl ?_
      refine z_if_eq (tgt := 55) S d_M_over_39 (by decide) (by omega) (fun c3 => ?_) (fun c3 => ?_)
      · skip
        refine z_iconst S d_M_over_55 ?_
        refine z_callVa (As := [.int (zI 0), .int (zI 0), .int (zI 0)]) (st := []) (wc := [oM mo th mw (nv : Int) mg ma mb (ns : Int) mlo mhi (nw : Int) mwe mru mrd]) (wr := [aI cI mg 100 (sgA sg)]) S hGok hK hg hA (s_M_goes l dC dI cI cL qT mo mw nv ma mb ns mlo mhi nw mwe mru mrd th mg 0 0 0 (by omega) (by omega) (by omega)) (zcwV S (List.mem_cons_of_mem _ k_M_118) mV_M_goes k_M_118 hd_M_goes rfl rfl ⟨Nat.le_of_ble_eq_true rfl, Nat.le_of_ble_eq_true rfl⟩) rfl (Nat.le_of_ble_eq_true rfl) d_M_over_56 ⟨Nat.le_of_ble_eq_true rfl, Nat.le_of_ble_eq_true rfl⟩ rfl [1] [0] 1 rfl rfl rfl (by decide) rfl rfl rfl (by decide) (by decide) (fun x w hp => ?_)
        obtain ⟨rfl, rfl⟩ := hp
        show ZZ _ _ _ _ _ _ _ _ _ _ _ _ _ _ _ _ _ _ 59 [(3, .int (zI 0)), (0, .ref mo), (1, .int (zI u)), (2, .int (zI v))] [.int (zI (b2 (gth 0 0 0 = 0)))] [aI cI mg 100 (sgA sg), oM mo (gth 0 0 0) mw (nv : Int) mg ma mb (ns : Int) mlo mhi (nw : Int) mwe mru mrd]
        refine z_toi (a := 0) rfl ?_
        refine z_wq (ws' := [aI cI mg 100 (sgA sg), oM mo 1 mw (nv : Int) mg ma mb (ns : Int) mlo mhi (nw : Int) mwe mru mrd]) rfl ?_
        refine z_if_ne (tgt := 64) S d_M_over_59 (by decide) (by omega) (fun c4 => ?_) (fun c4 => ?_)
        · skip
          exact absurd c4 (by omega)
        · skip
          refine z_iconst S d_M_over_62 ?_
          exact z_iret (w := [oM mo 1 mw (nv : Int) mg ma mb (ns : Int) mlo mhi (nw : Int) mwe mru mrd, aI cI mg 100 (sgA sg)]) S hr hlo hAe d_M_over_63 [1, 0] (by decide) rfl rfl ⟨Nat.le_refl _, Nat.le_refl _⟩ (⟨rfl, rfl⟩)
      · skip
        exact absurd c3 (by omega)
    · skip
      refine z_iconst S d_M_over_33 ?_
      refine z_goto (tgt := 38) S d_M_over_34 (by decide) ?_
      refine z_iload_n S d_M_over_38 0 rfl ?_
      refine z_if_eq (tgt := 55) S d_M_over_39 (by decide) (by omega) (fun c5 => ?_) (fun c5 => ?_)
      · skip
        refine z_iconst S d_M_over_55 ?_
        refine z_callVa (As := [.int (zI 0), .int (zI 1), .int (zI 0)]) (st := []) (wc := [oM mo th mw (nv : Int) mg ma mb (ns : Int) mlo mhi (nw : Int) mwe mru mrd]) (wr := [aI cI mg 100 (sgA sg)]) S hGok hK hg hA (s_M_goes l dC dI cI cL qT mo mw nv ma mb ns mlo mhi nw mwe mru mrd th mg 0 1 0 (by omega) (by omega) (by omega)) (zcwV S (List.mem_cons_of_mem _ k_M_118) mV_M_goes k_M_118 hd_M_goes rfl rfl ⟨Nat.le_of_ble_eq_true rfl, Nat.le_of_ble_eq_true rfl⟩) rfl (Nat.le_of_ble_eq_true rfl) d_M_over_56 ⟨Nat.le_of_ble_eq_true rfl, Nat.le_of_ble_eq_true rfl⟩ rfl [1] [0] 1 rfl rfl rfl (by decide) rfl rfl rfl (by decide) (by decide) (fun x w hp => ?_)
        obtain ⟨rfl, rfl⟩ := hp
        show ZZ _ _ _ _ _ _ _ _ _ _ _ _ _ _ _ _ _ _ 59 [(3, .int (zI 0)), (0, .ref mo), (1, .int (zI u)), (2, .int (zI v))] [.int (zI (b2 (gth 0 1 0 = 0)))] [aI cI mg 100 (sgA sg), oM mo (gth 0 1 0) mw (nv : Int) mg ma mb (ns : Int) mlo mhi (nw : Int) mwe mru mrd]
        refine z_toi (a := 0) rfl ?_
        refine z_wq (ws' := [aI cI mg 100 (sgA sg), oM mo 1 mw (nv : Int) mg ma mb (ns : Int) mlo mhi (nw : Int) mwe mru mrd]) rfl ?_
        refine z_if_ne (tgt := 64) S d_M_over_59 (by decide) (by omega) (fun c6 => ?_) (fun c6 => ?_)
        · skip
          exact absurd c6 (by omega)
        · skip
          refine z_iconst S d_M_over_62 ?_
          exact z_iret (w := [oM mo 1 mw (nv : Int) mg ma mb (ns : Int) mlo mhi (nw : Int) mwe mru mrd, aI cI mg 100 (sgA sg)]) S hr hlo hAe d_M_over_63 [1, 0] (by decide) rfl rfl ⟨Nat.le_refl _, Nat.le_refl _⟩ (⟨rfl, rfl⟩)
      · skip
        exact absurd c5 (by omega)
  · skip
    have hq5 := b2_p c1
    refine z_aload_n S d_M_over_8 0 rfl ?_
    refine z_iload_n S d_M_over_9 2 rfl ?_
    refine z_callVa (As := [.int (zI v)]) (st := []) (wc := [oM mo th mw (nv : Int) mg ma mb (ns : Int) mlo mhi (nw : Int) mwe mru mrd]) (wr := [aI cI mg 100 (sgA sg)]) S hGok hK hg hA (s_M_isValue l dC dI cI cL qT mo mw nv ma mb ns mlo mhi nw mwe mru mrd th mg v (by omega) (by omega)) (zcwV S (List.mem_cons_of_mem _ k_M_125) mV_M_isValue k_M_125 hd_M_isValue rfl rfl ⟨Nat.le_of_ble_eq_true rfl, Nat.le_of_ble_eq_true rfl⟩) rfl (Nat.le_of_ble_eq_true rfl) d_M_over_10 ⟨Nat.le_of_ble_eq_true rfl, Nat.le_of_ble_eq_true rfl⟩ rfl [1] [0] 1 rfl rfl rfl (by decide) rfl rfl rfl (by decide) (by decide) (fun x w hp => ?_)
    obtain ⟨rfl, rfl⟩ := hp
    show ZZ _ _ _ _ _ _ _ _ _ _ _ _ _ _ _ _ _ _ 13 [(0, .ref mo), (1, .int (zI u)), (2, .int (zI v))] [.int (zI (b2 (0 ≤ v ∧ v < (nv : Int))))] [aI cI mg 100 (sgA sg), oM mo th mw (nv : Int) mg ma mb (ns : Int) mlo mhi (nw : Int) mwe mru mrd]
    have hb2 := b2_r (0 ≤ v ∧ v < (nv : Int))
    refine z_if_eq (tgt := 20) S d_M_over_13 (by decide) (by omega) (fun c7 => ?_) (fun c7 => ?_)
    · skip
      refine z_iconst S d_M_over_20 ?_
      refine z_istore_n (lv' := [(3, .int (zI 0)), (0, .ref mo), (1, .int (zI u)), (2, .int (zI v))]) S d_M_over_21 rfl (by decide) rfl ?_
      refine z_aload_n S d_M_over_22 1 rfl ?_
      refine z_iload_n S d_M_over_23 0 rfl ?_
      refine z_aload_n S d_M_over_24 1 rfl ?_
      refine z_get S hK la_M 1 rfl rfl 2 (by decide) k_M_42 rfl d_M_over_25 ?_
      refine z_bipush S d_M_over_28 rfl ?_
      refine z_icmp_ge (tgt := 37) S d_M_over_30 (by decide) (by omega) (by omega) (fun c8 => ?_) (fun c8 => ?_)
      · skip
        refine z_iconst S d_M_over_37 ?_
        refine z_iload_n S d_M_over_38 0 rfl ?_
        refine z_if_eq (tgt := 55) S d_M_over_39 (by decide) (by omega) (fun c9 => ?_) (fun c9 => ?_)
        · skip
          refine z_iconst S d_M_over_55 ?_
          refine z_callVa (As := [.int (zI 0), .int (zI 0), .int (zI 0)]) (st := []) (wc := [oM mo th mw (nv : Int) mg ma mb (ns : Int) mlo mhi (nw : Int) mwe mru mrd]) (wr := [aI cI mg 100 (sgA sg)]) S hGok hK hg hA (s_M_goes l dC dI cI cL qT mo mw nv ma mb ns mlo mhi nw mwe mru mrd th mg 0 0 0 (by omega) (by omega) (by omega)) (zcwV S (List.mem_cons_of_mem _ k_M_118) mV_M_goes k_M_118 hd_M_goes rfl rfl ⟨Nat.le_of_ble_eq_true rfl, Nat.le_of_ble_eq_true rfl⟩) rfl (Nat.le_of_ble_eq_true rfl) d_M_over_56 ⟨Nat.le_of_ble_eq_true rfl, Nat.le_of_ble_eq_true rfl⟩ rfl [1] [0] 1 rfl rfl rfl (by decide) rfl rfl rfl (by decide) (by decide) (fun x w hp => ?_)
          obtain ⟨rfl, rfl⟩ := hp
          show ZZ _ _ _ _ _ _ _ _ _ _ _ _ _ _ _ _ _ _ 59 [(3, .int (zI 0)), (0, .ref mo), (1, .int (zI u)), (2, .int (zI v))] [.int (zI (b2 (gth 0 0 0 = 0)))] [aI cI mg 100 (sgA sg), oM mo (gth 0 0 0) mw (nv : Int) mg ma mb (ns : Int) mlo mhi (nw : Int) mwe mru mrd]
          refine z_toi (a := 0) rfl ?_
          refine z_wq (ws' := [aI cI mg 100 (sgA sg), oM mo 1 mw (nv : Int) mg ma mb (ns : Int) mlo mhi (nw : Int) mwe mru mrd]) rfl ?_
          refine z_if_ne (tgt := 64) S d_M_over_59 (by decide) (by omega) (fun c10 => ?_) (fun c10 => ?_)
          · skip
            exact absurd c10 (by omega)
          · skip
            refine z_iconst S d_M_over_62 ?_
            exact z_iret (w := [oM mo 1 mw (nv : Int) mg ma mb (ns : Int) mlo mhi (nw : Int) mwe mru mrd, aI cI mg 100 (sgA sg)]) S hr hlo hAe d_M_over_63 [1, 0] (by decide) rfl rfl ⟨Nat.le_refl _, Nat.le_refl _⟩ (⟨rfl, rfl⟩)
        · skip
          exact absurd c9 (by omega)
      · skip
        refine z_iconst S d_M_over_33 ?_
        refine z_goto (tgt := 38) S d_M_over_34 (by decide) ?_
        refine z_iload_n S d_M_over_38 0 rfl ?_
        refine z_if_eq (tgt := 55) S d_M_over_39 (by decide) (by omega) (fun c11 => ?_) (fun c11 => ?_)
        · skip
          refine z_iconst S d_M_over_55 ?_
          refine z_callVa (As := [.int (zI 0), .int (zI 1), .int (zI 0)]) (st := []) (wc := [oM mo th mw (nv : Int) mg ma mb (ns : Int) mlo mhi (nw : Int) mwe mru mrd]) (wr := [aI cI mg 100 (sgA sg)]) S hGok hK hg hA (s_M_goes l dC dI cI cL qT mo mw nv ma mb ns mlo mhi nw mwe mru mrd th mg 0 1 0 (by omega) (by omega) (by omega)) (zcwV S (List.mem_cons_of_mem _ k_M_118) mV_M_goes k_M_118 hd_M_goes rfl rfl ⟨Nat.le_of_ble_eq_true rfl, Nat.le_of_ble_eq_true rfl⟩) rfl (Nat.le_of_ble_eq_true rfl) d_M_over_56 ⟨Nat.le_of_ble_eq_true rfl, Nat.le_of_ble_eq_true rfl⟩ rfl [1] [0] 1 rfl rfl rfl (by decide) rfl rfl rfl (by decide) (by decide) (fun x w hp => ?_)
          obtain ⟨rfl, rfl⟩ := hp
          show ZZ _ _ _ _ _ _ _ _ _ _ _ _ _ _ _ _ _ _ 59 [(3, .int (zI 0)), (0, .ref mo), (1, .int (zI u)), (2, .int (zI v))] [.int (zI (b2 (gth 0 1 0 = 0)))] [aI cI mg 100 (sgA sg), oM mo (gth 0 1 0) mw (nv : Int) mg ma mb (ns : Int) mlo mhi (nw : Int) mwe mru mrd]
          refine z_toi (a := 0) rfl ?_
          refine z_wq (ws' := [aI cI mg 100 (sgA sg), oM mo 1 mw (nv : Int) mg ma mb (ns : Int) mlo mhi (nw : Int) mwe mru mrd]) rfl ?_
          refine z_if_ne (tgt := 64) S d_M_over_59 (by decide) (by omega) (fun c12 => ?_) (fun c12 => ?_)
          · skip
            exact absurd c12 (by omega)
          · skip
            refine z_iconst S d_M_over_62 ?_
            exact z_iret (w := [oM mo 1 mw (nv : Int) mg ma mb (ns : Int) mlo mhi (nw : Int) mwe mru mrd, aI cI mg 100 (sgA sg)]) S hr hlo hAe d_M_over_63 [1, 0] (by decide) rfl rfl ⟨Nat.le_refl _, Nat.le_refl _⟩ (⟨rfl, rfl⟩)
        · skip
          exact absurd c11 (by omega)
    · skip
      exact absurd c7 (fun z => hu ⟨hq5, b2_p z⟩)
set_option maxHeartbeats 4000000 in
set_option maxRecDepth 100000 in
theorem f2_M_add (l : Launch) (dC : Nat → ClassId) (dI : Nat → Nat → Nat) (cI cL : ClassId) (qT : Nat) (mo : Nat) (mw : Nat) (nv : Nat) (ma : Nat) (mb : Nat) (ns : Nat) (mlo : Nat) (mhi : Nat) (nw : Nat) (mwe : Nat) (mru : Nat) (mrd : Nat) (th : Int) (mg : Nat) (u : Nat) (v : Nat) (hnv : nv = 100) (hu : u < nv) (hv : v < nv) : Ct l y_M_add (Cond.code y_M_add c_M_add 3 (some .int) :: zB) { frames := 5, cells := 0, slots := 0, locals := 128 } (dC, dI) zcl [(cI, .int), (cL, .long)] (zG cI cL qT) [.ref mo, .int (zI (u : Int)), .int (zI (v : Int))] [oM mo th mw (nv : Int) mg ma mb (ns : Int) mlo mhi (nw : Int) mwe mru mrd] (fun rv wv => rv = .int (zI 0) ∧ wv = [oM mo 2 mw (nv : Int) mg ma mb (ns : Int) mlo mhi (nw : Int) mwe mru mrd]) 0 0 := by
  refine Cm.ofZ (cc := c_M_add) (maxL := 3) (ret := (some .int)) (by decide) rfl (Nat.le_of_ble_eq_true rfl) rfl ?_
  intro p e s m below meth c A S hr hlo hnm hK hg hA hAe
  have hGok := zG_ok cI cL qT
  show ZZ _ _ _ _ _ _ _ _ _ _ _ _ _ _ _ _ _ _ 0 [(0, .ref mo), (1, .int (zI (u : Int))), (2, .int (zI (v : Int)))] [] [oM mo th mw (nv : Int) mg ma mb (ns : Int) mlo mhi (nw : Int) mwe mru mrd]
  refine z_aload_n S d_M_add_0 0 rfl ?_
  refine z_aload_n S d_M_add_1 0 rfl ?_
  refine z_iload_n S d_M_add_2 1 rfl ?_
  refine z_callVa (As := [.int (zI (u : Int))]) (st := [.ref mo]) (wc := [oM mo th mw (nv : Int) mg ma mb (ns : Int) mlo mhi (nw : Int) mwe mru mrd]) (wr := []) S hGok hK hg hA (s_M_isValue l dC dI cI cL qT mo mw nv ma mb ns mlo mhi nw mwe mru mrd th mg (u : Int) (by omega) (by omega)) (zcwV S (List.mem_cons_of_mem _ k_M_125) mV_M_isValue k_M_125 hd_M_isValue rfl rfl ⟨Nat.le_of_ble_eq_true rfl, Nat.le_of_ble_eq_true rfl⟩) rfl (Nat.le_of_ble_eq_true rfl) d_M_add_3 ⟨Nat.le_of_ble_eq_true rfl, Nat.le_of_ble_eq_true rfl⟩ rfl [0] [] 0 rfl rfl rfl (by decide) rfl rfl rfl (by decide) (by decide) (fun x w hp => ?_)
  obtain ⟨rfl, rfl⟩ := hp
  show ZZ _ _ _ _ _ _ _ _ _ _ _ _ _ _ _ _ _ _ 6 [(0, .ref mo), (1, .int (zI (u : Int))), (2, .int (zI (v : Int)))] [.int (zI (b2 (0 ≤ (u : Int) ∧ (u : Int) < (nv : Int)))), .ref mo] [oM mo th mw (nv : Int) mg ma mb (ns : Int) mlo mhi (nw : Int) mwe mru mrd]
  refine z_toi (a := 1) (zI_c (b2_t ⟨by omega, by omega⟩)) ?_
  refine z_if_eq (tgt := 21) S d_M_add_6 (by decide) (by omega) (fun c1 => ?_) (fun c1 => ?_)
  · skip
    exact absurd c1 (by omega)
  · skip
    refine z_aload_n S d_M_add_9 0 rfl ?_
    refine z_iload_n S d_M_add_10 2 rfl ?_
    refine z_callVa (As := [.int (zI (v : Int))]) (st := [.ref mo]) (wc := [oM mo th mw (nv : Int) mg ma mb (ns : Int) mlo mhi (nw : Int) mwe mru mrd]) (wr := []) S hGok hK hg hA (s_M_isValue l dC dI cI cL qT mo mw nv ma mb ns mlo mhi nw mwe mru mrd th mg (v : Int) (by omega) (by omega)) (zcwV S (List.mem_cons_of_mem _ k_M_125) mV_M_isValue k_M_125 hd_M_isValue rfl rfl ⟨Nat.le_of_ble_eq_true rfl, Nat.le_of_ble_eq_true rfl⟩) rfl (Nat.le_of_ble_eq_true rfl) d_M_add_11 ⟨Nat.le_of_ble_eq_true rfl, Nat.le_of_ble_eq_true rfl⟩ rfl [0] [] 0 rfl rfl rfl (by decide) rfl rfl rfl (by decide) (by decide) (fun x w hp => ?_)
    obtain ⟨rfl, rfl⟩ := hp
    show ZZ _ _ _ _ _ _ _ _ _ _ _ _ _ _ _ _ _ _ 14 [(0, .ref mo), (1, .int (zI (u : Int))), (2, .int (zI (v : Int)))] [.int (zI (b2 (0 ≤ (v : Int) ∧ (v : Int) < (nv : Int)))), .ref mo] [oM mo th mw (nv : Int) mg ma mb (ns : Int) mlo mhi (nw : Int) mwe mru mrd]
    refine z_toi (a := 1) (zI_c (b2_t ⟨by omega, by omega⟩)) ?_
    refine z_if_eq (tgt := 21) S d_M_add_14 (by decide) (by omega) (fun c2 => ?_) (fun c2 => ?_)
    · skip
      exact absurd c2 (by omega)
    · skip
      refine z_iconst S d_M_add_17 ?_
      refine z_goto (tgt := 22) S d_M_add_18 (by decide) ?_
      refine z_aload_n S d_M_add_22 0 rfl ?_
      refine z_get S hK la_M 0 rfl rfl 2 (by decide) k_M_42 rfl d_M_add_23 ?_
      refine z_bipush S d_M_add_26 rfl ?_
      refine z_icmp_ge (tgt := 35) S d_M_add_28 (by decide) (by omega) (by omega) (fun c3 => ?_) (fun c3 => ?_)
      · skip
        refine z_iconst S d_M_add_35 ?_
        refine z_iconst S d_M_add_36 ?_
        refine z_callVa (As := [.int (zI 1), .int (zI 0), .int (zI 1)]) (st := []) (wc := [oM mo th mw (nv : Int) mg ma mb (ns : Int) mlo mhi (nw : Int) mwe mru mrd]) (wr := []) S hGok hK hg hA (s_M_goes l dC dI cI cL qT mo mw nv ma mb ns mlo mhi nw mwe mru mrd th mg 1 0 1 (by omega) (by omega) (by omega)) (zcwV S (List.mem_cons_of_mem _ k_M_118) mV_M_goes k_M_118 hd_M_goes rfl rfl ⟨Nat.le_of_ble_eq_true rfl, Nat.le_of_ble_eq_true rfl⟩) rfl (Nat.le_of_ble_eq_true rfl) d_M_add_37 ⟨Nat.le_of_ble_eq_true rfl, Nat.le_of_ble_eq_true rfl⟩ rfl [0] [] 0 rfl rfl rfl (by decide) rfl rfl rfl (by decide) (by decide) (fun x w hp => ?_)
        obtain ⟨rfl, rfl⟩ := hp
        show ZZ _ _ _ _ _ _ _ _ _ _ _ _ _ _ _ _ _ _ 40 [(0, .ref mo), (1, .int (zI (u : Int))), (2, .int (zI (v : Int)))] [.int (zI (b2 (gth 1 0 1 = 0)))] [oM mo (gth 1 0 1) mw (nv : Int) mg ma mb (ns : Int) mlo mhi (nw : Int) mwe mru mrd]
        refine z_toi (a := 0) rfl ?_
        refine z_wq (ws' := [oM mo 2 mw (nv : Int) mg ma mb (ns : Int) mlo mhi (nw : Int) mwe mru mrd]) rfl ?_
        refine z_if_ne (tgt := 45) S d_M_add_40 (by decide) (by omega) (fun c4 => ?_) (fun c4 => ?_)
        · skip
          exact absurd c4 (by omega)
        · skip
          refine z_iconst S d_M_add_43 ?_
          exact z_iret (w := [oM mo 2 mw (nv : Int) mg ma mb (ns : Int) mlo mhi (nw : Int) mwe mru mrd]) S hr hlo hAe d_M_add_44 [0] (by decide) rfl rfl ⟨Nat.le_refl _, Nat.le_refl _⟩ (⟨rfl, rfl⟩)
      · skip
        omega
set_option maxHeartbeats 4000000 in
set_option maxRecDepth 100000 in
theorem f2_M_less (l : Launch) (dC : Nat → ClassId) (dI : Nat → Nat → Nat) (cI cL : ClassId) (qT : Nat) (mo : Nat) (mw : Nat) (nv : Nat) (ma : Nat) (mb : Nat) (ns : Nat) (mlo : Nat) (mhi : Nat) (nw : Nat) (mwe : Nat) (mru : Nat) (mrd : Nat) (th : Int) (mg : Nat) (u : Nat) (v : Nat) (hnv : nv = 100) (hu : u < nv) (hv : v < nv) : Ct l y_M_less (Cond.code y_M_less c_M_less 3 (some .int) :: zB) { frames := 5, cells := 0, slots := 0, locals := 128 } (dC, dI) zcl [(cI, .int), (cL, .long)] (zG cI cL qT) [.ref mo, .int (zI (u : Int)), .int (zI (v : Int))] [oM mo th mw (nv : Int) mg ma mb (ns : Int) mlo mhi (nw : Int) mwe mru mrd] (fun rv wv => rv = .int (zI 0) ∧ wv = [oM mo 2 mw (nv : Int) mg ma mb (ns : Int) mlo mhi (nw : Int) mwe mru mrd]) 0 0 := by
  refine Cm.ofZ (cc := c_M_less) (maxL := 3) (ret := (some .int)) (by decide) rfl (Nat.le_of_ble_eq_true rfl) rfl ?_
  intro p e s m below meth c A S hr hlo hnm hK hg hA hAe
  have hGok := zG_ok cI cL qT
  show ZZ _ _ _ _ _ _ _ _ _ _ _ _ _ _ _ _ _ _ 0 [(0, .ref mo), (1, .int (zI (u : Int))), (2, .int (zI (v : Int)))] [] [oM mo th mw (nv : Int) mg ma mb (ns : Int) mlo mhi (nw : Int) mwe mru mrd]
  refine z_aload_n S d_M_less_0 0 rfl ?_
  refine z_aload_n S d_M_less_1 0 rfl ?_
  refine z_iload_n S d_M_less_2 1 rfl ?_
  refine z_callVa (As := [.int (zI (u : Int))]) (st := [.ref mo]) (wc := [oM mo th mw (nv : Int) mg ma mb (ns : Int) mlo mhi (nw : Int) mwe mru mrd]) (wr := []) S hGok hK hg hA (s_M_isValue l dC dI cI cL qT mo mw nv ma mb ns mlo mhi nw mwe mru mrd th mg (u : Int) (by omega) (by omega)) (zcwV S (List.mem_cons_of_mem _ k_M_125) mV_M_isValue k_M_125 hd_M_isValue rfl rfl ⟨Nat.le_of_ble_eq_true rfl, Nat.le_of_ble_eq_true rfl⟩) rfl (Nat.le_of_ble_eq_true rfl) d_M_less_3 ⟨Nat.le_of_ble_eq_true rfl, Nat.le_of_ble_eq_true rfl⟩ rfl [0] [] 0 rfl rfl rfl (by decide) rfl rfl rfl (by decide) (by decide) (fun x w hp => ?_)
  obtain ⟨rfl, rfl⟩ := hp
  show ZZ _ _ _ _ _ _ _ _ _ _ _ _ _ _ _ _ _ _ 6 [(0, .ref mo), (1, .int (zI (u : Int))), (2, .int (zI (v : Int)))] [.int (zI (b2 (0 ≤ (u : Int) ∧ (u : Int) < (nv : Int)))), .ref mo] [oM mo th mw (nv : Int) mg ma mb (ns : Int) mlo mhi (nw : Int) mwe mru mrd]
  refine z_toi (a := 1) (zI_c (b2_t ⟨by omega, by omega⟩)) ?_
  refine z_if_eq (tgt := 21) S d_M_less_6 (by decide) (by omega) (fun c1 => ?_) (fun c1 => ?_)
  · skip
    exact absurd c1 (by omega)
  · skip
    refine z_aload_n S d_M_less_9 0 rfl ?_
    refine z_iload_n S d_M_less_10 2 rfl ?_
    refine z_callVa (As := [.int (zI (v : Int))]) (st := [.ref mo]) (wc := [oM mo th mw (nv : Int) mg ma mb (ns : Int) mlo mhi (nw : Int) mwe mru mrd]) (wr := []) S hGok hK hg hA (s_M_isValue l dC dI cI cL qT mo mw nv ma mb ns mlo mhi nw mwe mru mrd th mg (v : Int) (by omega) (by omega)) (zcwV S (List.mem_cons_of_mem _ k_M_125) mV_M_isValue k_M_125 hd_M_isValue rfl rfl ⟨Nat.le_of_ble_eq_true rfl, Nat.le_of_ble_eq_true rfl⟩) rfl (Nat.le_of_ble_eq_true rfl) d_M_less_11 ⟨Nat.le_of_ble_eq_true rfl, Nat.le_of_ble_eq_true rfl⟩ rfl [0] [] 0 rfl rfl rfl (by decide) rfl rfl rfl (by decide) (by decide) (fun x w hp => ?_)
    obtain ⟨rfl, rfl⟩ := hp
    show ZZ _ _ _ _ _ _ _ _ _ _ _ _ _ _ _ _ _ _ 14 [(0, .ref mo), (1, .int (zI (u : Int))), (2, .int (zI (v : Int)))] [.int (zI (b2 (0 ≤ (v : Int) ∧ (v : Int) < (nv : Int)))), .ref mo] [oM mo th mw (nv : Int) mg ma mb (ns : Int) mlo mhi (nw : Int) mwe mru mrd]
    refine z_toi (a := 1) (zI_c (b2_t ⟨by omega, by omega⟩)) ?_
    refine z_if_eq (tgt := 21) S d_M_less_14 (by decide) (by omega) (fun c2 => ?_) (fun c2 => ?_)
    · skip
      exact absurd c2 (by omega)
    · skip
      refine z_iconst S d_M_less_17 ?_
      refine z_goto (tgt := 22) S d_M_less_18 (by decide) ?_
      refine z_aload_n S d_M_less_22 0 rfl ?_
      refine z_get S hK la_M 0 rfl rfl 2 (by decide) k_M_42 rfl d_M_less_23 ?_
      refine z_bipush S d_M_less_26 rfl ?_
      refine z_icmp_ge (tgt := 35) S d_M_less_28 (by decide) (by omega) (by omega) (fun c3 => ?_) (fun c3 => ?_)
      · skip
        refine z_iconst S d_M_less_35 ?_
        refine z_iconst S d_M_less_36 ?_
        refine z_callVa (As := [.int (zI 1), .int (zI 0), .int (zI 1)]) (st := []) (wc := [oM mo th mw (nv : Int) mg ma mb (ns : Int) mlo mhi (nw : Int) mwe mru mrd]) (wr := []) S hGok hK hg hA (s_M_goes l dC dI cI cL qT mo mw nv ma mb ns mlo mhi nw mwe mru mrd th mg 1 0 1 (by omega) (by omega) (by omega)) (zcwV S (List.mem_cons_of_mem _ k_M_118) mV_M_goes k_M_118 hd_M_goes rfl rfl ⟨Nat.le_of_ble_eq_true rfl, Nat.le_of_ble_eq_true rfl⟩) rfl (Nat.le_of_ble_eq_true rfl) d_M_less_37 ⟨Nat.le_of_ble_eq_true rfl, Nat.le_of_ble_eq_true rfl⟩ rfl [0] [] 0 rfl rfl rfl (by decide) rfl rfl rfl (by decide) (by decide) (fun x w hp => ?_)
        obtain ⟨rfl, rfl⟩ := hp
        show ZZ _ _ _ _ _ _ _ _ _ _ _ _ _ _ _ _ _ _ 40 [(0, .ref mo), (1, .int (zI (u : Int))), (2, .int (zI (v : Int)))] [.int (zI (b2 (gth 1 0 1 = 0)))] [oM mo (gth 1 0 1) mw (nv : Int) mg ma mb (ns : Int) mlo mhi (nw : Int) mwe mru mrd]
        refine z_toi (a := 0) rfl ?_
        refine z_wq (ws' := [oM mo 2 mw (nv : Int) mg ma mb (ns : Int) mlo mhi (nw : Int) mwe mru mrd]) rfl ?_
        refine z_if_ne (tgt := 45) S d_M_less_40 (by decide) (by omega) (fun c4 => ?_) (fun c4 => ?_)
        · skip
          exact absurd c4 (by omega)
        · skip
          refine z_iconst S d_M_less_43 ?_
          exact z_iret (w := [oM mo 2 mw (nv : Int) mg ma mb (ns : Int) mlo mhi (nw : Int) mwe mru mrd]) S hr hlo hAe d_M_less_44 [0] (by decide) rfl rfl ⟨Nat.le_refl _, Nat.le_refl _⟩ (⟨rfl, rfl⟩)
      · skip
        omega
set_option maxHeartbeats 4000000 in
set_option maxRecDepth 100000 in
theorem f2_M_times (l : Launch) (dC : Nat → ClassId) (dI : Nat → Nat → Nat) (cI cL : ClassId) (qT : Nat) (mo : Nat) (mw : Nat) (nv : Nat) (ma : Nat) (mb : Nat) (ns : Nat) (mlo : Nat) (mhi : Nat) (nw : Nat) (mwe : Nat) (mru : Nat) (mrd : Nat) (th : Int) (mg : Nat) (u : Nat) (v : Nat) (hnv : nv = 100) (hu : u < nv) (hv : v < nv) : Ct l y_M_times (Cond.code y_M_times c_M_times 3 (some .int) :: zB) { frames := 5, cells := 0, slots := 0, locals := 128 } (dC, dI) zcl [(cI, .int), (cL, .long)] (zG cI cL qT) [.ref mo, .int (zI (u : Int)), .int (zI (v : Int))] [oM mo th mw (nv : Int) mg ma mb (ns : Int) mlo mhi (nw : Int) mwe mru mrd] (fun rv wv => rv = .int (zI 0) ∧ wv = [oM mo 2 mw (nv : Int) mg ma mb (ns : Int) mlo mhi (nw : Int) mwe mru mrd]) 0 0 := by
  refine Cm.ofZ (cc := c_M_times) (maxL := 3) (ret := (some .int)) (by decide) rfl (Nat.le_of_ble_eq_true rfl) rfl ?_
  intro p e s m below meth c A S hr hlo hnm hK hg hA hAe
  have hGok := zG_ok cI cL qT
  show ZZ _ _ _ _ _ _ _ _ _ _ _ _ _ _ _ _ _ _ 0 [(0, .ref mo), (1, .int (zI (u : Int))), (2, .int (zI (v : Int)))] [] [oM mo th mw (nv : Int) mg ma mb (ns : Int) mlo mhi (nw : Int) mwe mru mrd]
  refine z_aload_n S d_M_times_0 0 rfl ?_
  refine z_aload_n S d_M_times_1 0 rfl ?_
  refine z_iload_n S d_M_times_2 1 rfl ?_
  refine z_callVa (As := [.int (zI (u : Int))]) (st := [.ref mo]) (wc := [oM mo th mw (nv : Int) mg ma mb (ns : Int) mlo mhi (nw : Int) mwe mru mrd]) (wr := []) S hGok hK hg hA (s_M_isValue l dC dI cI cL qT mo mw nv ma mb ns mlo mhi nw mwe mru mrd th mg (u : Int) (by omega) (by omega)) (zcwV S (List.mem_cons_of_mem _ k_M_125) mV_M_isValue k_M_125 hd_M_isValue rfl rfl ⟨Nat.le_of_ble_eq_true rfl, Nat.le_of_ble_eq_true rfl⟩) rfl (Nat.le_of_ble_eq_true rfl) d_M_times_3 ⟨Nat.le_of_ble_eq_true rfl, Nat.le_of_ble_eq_true rfl⟩ rfl [0] [] 0 rfl rfl rfl (by decide) rfl rfl rfl (by decide) (by decide) (fun x w hp => ?_)
  obtain ⟨rfl, rfl⟩ := hp
  show ZZ _ _ _ _ _ _ _ _ _ _ _ _ _ _ _ _ _ _ 6 [(0, .ref mo), (1, .int (zI (u : Int))), (2, .int (zI (v : Int)))] [.int (zI (b2 (0 ≤ (u : Int) ∧ (u : Int) < (nv : Int)))), .ref mo] [oM mo th mw (nv : Int) mg ma mb (ns : Int) mlo mhi (nw : Int) mwe mru mrd]
  refine z_toi (a := 1) (zI_c (b2_t ⟨by omega, by omega⟩)) ?_
  refine z_if_eq (tgt := 21) S d_M_times_6 (by decide) (by omega) (fun c1 => ?_) (fun c1 => ?_)
  · skip
    exact absurd c1 (by omega)
  · skip
    refine z_aload_n S d_M_times_9 0 rfl ?_
    refine z_iload_n S d_M_times_10 2 rfl ?_
    refine z_callVa (As := [.int (zI (v : Int))]) (st := [.ref mo]) (wc := [oM mo th mw (nv : Int) mg ma mb (ns : Int) mlo mhi (nw : Int) mwe mru mrd]) (wr := []) S hGok hK hg hA (s_M_isValue l dC dI cI cL qT mo mw nv ma mb ns mlo mhi nw mwe mru mrd th mg (v : Int) (by omega) (by omega)) (zcwV S (List.mem_cons_of_mem _ k_M_125) mV_M_isValue k_M_125 hd_M_isValue rfl rfl ⟨Nat.le_of_ble_eq_true rfl, Nat.le_of_ble_eq_true rfl⟩) rfl (Nat.le_of_ble_eq_true rfl) d_M_times_11 ⟨Nat.le_of_ble_eq_true rfl, Nat.le_of_ble_eq_true rfl⟩ rfl [0] [] 0 rfl rfl rfl (by decide) rfl rfl rfl (by decide) (by decide) (fun x w hp => ?_)
    obtain ⟨rfl, rfl⟩ := hp
    show ZZ _ _ _ _ _ _ _ _ _ _ _ _ _ _ _ _ _ _ 14 [(0, .ref mo), (1, .int (zI (u : Int))), (2, .int (zI (v : Int)))] [.int (zI (b2 (0 ≤ (v : Int) ∧ (v : Int) < (nv : Int)))), .ref mo] [oM mo th mw (nv : Int) mg ma mb (ns : Int) mlo mhi (nw : Int) mwe mru mrd]
    refine z_toi (a := 1) (zI_c (b2_t ⟨by omega, by omega⟩)) ?_
    refine z_if_eq (tgt := 21) S d_M_times_14 (by decide) (by omega) (fun c2 => ?_) (fun c2 => ?_)
    · skip
      exact absurd c2 (by omega)
    · skip
      refine z_iconst S d_M_times_17 ?_
      refine z_goto (tgt := 22) S d_M_times_18 (by decide) ?_
      refine z_aload_n S d_M_times_22 0 rfl ?_
      refine z_get S hK la_M 0 rfl rfl 2 (by decide) k_M_42 rfl d_M_times_23 ?_
      refine z_bipush S d_M_times_26 rfl ?_
      refine z_icmp_ge (tgt := 35) S d_M_times_28 (by decide) (by omega) (by omega) (fun c3 => ?_) (fun c3 => ?_)
      · skip
        refine z_iconst S d_M_times_35 ?_
        refine z_iconst S d_M_times_36 ?_
        refine z_callVa (As := [.int (zI 1), .int (zI 0), .int (zI 1)]) (st := []) (wc := [oM mo th mw (nv : Int) mg ma mb (ns : Int) mlo mhi (nw : Int) mwe mru mrd]) (wr := []) S hGok hK hg hA (s_M_goes l dC dI cI cL qT mo mw nv ma mb ns mlo mhi nw mwe mru mrd th mg 1 0 1 (by omega) (by omega) (by omega)) (zcwV S (List.mem_cons_of_mem _ k_M_118) mV_M_goes k_M_118 hd_M_goes rfl rfl ⟨Nat.le_of_ble_eq_true rfl, Nat.le_of_ble_eq_true rfl⟩) rfl (Nat.le_of_ble_eq_true rfl) d_M_times_37 ⟨Nat.le_of_ble_eq_true rfl, Nat.le_of_ble_eq_true rfl⟩ rfl [0] [] 0 rfl rfl rfl (by decide) rfl rfl rfl (by decide) (by decide) (fun x w hp => ?_)
        obtain ⟨rfl, rfl⟩ := hp
        show ZZ _ _ _ _ _ _ _ _ _ _ _ _ _ _ _ _ _ _ 40 [(0, .ref mo), (1, .int (zI (u : Int))), (2, .int (zI (v : Int)))] [.int (zI (b2 (gth 1 0 1 = 0)))] [oM mo (gth 1 0 1) mw (nv : Int) mg ma mb (ns : Int) mlo mhi (nw : Int) mwe mru mrd]
        refine z_toi (a := 0) rfl ?_
        refine z_wq (ws' := [oM mo 2 mw (nv : Int) mg ma mb (ns : Int) mlo mhi (nw : Int) mwe mru mrd]) rfl ?_
        refine z_if_ne (tgt := 45) S d_M_times_40 (by decide) (by omega) (fun c4 => ?_) (fun c4 => ?_)
        · skip
          exact absurd c4 (by omega)
        · skip
          refine z_iconst S d_M_times_43 ?_
          exact z_iret (w := [oM mo 2 mw (nv : Int) mg ma mb (ns : Int) mlo mhi (nw : Int) mwe mru mrd]) S hr hlo hAe d_M_times_44 [0] (by decide) rfl rfl ⟨Nat.le_refl _, Nat.le_refl _⟩ (⟨rfl, rfl⟩)
      · skip
        omega
set_option maxHeartbeats 4000000 in
set_option maxRecDepth 100000 in
theorem f2_M_over (l : Launch) (dC : Nat → ClassId) (dI : Nat → Nat → Nat) (cI cL : ClassId) (qT : Nat) (mo : Nat) (mw : Nat) (nv : Nat) (ma : Nat) (mb : Nat) (ns : Nat) (mlo : Nat) (mhi : Nat) (nw : Nat) (mwe : Nat) (mru : Nat) (mrd : Nat) (th : Int) (mg : Nat) (sg : Nat → Int) (u : Nat) (v : Nat) (hnv : nv = 100) (hsv : -1 ≤ sg v ∧ sg v ≤ 1) (hu : u < nv) (hv : v < nv) : Ct l y_M_over (Cond.code y_M_over c_M_over 4 (some .int) :: zB) { frames := 5, cells := 0, slots := 0, locals := 128 } (dC, dI) zcl [(cI, .int), (cL, .long)] (zG cI cL qT) [.ref mo, .int (zI (u : Int)), .int (zI (v : Int))] [oM mo th mw (nv : Int) mg ma mb (ns : Int) mlo mhi (nw : Int) mwe mru mrd, aI cI mg 100 (sgA sg)] (fun rv wv => rv = .int (zI 0) ∧ wv = [oM mo 2 mw (nv : Int) mg ma mb (ns : Int) mlo mhi (nw : Int) mwe mru mrd, aI cI mg 100 (sgA sg)]) 0 0 := by
  refine Cm.ofZ (cc := c_M_over) (maxL := 4) (ret := (some .int)) (by decide) rfl (Nat.le_of_ble_eq_true rfl) rfl ?_
  intro p e s m below meth c A S hr hlo hnm hK hg hA hAe
  have hGok := zG_ok cI cL qT
  show ZZ _ _ _ _ _ _ _ _ _ _ _ _ _ _ _ _ _ _ 0 [(0, .ref mo), (1, .int (zI (u : Int))), (2, .int (zI (v : Int)))] [] [oM mo th mw (nv : Int) mg ma mb (ns : Int) mlo mhi (nw : Int) mwe mru mrd, aI cI mg 100 (sgA sg)]
  refine z_aload_n S d_M_over_0 0 rfl ?_
  refine z_iload_n S d_M_over_1 1 rfl ?_
  refine z_callVa (As := [.int (zI (u : Int))]) (st := []) (wc := [oM mo th mw (nv : Int) mg ma mb (ns : Int) mlo mhi (nw : Int) mwe mru mrd]) (wr := [aI cI mg 100 (sgA sg)]) S hGok hK hg hA (s_M_isValue l dC dI cI cL qT mo mw nv ma mb ns mlo mhi nw mwe mru mrd th mg (u : Int) (by omega) (by omega)) (zcwV S (List.mem_cons_of_mem _ k_M_125) mV_M_isValue k_M_125 hd_M_isValue rfl rfl ⟨Nat.le_of_ble_eq_true rfl, Nat.le_of_ble_eq_true rfl⟩) rfl (Nat.le_of_ble_eq_true rfl) d_M_over_2 ⟨Nat.le_of_ble_eq_true rfl, Nat.le_of_ble_eq_true rfl⟩ rfl [0] [1] 0 rfl rfl rfl (by decide) rfl rfl rfl (by decide) (by decide) (fun x w hp => ?_)
  obtain ⟨rfl, rfl⟩ := hp
  show ZZ _ _ _ _ _ _ _ _ _ _ _ _ _ _ _ _ _ _ 5 [(0, .ref mo), (1, .int (zI (u : Int))), (2, .int (zI (v : Int)))] [.int (zI (b2 (0 ≤ (u : Int) ∧ (u : Int) < (nv : Int))))] [aI cI mg 100 (sgA sg), oM mo th mw (nv : Int) mg ma mb (ns : Int) mlo mhi (nw : Int) mwe mru mrd]
  refine z_toi (a := 1) (zI_c (b2_t ⟨by omega, by omega⟩)) ?_
  refine z_if_eq (tgt := 20) S d_M_over_5 (by decide) (by omega) (fun c1 => ?_) (fun c1 => ?_)
  · skip
    exact absurd c1 (by omega)
  · skip
    refine z_aload_n S d_M_over_8 0 rfl ?_
    refine z_iload_n S d_M_over_9 2 rfl ?_
    refine z_callVa (As := [.int (zI (v : Int))]) (st := []) (wc := [oM mo th mw (nv : Int) mg ma mb (ns : Int) mlo mhi (nw : Int) mwe mru mrd]) (wr := [aI cI mg 100 (sgA sg)]) S hGok hK hg hA (s_M_isValue l dC dI cI cL qT mo mw nv ma mb ns mlo mhi nw mwe mru mrd th mg (v : Int) (by omega) (by omega)) (zcwV S (List.mem_cons_of_mem _ k_M_125) mV_M_isValue k_M_125 hd_M_isValue rfl rfl ⟨Nat.le_of_ble_eq_true rfl, Nat.le_of_ble_eq_true rfl⟩) rfl (Nat.le_of_ble_eq_true rfl) d_M_over_10 ⟨Nat.le_of_ble_eq_true rfl, Nat.le_of_ble_eq_true rfl⟩ rfl [1] [0] 1 rfl rfl rfl (by decide) rfl rfl rfl (by decide) (by decide) (fun x w hp => ?_)
    obtain ⟨rfl, rfl⟩ := hp
    show ZZ _ _ _ _ _ _ _ _ _ _ _ _ _ _ _ _ _ _ 13 [(0, .ref mo), (1, .int (zI (u : Int))), (2, .int (zI (v : Int)))] [.int (zI (b2 (0 ≤ (v : Int) ∧ (v : Int) < (nv : Int))))] [aI cI mg 100 (sgA sg), oM mo th mw (nv : Int) mg ma mb (ns : Int) mlo mhi (nw : Int) mwe mru mrd]
    refine z_toi (a := 1) (zI_c (b2_t ⟨by omega, by omega⟩)) ?_
    refine z_if_eq (tgt := 20) S d_M_over_13 (by decide) (by omega) (fun c2 => ?_) (fun c2 => ?_)
    · skip
      exact absurd c2 (by omega)
    · skip
      refine z_iconst S d_M_over_16 ?_
      refine z_goto (tgt := 21) S d_M_over_17 (by decide) ?_
      refine z_istore_n (lv' := [(3, .int (zI 1)), (0, .ref mo), (1, .int (zI (u : Int))), (2, .int (zI (v : Int)))]) S d_M_over_21 rfl (by decide) rfl ?_
      refine z_aload_n S d_M_over_22 1 rfl ?_
      refine z_iload_n S d_M_over_23 0 rfl ?_
      refine z_aload_n S d_M_over_24 1 rfl ?_
      refine z_get S hK la_M 1 rfl rfl 2 (by decide) k_M_42 rfl d_M_over_25 ?_
      refine z_bipush S d_M_over_28 rfl ?_
      refine z_icmp_ge (tgt := 37) S d_M_over_30 (by decide) (by omega) (by omega) (fun c3 => ?_) (fun c3 => ?_)
      · skip
        refine z_iconst S d_M_over_37 ?_
        refine z_iload_n S d_M_over_38 0 rfl ?_
        refine z_if_eq (tgt := 55) S d_M_over_39 (by decide) (by omega) (fun c4 => ?_) (fun c4 => ?_)
        · skip
          exact absurd c4 (by omega)
        · skip
          refine z_aload_n S d_M_over_42 1 rfl ?_
          refine z_get S hK la_M 1 rfl rfl 3 (by decide) k_M_13 rfl d_M_over_43 ?_
          refine z_iload_n S d_M_over_46 3 rfl ?_
          refine z_iald (x := sg v) S hK 0 0 rfl rfl v rfl (by omega) (by decide) rfl d_M_over_47 ?_
          refine z_if_eq (tgt := 55) S d_M_over_48 (by decide) (by omega) (fun c5 => ?_) (fun c5 => ?_)
          · skip
            refine z_iconst S d_M_over_55 ?_
            refine z_callVa (As := [.int (zI 1), .int (zI 0), .int (zI 0)]) (st := []) (wc := [oM mo th mw (nv : Int) mg ma mb (ns : Int) mlo mhi (nw : Int) mwe mru mrd]) (wr := [aI cI mg 100 (sgA sg)]) S hGok hK hg hA (s_M_goes l dC dI cI cL qT mo mw nv ma mb ns mlo mhi nw mwe mru mrd th mg 1 0 0 (by omega) (by omega) (by omega)) (zcwV S (List.mem_cons_of_mem _ k_M_118) mV_M_goes k_M_118 hd_M_goes rfl rfl ⟨Nat.le_of_ble_eq_true rfl, Nat.le_of_ble_eq_true rfl⟩) rfl (Nat.le_of_ble_eq_true rfl) d_M_over_56 ⟨Nat.le_of_ble_eq_true rfl, Nat.le_of_ble_eq_true rfl⟩ rfl [1] [0] 1 rfl rfl rfl (by decide) rfl rfl rfl (by decide) (by decide) (fun x w hp => ?_)
            obtain ⟨rfl, rfl⟩ := hp
            show ZZ _ _ _ _ _ _ _ _ _ _ _ _ _ _ _ _ _ _ 59 [(3, .int (zI 1)), (0, .ref mo), (1, .int (zI (u : Int))), (2, .int (zI (v : Int)))] [.int (zI (b2 (gth 1 0 0 = 0)))] [aI cI mg 100 (sgA sg), oM mo (gth 1 0 0) mw (nv : Int) mg ma mb (ns : Int) mlo mhi (nw : Int) mwe mru mrd]
            refine z_toi (a := 0) rfl ?_
            refine z_wq (ws' := [aI cI mg 100 (sgA sg), oM mo 2 mw (nv : Int) mg ma mb (ns : Int) mlo mhi (nw : Int) mwe mru mrd]) rfl ?_
            refine z_if_ne (tgt := 64) S d_M_over_59 (by decide) (by omega) (fun c6 => ?_) (fun c6 => ?_)
            · skip
              exact absurd c6 (by omega)
            · skip
              refine z_iconst S d_M_over_62 ?_
              exact z_iret (w := [oM mo 2 mw (nv : Int) mg ma mb (ns : Int) mlo mhi (nw : Int) mwe mru mrd, aI cI mg 100 (sgA sg)]) S hr hlo hAe d_M_over_63 [1, 0] (by decide) rfl rfl ⟨Nat.le_refl _, Nat.le_refl _⟩ (⟨rfl, rfl⟩)
          · skip
            refine z_iconst S d_M_over_51 ?_
            refine z_goto (tgt := 56) S d_M_over_52 (by decide) ?_
            refine z_callVa (As := [.int (zI 1), .int (zI 0), .int (zI 1)]) (st := []) (wc := [oM mo th mw (nv : Int) mg ma mb (ns : Int) mlo mhi (nw : Int) mwe mru mrd]) (wr := [aI cI mg 100 (sgA sg)]) S hGok hK hg hA (s_M_goes l dC dI cI cL qT mo mw nv ma mb ns mlo mhi nw mwe mru mrd th mg 1 0 1 (by omega) (by omega) (by omega)) (zcwV S (List.mem_cons_of_mem _ k_M_118) mV_M_goes k_M_118 hd_M_goes rfl rfl ⟨Nat.le_of_ble_eq_true rfl, Nat.le_of_ble_eq_true rfl⟩) rfl (Nat.le_of_ble_eq_true rfl) d_M_over_56 ⟨Nat.le_of_ble_eq_true rfl, Nat.le_of_ble_eq_true rfl⟩ rfl [1] [0] 1 rfl rfl rfl (by decide) rfl rfl rfl (by decide) (by decide) (fun x w hp => ?_)
            obtain ⟨rfl, rfl⟩ := hp
            show ZZ _ _ _ _ _ _ _ _ _ _ _ _ _ _ _ _ _ _ 59 [(3, .int (zI 1)), (0, .ref mo), (1, .int (zI (u : Int))), (2, .int (zI (v : Int)))] [.int (zI (b2 (gth 1 0 1 = 0)))] [aI cI mg 100 (sgA sg), oM mo (gth 1 0 1) mw (nv : Int) mg ma mb (ns : Int) mlo mhi (nw : Int) mwe mru mrd]
            refine z_toi (a := 0) rfl ?_
            refine z_wq (ws' := [aI cI mg 100 (sgA sg), oM mo 2 mw (nv : Int) mg ma mb (ns : Int) mlo mhi (nw : Int) mwe mru mrd]) rfl ?_
            refine z_if_ne (tgt := 64) S d_M_over_59 (by decide) (by omega) (fun c7 => ?_) (fun c7 => ?_)
            · skip
              exact absurd c7 (by omega)
            · skip
              refine z_iconst S d_M_over_62 ?_
              exact z_iret (w := [oM mo 2 mw (nv : Int) mg ma mb (ns : Int) mlo mhi (nw : Int) mwe mru mrd, aI cI mg 100 (sgA sg)]) S hr hlo hAe d_M_over_63 [1, 0] (by decide) rfl rfl ⟨Nat.le_refl _, Nat.le_refl _⟩ (⟨rfl, rfl⟩)
      · skip
        omega
