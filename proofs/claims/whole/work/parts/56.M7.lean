def iuV (r z : Nat) (sg ru : Int) (q : Nat) : Int := if r = 0 then 0 else gfz r z sg ru (b2 (q % 2 = 1))
set_option maxHeartbeats 4000000 in
set_option maxRecDepth 100000 in
theorem s_M_sum (l : Launch) (dC : Nat → ClassId) (dI : Nat → Nat → Nat) (cI cL : ClassId) (qT : Nat) (mo : Nat) (mw : Nat) (nv : Nat) (ma : Nat) (mb : Nat) (ns : Nat) (mlo : Nat) (mhi : Nat) (nw : Nat) (mwe : Nat) (mru : Nat) (mrd : Nat) (th : Int) (mg : Nat) (rr : Nat → Nat) (sg : Nat → Int) (up : Nat → Nat) (dn : Nat → Nat) (u : Nat) (v : Nat) (tn : Int) (hu : u < 100) (hv : v < 100) (bu1 : up u < 10 ^ 48) (bu2 : dn u < 10 ^ 48) (bu3 : -1 ≤ sg u ∧ sg u ≤ 1) (bv1 : up v < 10 ^ 48) (bv2 : dn v < 10 ^ 48) (bv3 : -1 ≤ sg v ∧ sg v ≤ 1) (htn : tn = 1 ∨ tn = -1) : Ct l y_M_sum (Cond.code y_M_sum c_M_sum 6 (some .int) :: zB) { frames := 2, cells := 0, slots := 0, locals := 53 } (dC, dI) zcl [(cI, .int), (cL, .long)] (zG cI cL qT) [.ref mo, .int (zI (u : Int)), .int (zI (v : Int)), .int (zI tn)] [oM mo th mw (nv : Int) mg ma mb (ns : Int) mlo mhi (nw : Int) mwe mru mrd, aL cL mw 160 (wkA rr), aI cI mg 100 (sgA sg), aL cL ma 800 (moA up), aL cL mb 800 (moA dn)] (fun rv wv => ∃ rr2 : Nat → Nat, (rr2 0 = suN (sg u) (tn * sg v) (up u * dn v) (up v * dn u)) ∧ (rr2 1 = dn u * dn v) ∧ rv = .int (zI (smS (sg u) (tn * sg v) (up u * dn v) (up v * dn u))) ∧ wv = [oM mo th mw (nv : Int) mg ma mb (ns : Int) mlo mhi (nw : Int) mwe mru mrd, aL cL mw 160 (wkA rr2), aI cI mg 100 (sgA sg), aL cL ma 800 (moA up), aL cL mb 800 (moA dn)]) 0 0 := by
  refine Cm.ofZ (cc := c_M_sum) (maxL := 6) (ret := (some .int)) (by decide) rfl (Nat.le_of_ble_eq_true rfl) rfl ?_
  intro p e s m below meth c A S hr hlo hnm hK hg hA hAe
  have hGok := zG_ok cI cL qT
  show ZZ _ _ _ _ _ _ _ _ _ _ _ _ _ _ _ _ _ _ 0 [(0, .ref mo), (1, .int (zI (u : Int))), (2, .int (zI (v : Int))), (3, .int (zI tn))] [] [oM mo th mw (nv : Int) mg ma mb (ns : Int) mlo mhi (nw : Int) mwe mru mrd, aL cL mw 160 (wkA rr), aI cI mg 100 (sgA sg), aL cL ma 800 (moA up), aL cL mb 800 (moA dn)]
  have m1 := mul96 bu1 bv2
  have m2 := mul96 bv1 bu2
  have m3 := mul96 bv2 bu2
  refine z_aload_n S d_M_sum_0 0 rfl ?_
  refine z_iload_n S d_M_sum_1 1 rfl ?_
  refine z_iconst S d_M_sum_2 ?_
  refine z_callVv (As := [.int (zI (u : Int)), .int (zI 2)]) (st := []) (wc := [oM mo th mw (nv : Int) mg ma mb (ns : Int) mlo mhi (nw : Int) mwe mru mrd, aL cL mw 160 (wkA rr), aL cL ma 800 (moA up)]) (wr := [aI cI mg 100 (sgA sg), aL cL mb 800 (moA dn)]) S hGok hK hg hA (s_M_loadUp l dC dI cI cL qT mo mw nv ma mb ns mlo mhi nw mwe mru mrd th mg rr up u 2 (by omega) (by omega) (by omega)) (zcwV S (List.mem_cons_of_mem _ k_M_109) mV_M_loadUp k_M_109 hd_M_loadUp rfl rfl ⟨Nat.le_of_ble_eq_true rfl, Nat.le_of_ble_eq_true rfl⟩) rfl (Nat.le_of_ble_eq_true rfl) d_M_sum_3 ⟨Nat.le_of_ble_eq_true rfl, Nat.le_of_ble_eq_true rfl⟩ rfl [0, 1, 3] [2, 4] 0 rfl rfl rfl (by decide) rfl rfl rfl (by decide) (by decide) (fun w hp => ?_)
  subst hp
  show ZZ _ _ _ _ _ _ _ _ _ _ _ _ _ _ _ _ _ _ 6 [(0, .ref mo), (1, .int (zI (u : Int))), (2, .int (zI (v : Int))), (3, .int (zI tn))] [] [aI cI mg 100 (sgA sg), aL cL mb 800 (moA dn), oM mo th mw (nv : Int) mg ma mb (ns : Int) mlo mhi (nw : Int) mwe mru mrd, aL cL mw 160 (wkA (un rr 2 (up u))), aL cL ma 800 (moA up)]
  obtain ⟨ra, hra, a2⟩ : ∃ ra : Nat → Nat, ra = (un rr 2 (up u)) ∧ ra 2 = up u := ⟨(un rr 2 (up u)), rfl, rfl⟩
  refine z_wq (ws' := [aI cI mg 100 (sgA sg), aL cL mb 800 (moA dn), oM mo th mw (nv : Int) mg ma mb (ns : Int) mlo mhi (nw : Int) mwe mru mrd, aL cL mw 160 (wkA ra), aL cL ma 800 (moA up)]) (by rw [hra]) ?_
  refine z_aload_n S d_M_sum_6 0 rfl ?_
  refine z_iload_n S d_M_sum_7 2 rfl ?_
  refine z_iconst S d_M_sum_8 ?_
  refine z_callVv (As := [.int (zI (v : Int)), .int (zI 3)]) (st := []) (wc := [oM mo th mw (nv : Int) mg ma mb (ns : Int) mlo mhi (nw : Int) mwe mru mrd, aL cL mw 160 (wkA ra), aL cL mb 800 (moA dn)]) (wr := [aI cI mg 100 (sgA sg), aL cL ma 800 (moA up)]) S hGok hK hg hA (s_M_loadDown l dC dI cI cL qT mo mw nv ma mb ns mlo mhi nw mwe mru mrd th mg ra dn v 3 (by omega) (by omega) (by omega)) (zcwV S (List.mem_cons_of_mem _ k_M_112) mV_M_loadDown k_M_112 hd_M_loadDown rfl rfl ⟨Nat.le_of_ble_eq_true rfl, Nat.le_of_ble_eq_true rfl⟩) rfl (Nat.le_of_ble_eq_true rfl) d_M_sum_9 ⟨Nat.le_of_ble_eq_true rfl, Nat.le_of_ble_eq_true rfl⟩ rfl [2, 3, 1] [0, 4] 2 rfl rfl rfl (by decide) rfl rfl rfl (by decide) (by decide) (fun w hp => ?_)
  subst hp
  show ZZ _ _ _ _ _ _ _ _ _ _ _ _ _ _ _ _ _ _ 12 [(0, .ref mo), (1, .int (zI (u : Int))), (2, .int (zI (v : Int))), (3, .int (zI tn))] [] [aI cI mg 100 (sgA sg), aL cL ma 800 (moA up), oM mo th mw (nv : Int) mg ma mb (ns : Int) mlo mhi (nw : Int) mwe mru mrd, aL cL mw 160 (wkA (un ra 3 (dn v))), aL cL mb 800 (moA dn)]
  obtain ⟨rb, hrb, b2_, b3_⟩ : ∃ rb : Nat → Nat, rb = (un ra 3 (dn v)) ∧ rb 2 = up u ∧ rb 3 = dn v := ⟨(un ra 3 (dn v)), rfl, a2, rfl⟩
  refine z_wq (ws' := [aI cI mg 100 (sgA sg), aL cL ma 800 (moA up), oM mo th mw (nv : Int) mg ma mb (ns : Int) mlo mhi (nw : Int) mwe mru mrd, aL cL mw 160 (wkA rb), aL cL mb 800 (moA dn)]) (by rw [hrb]) ?_
  refine z_aload_n S d_M_sum_12 0 rfl ?_
  refine z_iconst S d_M_sum_13 ?_
  refine z_iconst S d_M_sum_14 ?_
  refine z_iconst S d_M_sum_15 ?_
  refine z_callVv (As := [.int (zI 2), .int (zI 3), .int (zI 0)]) (st := []) (wc := [oM mo th mw (nv : Int) mg ma mb (ns : Int) mlo mhi (nw : Int) mwe mru mrd, aL cL mw 160 (wkA rb)]) (wr := [aI cI mg 100 (sgA sg), aL cL ma 800 (moA up), aL cL mb 800 (moA dn)]) S hGok hK hg hA (s_M_multiply l dC dI cI cL qT mo mw nv ma mb ns mlo mhi nw mwe mru mrd th mg rb 2 3 0 (by omega) (by omega) (by omega) (by omega) (by omega) (by omega) (by omega) (by rw [b2_, b3_]; omega)) (zcwV S (List.mem_cons_of_mem _ k_M_115) mV_M_multiply k_M_115 hd_M_multiply rfl rfl ⟨Nat.le_of_ble_eq_true rfl, Nat.le_of_ble_eq_true rfl⟩) rfl (Nat.le_of_ble_eq_true rfl) d_M_sum_16 ⟨Nat.le_of_ble_eq_true rfl, Nat.le_of_ble_eq_true rfl⟩ rfl [2, 3] [0, 1, 4] 2 rfl rfl rfl (by decide) rfl rfl rfl (by decide) (by decide) (fun w hp => ?_)
  subst hp
  show ZZ _ _ _ _ _ _ _ _ _ _ _ _ _ _ _ _ _ _ 19 [(0, .ref mo), (1, .int (zI (u : Int))), (2, .int (zI (v : Int))), (3, .int (zI tn))] [] [aI cI mg 100 (sgA sg), aL cL ma 800 (moA up), aL cL mb 800 (moA dn), oM mo th mw (nv : Int) mg ma mb (ns : Int) mlo mhi (nw : Int) mwe mru mrd, aL cL mw 160 (wkA (un rb 0 (rb 2 * rb 3)))]
  obtain ⟨rc, hrc, c0⟩ : ∃ rc : Nat → Nat, rc = (un rb 0 (rb 2 * rb 3)) ∧ rc 0 = up u * dn v := ⟨(un rb 0 (rb 2 * rb 3)), rfl, (by show rb 2 * rb 3 = _; rw [b2_, b3_])⟩
  refine z_wq (ws' := [aI cI mg 100 (sgA sg), aL cL ma 800 (moA up), aL cL mb 800 (moA dn), oM mo th mw (nv : Int) mg ma mb (ns : Int) mlo mhi (nw : Int) mwe mru mrd, aL cL mw 160 (wkA rc)]) (by rw [hrc]) ?_
  refine z_aload_n S d_M_sum_19 0 rfl ?_
  refine z_iload_n S d_M_sum_20 2 rfl ?_
  refine z_iconst S d_M_sum_21 ?_
  refine z_callVv (As := [.int (zI (v : Int)), .int (zI 2)]) (st := []) (wc := [oM mo th mw (nv : Int) mg ma mb (ns : Int) mlo mhi (nw : Int) mwe mru mrd, aL cL mw 160 (wkA rc), aL cL ma 800 (moA up)]) (wr := [aI cI mg 100 (sgA sg), aL cL mb 800 (moA dn)]) S hGok hK hg hA (s_M_loadUp l dC dI cI cL qT mo mw nv ma mb ns mlo mhi nw mwe mru mrd th mg rc up v 2 (by omega) (by omega) (by omega)) (zcwV S (List.mem_cons_of_mem _ k_M_109) mV_M_loadUp k_M_109 hd_M_loadUp rfl rfl ⟨Nat.le_of_ble_eq_true rfl, Nat.le_of_ble_eq_true rfl⟩) rfl (Nat.le_of_ble_eq_true rfl) d_M_sum_22 ⟨Nat.le_of_ble_eq_true rfl, Nat.le_of_ble_eq_true rfl⟩ rfl [3, 4, 1] [0, 2] 3 rfl rfl rfl (by decide) rfl rfl rfl (by decide) (by decide) (fun w hp => ?_)
  subst hp
  show ZZ _ _ _ _ _ _ _ _ _ _ _ _ _ _ _ _ _ _ 25 [(0, .ref mo), (1, .int (zI (u : Int))), (2, .int (zI (v : Int))), (3, .int (zI tn))] [] [aI cI mg 100 (sgA sg), aL cL mb 800 (moA dn), oM mo th mw (nv : Int) mg ma mb (ns : Int) mlo mhi (nw : Int) mwe mru mrd, aL cL mw 160 (wkA (un rc 2 (up v))), aL cL ma 800 (moA up)]
  obtain ⟨rd, hrd, d0, d2⟩ : ∃ rd : Nat → Nat, rd = (un rc 2 (up v)) ∧ rd 0 = up u * dn v ∧ rd 2 = up v := ⟨(un rc 2 (up v)), rfl, c0, rfl⟩
  refine z_wq (ws' := [aI cI mg 100 (sgA sg), aL cL mb 800 (moA dn), oM mo th mw (nv : Int) mg ma mb (ns : Int) mlo mhi (nw : Int) mwe mru mrd, aL cL mw 160 (wkA rd), aL cL ma 800 (moA up)]) (by rw [hrd]) ?_
  refine z_aload_n S d_M_sum_25 0 rfl ?_
  refine z_iload_n S d_M_sum_26 1 rfl ?_
  refine z_iconst S d_M_sum_27 ?_
  refine z_callVv (As := [.int (zI (u : Int)), .int (zI 3)]) (st := []) (wc := [oM mo th mw (nv : Int) mg ma mb (ns : Int) mlo mhi (nw : Int) mwe mru mrd, aL cL mw 160 (wkA rd), aL cL mb 800 (moA dn)]) (wr := [aI cI mg 100 (sgA sg), aL cL ma 800 (moA up)]) S hGok hK hg hA (s_M_loadDown l dC dI cI cL qT mo mw nv ma mb ns mlo mhi nw mwe mru mrd th mg rd dn u 3 (by omega) (by omega) (by omega)) (zcwV S (List.mem_cons_of_mem _ k_M_112) mV_M_loadDown k_M_112 hd_M_loadDown rfl rfl ⟨Nat.le_of_ble_eq_true rfl, Nat.le_of_ble_eq_true rfl⟩) rfl (Nat.le_of_ble_eq_true rfl) d_M_sum_28 ⟨Nat.le_of_ble_eq_true rfl, Nat.le_of_ble_eq_true rfl⟩ rfl [2, 3, 1] [0, 4] 2 rfl rfl rfl (by decide) rfl rfl rfl (by decide) (by decide) (fun w hp => ?_)
  subst hp
  show ZZ _ _ _ _ _ _ _ _ _ _ _ _ _ _ _ _ _ _ 31 [(0, .ref mo), (1, .int (zI (u : Int))), (2, .int (zI (v : Int))), (3, .int (zI tn))] [] [aI cI mg 100 (sgA sg), aL cL ma 800 (moA up), oM mo th mw (nv : Int) mg ma mb (ns : Int) mlo mhi (nw : Int) mwe mru mrd, aL cL mw 160 (wkA (un rd 3 (dn u))), aL cL mb 800 (moA dn)]
  obtain ⟨re, hre, e0, e2, e3⟩ : ∃ re : Nat → Nat, re = (un rd 3 (dn u)) ∧ re 0 = up u * dn v ∧ re 2 = up v ∧ re 3 = dn u := ⟨(un rd 3 (dn u)), rfl, d0, d2, rfl⟩
  refine z_wq (ws' := [aI cI mg 100 (sgA sg), aL cL ma 800 (moA up), oM mo th mw (nv : Int) mg ma mb (ns : Int) mlo mhi (nw : Int) mwe mru mrd, aL cL mw 160 (wkA re), aL cL mb 800 (moA dn)]) (by rw [hre]) ?_
  refine z_aload_n S d_M_sum_31 0 rfl ?_
  refine z_iconst S d_M_sum_32 ?_
  refine z_iconst S d_M_sum_33 ?_
  refine z_bipush S d_M_sum_34 rfl ?_
  refine z_callVv (As := [.int (zI 2), .int (zI 3), .int (zI 6)]) (st := []) (wc := [oM mo th mw (nv : Int) mg ma mb (ns : Int) mlo mhi (nw : Int) mwe mru mrd, aL cL mw 160 (wkA re)]) (wr := [aI cI mg 100 (sgA sg), aL cL ma 800 (moA up), aL cL mb 800 (moA dn)]) S hGok hK hg hA (s_M_multiply l dC dI cI cL qT mo mw nv ma mb ns mlo mhi nw mwe mru mrd th mg re 2 3 6 (by omega) (by omega) (by omega) (by omega) (by omega) (by omega) (by omega) (by rw [e2, e3]; omega)) (zcwV S (List.mem_cons_of_mem _ k_M_115) mV_M_multiply k_M_115 hd_M_multiply rfl rfl ⟨Nat.le_of_ble_eq_true rfl, Nat.le_of_ble_eq_true rfl⟩) rfl (Nat.le_of_ble_eq_true rfl) d_M_sum_36 ⟨Nat.le_of_ble_eq_true rfl, Nat.le_of_ble_eq_true rfl⟩ rfl [2, 3] [0, 1, 4] 2 rfl rfl rfl (by decide) rfl rfl rfl (by decide) (by decide) (fun w hp => ?_)
  subst hp
  show ZZ _ _ _ _ _ _ _ _ _ _ _ _ _ _ _ _ _ _ 39 [(0, .ref mo), (1, .int (zI (u : Int))), (2, .int (zI (v : Int))), (3, .int (zI tn))] [] [aI cI mg 100 (sgA sg), aL cL ma 800 (moA up), aL cL mb 800 (moA dn), oM mo th mw (nv : Int) mg ma mb (ns : Int) mlo mhi (nw : Int) mwe mru mrd, aL cL mw 160 (wkA (un re 6 (re 2 * re 3)))]
  obtain ⟨rf, hrf, f0, f6, f3⟩ : ∃ rf : Nat → Nat, rf = (un re 6 (re 2 * re 3)) ∧ rf 0 = up u * dn v ∧ rf 6 = up v * dn u ∧ rf 3 = dn u := ⟨(un re 6 (re 2 * re 3)), rfl, e0, (by show re 2 * re 3 = _; rw [e2, e3]), e3⟩
  refine z_wq (ws' := [aI cI mg 100 (sgA sg), aL cL ma 800 (moA up), aL cL mb 800 (moA dn), oM mo th mw (nv : Int) mg ma mb (ns : Int) mlo mhi (nw : Int) mwe mru mrd, aL cL mw 160 (wkA rf)]) (by rw [hrf]) ?_
  refine z_aload_n S d_M_sum_39 0 rfl ?_
  refine z_iload_n S d_M_sum_40 2 rfl ?_
  refine z_iconst S d_M_sum_41 ?_
  refine z_callVv (As := [.int (zI (v : Int)), .int (zI 2)]) (st := []) (wc := [oM mo th mw (nv : Int) mg ma mb (ns : Int) mlo mhi (nw : Int) mwe mru mrd, aL cL mw 160 (wkA rf), aL cL mb 800 (moA dn)]) (wr := [aI cI mg 100 (sgA sg), aL cL ma 800 (moA up)]) S hGok hK hg hA (s_M_loadDown l dC dI cI cL qT mo mw nv ma mb ns mlo mhi nw mwe mru mrd th mg rf dn v 2 (by omega) (by omega) (by omega)) (zcwV S (List.mem_cons_of_mem _ k_M_112) mV_M_loadDown k_M_112 hd_M_loadDown rfl rfl ⟨Nat.le_of_ble_eq_true rfl, Nat.le_of_ble_eq_true rfl⟩) rfl (Nat.le_of_ble_eq_true rfl) d_M_sum_42 ⟨Nat.le_of_ble_eq_true rfl, Nat.le_of_ble_eq_true rfl⟩ rfl [3, 4, 2] [0, 1] 3 rfl rfl rfl (by decide) rfl rfl rfl (by decide) (by decide) (fun w hp => ?_)
  subst hp
  show ZZ _ _ _ _ _ _ _ _ _ _ _ _ _ _ _ _ _ _ 45 [(0, .ref mo), (1, .int (zI (u : Int))), (2, .int (zI (v : Int))), (3, .int (zI tn))] [] [aI cI mg 100 (sgA sg), aL cL ma 800 (moA up), oM mo th mw (nv : Int) mg ma mb (ns : Int) mlo mhi (nw : Int) mwe mru mrd, aL cL mw 160 (wkA (un rf 2 (dn v))), aL cL mb 800 (moA dn)]
  obtain ⟨rg, hrg, g0, g6, g3, g2⟩ : ∃ rg : Nat → Nat, rg = (un rf 2 (dn v)) ∧ rg 0 = up u * dn v ∧ rg 6 = up v * dn u ∧ rg 3 = dn u ∧ rg 2 = dn v := ⟨(un rf 2 (dn v)), rfl, f0, f6, f3, rfl⟩
  refine z_wq (ws' := [aI cI mg 100 (sgA sg), aL cL ma 800 (moA up), oM mo th mw (nv : Int) mg ma mb (ns : Int) mlo mhi (nw : Int) mwe mru mrd, aL cL mw 160 (wkA rg), aL cL mb 800 (moA dn)]) (by rw [hrg]) ?_
  refine z_aload_n S d_M_sum_45 0 rfl ?_
  refine z_iconst S d_M_sum_46 ?_
  refine z_iconst S d_M_sum_47 ?_
  refine z_iconst S d_M_sum_48 ?_
  refine z_callVv (As := [.int (zI 2), .int (zI 3), .int (zI 1)]) (st := []) (wc := [oM mo th mw (nv : Int) mg ma mb (ns : Int) mlo mhi (nw : Int) mwe mru mrd, aL cL mw 160 (wkA rg)]) (wr := [aI cI mg 100 (sgA sg), aL cL ma 800 (moA up), aL cL mb 800 (moA dn)]) S hGok hK hg hA (s_M_multiply l dC dI cI cL qT mo mw nv ma mb ns mlo mhi nw mwe mru mrd th mg rg 2 3 1 (by omega) (by omega) (by omega) (by omega) (by omega) (by omega) (by omega) (by rw [g2, g3]; omega)) (zcwV S (List.mem_cons_of_mem _ k_M_115) mV_M_multiply k_M_115 hd_M_multiply rfl rfl ⟨Nat.le_of_ble_eq_true rfl, Nat.le_of_ble_eq_true rfl⟩) rfl (Nat.le_of_ble_eq_true rfl) d_M_sum_49 ⟨Nat.le_of_ble_eq_true rfl, Nat.le_of_ble_eq_true rfl⟩ rfl [2, 3] [0, 1, 4] 2 rfl rfl rfl (by decide) rfl rfl rfl (by decide) (by decide) (fun w hp => ?_)
  subst hp
  show ZZ _ _ _ _ _ _ _ _ _ _ _ _ _ _ _ _ _ _ 52 [(0, .ref mo), (1, .int (zI (u : Int))), (2, .int (zI (v : Int))), (3, .int (zI tn))] [] [aI cI mg 100 (sgA sg), aL cL ma 800 (moA up), aL cL mb 800 (moA dn), oM mo th mw (nv : Int) mg ma mb (ns : Int) mlo mhi (nw : Int) mwe mru mrd, aL cL mw 160 (wkA (un rg 1 (rg 2 * rg 3)))]
  obtain ⟨rh, hrh, h0, h6, h1⟩ : ∃ rh : Nat → Nat, rh = (un rg 1 (rg 2 * rg 3)) ∧ rh 0 = up u * dn v ∧ rh 6 = up v * dn u ∧ rh 1 = dn u * dn v := ⟨(un rg 1 (rg 2 * rg 3)), rfl, g0, g6, (by show rg 2 * rg 3 = _; rw [g2, g3, Nat.mul_comm])⟩
  refine z_wq (ws' := [aI cI mg 100 (sgA sg), aL cL ma 800 (moA up), aL cL mb 800 (moA dn), oM mo th mw (nv : Int) mg ma mb (ns : Int) mlo mhi (nw : Int) mwe mru mrd, aL cL mw 160 (wkA rh)]) (by rw [hrh]) ?_
  have hcr := cmpN_r (rh 0) (rh 6)
  refine z_aload_n S d_M_sum_52 0 rfl ?_
  refine z_get S hK la_M 3 rfl rfl 3 (by decide) k_M_13 rfl d_M_sum_53 ?_
  refine z_iload_n S d_M_sum_56 1 rfl ?_
  refine z_iald (x := sg u) S hK 0 0 rfl rfl u rfl (by omega) (by decide) rfl d_M_sum_57 ?_
  refine z_istore (lv' := [(4, .int (zI (sg u))), (0, .ref mo), (1, .int (zI (u : Int))), (2, .int (zI (v : Int))), (3, .int (zI tn))]) S d_M_sum_58 (by decide) rfl ?_
  refine z_iload_n S d_M_sum_60 4 rfl ?_
  refine z_aload_n S d_M_sum_61 1 rfl ?_
  refine z_get S hK la_M 3 rfl rfl 3 (by decide) k_M_13 rfl d_M_sum_62 ?_
  refine z_iload_n S d_M_sum_65 3 rfl ?_
  refine z_iald (x := sg v) S hK 0 0 rfl rfl v rfl (by omega) (by decide) rfl d_M_sum_66 ?_
  refine z_imul S d_M_sum_67 ?_
  refine z_topi (fun y2 hy2 => ?_)
  have hyr : -1 ≤ y2 ∧ y2 ≤ 1 := by rcases htn with z | z <;> rw [hy2, z] <;> omega
  have hxr := sg_mul bu3 hyr
  refine z_istore (lv' := [(5, .int (zI y2)), (4, .int (zI (sg u))), (0, .ref mo), (1, .int (zI (u : Int))), (2, .int (zI (v : Int))), (3, .int (zI tn))]) S d_M_sum_68 (by decide) rfl ?_
  refine z_iload S d_M_sum_70 1 rfl ?_
  refine z_iload S d_M_sum_72 0 rfl ?_
  refine z_imul S d_M_sum_74 ?_
  refine z_if_lt (tgt := 98) S d_M_sum_75 (by decide) (by omega) (fun c1 => ?_) (fun c1 => ?_)
  · skip
    refine z_aload_n S d_M_sum_98 2 rfl ?_
    refine z_iconst S d_M_sum_99 ?_
    refine z_bipush S d_M_sum_100 rfl ?_
    refine z_callVa (As := [.int (zI 0), .int (zI 6)]) (st := []) (wc := [oM mo th mw (nv : Int) mg ma mb (ns : Int) mlo mhi (nw : Int) mwe mru mrd, aL cL mw 160 (wkA rh)]) (wr := [aI cI mg 100 (sgA sg), aL cL ma 800 (moA up), aL cL mb 800 (moA dn)]) S hGok hK hg hA (s_M_compare l dC dI cI cL qT mo mw nv ma mb ns mlo mhi nw mwe mru mrd th mg rh 0 6 (by omega) (by omega) (by omega) (by omega)) (zcwV S (List.mem_cons_of_mem _ k_M_80) mV_M_compare k_M_80 hd_M_compare rfl rfl ⟨Nat.le_of_ble_eq_true rfl, Nat.le_of_ble_eq_true rfl⟩) rfl (Nat.le_of_ble_eq_true rfl) d_M_sum_102 ⟨Nat.le_of_ble_eq_true rfl, Nat.le_of_ble_eq_true rfl⟩ rfl [3, 4] [0, 1, 2] 3 rfl rfl rfl (by decide) rfl rfl rfl (by decide) (by decide) (fun x w hp => ?_)
    obtain ⟨rfl, rfl⟩ := hp
    show ZZ _ _ _ _ _ _ _ _ _ _ _ _ _ _ _ _ _ _ 105 [(5, .int (zI y2)), (4, .int (zI (sg u))), (0, .ref mo), (1, .int (zI (u : Int))), (2, .int (zI (v : Int))), (3, .int (zI tn))] [.int (zI (cmpN (rh 0) (rh 6)))] [aI cI mg 100 (sgA sg), aL cL ma 800 (moA up), aL cL mb 800 (moA dn), oM mo th mw (nv : Int) mg ma mb (ns : Int) mlo mhi (nw : Int) mwe mru mrd, aL cL mw 160 (wkA rh)]
    refine z_if_lt (tgt := 118) S d_M_sum_105 (by decide) (by omega) (fun c2 => ?_) (fun c2 => ?_)
    · skip
      have hge : ¬ up v * dn u ≤ up u * dn v := fun z => by
        have hcc : cmpN (rh 0) (rh 6) < 0 := by omega
        rw [h0, h6] at hcc
        have := cmpN_neg hcc
        omega
      refine z_aload_n S d_M_sum_118 2 rfl ?_
      refine z_bipush S d_M_sum_119 rfl ?_
      refine z_iconst S d_M_sum_121 ?_
      refine z_callVv (As := [.int (zI 6), .int (zI 0)]) (st := []) (wc := [oM mo th mw (nv : Int) mg ma mb (ns : Int) mlo mhi (nw : Int) mwe mru mrd, aL cL mw 160 (wkA rh)]) (wr := [aI cI mg 100 (sgA sg), aL cL ma 800 (moA up), aL cL mb 800 (moA dn)]) S hGok hK hg hA (s_M_takesOff l dC dI cI cL qT mo mw nv ma mb ns mlo mhi nw mwe mru mrd th mg rh 6 0 (by omega) (by omega) (by omega) (by rw [h0, h6]; omega)) (zcwV S (List.mem_cons_of_mem _ k_M_84) mV_M_takesOff k_M_84 hd_M_takesOff rfl rfl ⟨Nat.le_of_ble_eq_true rfl, Nat.le_of_ble_eq_true rfl⟩) rfl (Nat.le_of_ble_eq_true rfl) d_M_sum_122 ⟨Nat.le_of_ble_eq_true rfl, Nat.le_of_ble_eq_true rfl⟩ rfl [3, 4] [0, 1, 2] 3 rfl rfl rfl (by decide) rfl rfl rfl (by decide) (by decide) (fun w hp => ?_)
      subst hp
      show ZZ _ _ _ _ _ _ _ _ _ _ _ _ _ _ _ _ _ _ 125 [(5, .int (zI y2)), (4, .int (zI (sg u))), (0, .ref mo), (1, .int (zI (u : Int))), (2, .int (zI (v : Int))), (3, .int (zI tn))] [] [aI cI mg 100 (sgA sg), aL cL ma 800 (moA up), aL cL mb 800 (moA dn), oM mo th mw (nv : Int) mg ma mb (ns : Int) mlo mhi (nw : Int) mwe mru mrd, aL cL mw 160 (wkA (un rh 6 (rh 6 - rh 0)))]
      obtain ⟨ri, hri, i6, i1⟩ : ∃ ri : Nat → Nat, ri = (un rh 6 (rh 6 - rh 0)) ∧ ri 6 = rh 6 - rh 0 ∧ ri 1 = dn u * dn v := ⟨(un rh 6 (rh 6 - rh 0)), rfl, rfl, h1⟩
      refine z_wq (ws' := [aI cI mg 100 (sgA sg), aL cL ma 800 (moA up), aL cL mb 800 (moA dn), oM mo th mw (nv : Int) mg ma mb (ns : Int) mlo mhi (nw : Int) mwe mru mrd, aL cL mw 160 (wkA ri)]) (by rw [hri]) ?_
      refine z_aload_n S d_M_sum_125 2 rfl ?_
      refine z_bipush S d_M_sum_126 rfl ?_
      refine z_iconst S d_M_sum_128 ?_
      refine z_callVv (As := [.int (zI 6), .int (zI 0)]) (st := []) (wc := [oM mo th mw (nv : Int) mg ma mb (ns : Int) mlo mhi (nw : Int) mwe mru mrd, aL cL mw 160 (wkA ri)]) (wr := [aI cI mg 100 (sgA sg), aL cL ma 800 (moA up), aL cL mb 800 (moA dn)]) S hGok hK hg hA (s_M_copy l dC dI cI cL qT mo mw nv ma mb ns mlo mhi nw mwe mru mrd th mg ri 6 0 (by omega) (by omega)) (zcwV S (List.mem_cons_of_mem _ k_M_95) mV_M_copy k_M_95 hd_M_copy rfl rfl ⟨Nat.le_of_ble_eq_true rfl, Nat.le_of_ble_eq_true rfl⟩) rfl (Nat.le_of_ble_eq_true rfl) d_M_sum_129 ⟨Nat.le_of_ble_eq_true rfl, Nat.le_of_ble_eq_true rfl⟩ rfl [3, 4] [0, 1, 2] 3 rfl rfl rfl (by decide) rfl rfl rfl (by decide) (by decide) (fun w hp => ?_)
      subst hp
      show ZZ _ _ _ _ _ _ _ _ _ _ _ _ _ _ _ _ _ _ 132 [(5, .int (zI y2)), (4, .int (zI (sg u))), (0, .ref mo), (1, .int (zI (u : Int))), (2, .int (zI (v : Int))), (3, .int (zI tn))] [] [aI cI mg 100 (sgA sg), aL cL ma 800 (moA up), aL cL mb 800 (moA dn), oM mo th mw (nv : Int) mg ma mb (ns : Int) mlo mhi (nw : Int) mwe mru mrd, aL cL mw 160 (wkA (un ri 0 (ri 6)))]
      refine z_iload S d_M_sum_132 0 rfl ?_
      have hc : ¬ 0 ≤ sg u * y2 := by omega
      exact z_iret (w := [oM mo th mw (nv : Int) mg ma mb (ns : Int) mlo mhi (nw : Int) mwe mru mrd, aL cL mw 160 (wkA (un ri 0 (ri 6))), aI cI mg 100 (sgA sg), aL cL ma 800 (moA up), aL cL mb 800 (moA dn)]) S hr hlo hAe d_M_sum_134 [3, 4, 0, 1, 2] (by decide) rfl rfl ⟨Nat.le_refl _, Nat.le_refl _⟩ (⟨un ri 0 (ri 6), (by show ri 6 = _; rw [i6, h0, h6, ← hy2]; unfold suN; rw [if_neg hc, if_neg hge]), i1, (by rw [← hy2]; unfold smS; rw [if_neg hc, if_neg hge]), rfl⟩)
    · skip
      have hge : up v * dn u ≤ up u * dn v := by
        have hcc : ¬ cmpN (rh 0) (rh 6) < 0 := by omega
        rw [h0, h6] at hcc
        rcases Nat.lt_or_ge (up u * dn v) (up v * dn u) with z | z
        · rw [cmpN_lt z] at hcc; omega
        · exact z
      refine z_aload_n S d_M_sum_108 2 rfl ?_
      refine z_iconst S d_M_sum_109 ?_
      refine z_bipush S d_M_sum_110 rfl ?_
      refine z_callVv (As := [.int (zI 0), .int (zI 6)]) (st := []) (wc := [oM mo th mw (nv : Int) mg ma mb (ns : Int) mlo mhi (nw : Int) mwe mru mrd, aL cL mw 160 (wkA rh)]) (wr := [aI cI mg 100 (sgA sg), aL cL ma 800 (moA up), aL cL mb 800 (moA dn)]) S hGok hK hg hA (s_M_takesOff l dC dI cI cL qT mo mw nv ma mb ns mlo mhi nw mwe mru mrd th mg rh 0 6 (by omega) (by omega) (by omega) (by rw [h0, h6]; omega)) (zcwV S (List.mem_cons_of_mem _ k_M_84) mV_M_takesOff k_M_84 hd_M_takesOff rfl rfl ⟨Nat.le_of_ble_eq_true rfl, Nat.le_of_ble_eq_true rfl⟩) rfl (Nat.le_of_ble_eq_true rfl) d_M_sum_112 ⟨Nat.le_of_ble_eq_true rfl, Nat.le_of_ble_eq_true rfl⟩ rfl [3, 4] [0, 1, 2] 3 rfl rfl rfl (by decide) rfl rfl rfl (by decide) (by decide) (fun w hp => ?_)
      subst hp
      show ZZ _ _ _ _ _ _ _ _ _ _ _ _ _ _ _ _ _ _ 115 [(5, .int (zI y2)), (4, .int (zI (sg u))), (0, .ref mo), (1, .int (zI (u : Int))), (2, .int (zI (v : Int))), (3, .int (zI tn))] [] [aI cI mg 100 (sgA sg), aL cL ma 800 (moA up), aL cL mb 800 (moA dn), oM mo th mw (nv : Int) mg ma mb (ns : Int) mlo mhi (nw : Int) mwe mru mrd, aL cL mw 160 (wkA (un rh 0 (rh 0 - rh 6)))]
      refine z_iload S d_M_sum_115 1 rfl ?_
      have hc : ¬ 0 ≤ sg u * y2 := by omega
      exact z_iret (w := [oM mo th mw (nv : Int) mg ma mb (ns : Int) mlo mhi (nw : Int) mwe mru mrd, aL cL mw 160 (wkA (un rh 0 (rh 0 - rh 6))), aI cI mg 100 (sgA sg), aL cL ma 800 (moA up), aL cL mb 800 (moA dn)]) S hr hlo hAe d_M_sum_117 [3, 4, 0, 1, 2] (by decide) rfl rfl ⟨Nat.le_refl _, Nat.le_refl _⟩ (⟨un rh 0 (rh 0 - rh 6), (by show rh 0 - rh 6 = _; rw [h0, h6, ← hy2]; unfold suN; rw [if_neg hc, if_pos hge]), h1, (by rw [← hy2]; unfold smS; rw [if_neg hc, if_pos hge]), rfl⟩)
  · skip
    refine z_aload_n S d_M_sum_78 2 rfl ?_
    refine z_iconst S d_M_sum_79 ?_
    refine z_bipush S d_M_sum_80 rfl ?_
    refine z_callVv (As := [.int (zI 0), .int (zI 6)]) (st := []) (wc := [oM mo th mw (nv : Int) mg ma mb (ns : Int) mlo mhi (nw : Int) mwe mru mrd, aL cL mw 160 (wkA rh)]) (wr := [aI cI mg 100 (sgA sg), aL cL ma 800 (moA up), aL cL mb 800 (moA dn)]) S hGok hK hg hA (s_M_adds l dC dI cI cL qT mo mw nv ma mb ns mlo mhi nw mwe mru mrd th mg rh 0 6 (by omega) (by omega) (by omega)) (zcwV S (List.mem_cons_of_mem _ k_M_88) mV_M_adds k_M_88 hd_M_adds rfl rfl ⟨Nat.le_of_ble_eq_true rfl, Nat.le_of_ble_eq_true rfl⟩) rfl (Nat.le_of_ble_eq_true rfl) d_M_sum_82 ⟨Nat.le_of_ble_eq_true rfl, Nat.le_of_ble_eq_true rfl⟩ rfl [3, 4] [0, 1, 2] 3 rfl rfl rfl (by decide) rfl rfl rfl (by decide) (by decide) (fun w hp => ?_)
    subst hp
    show ZZ _ _ _ _ _ _ _ _ _ _ _ _ _ _ _ _ _ _ 85 [(5, .int (zI y2)), (4, .int (zI (sg u))), (0, .ref mo), (1, .int (zI (u : Int))), (2, .int (zI (v : Int))), (3, .int (zI tn))] [] [aI cI mg 100 (sgA sg), aL cL ma 800 (moA up), aL cL mb 800 (moA dn), oM mo th mw (nv : Int) mg ma mb (ns : Int) mlo mhi (nw : Int) mwe mru mrd, aL cL mw 160 (wkA (un rh 0 (rh 0 + rh 6)))]
    refine z_iload S d_M_sum_85 1 rfl ?_
    refine z_if_eq (tgt := 95) S d_M_sum_87 (by decide) (by omega) (fun c3 => ?_) (fun c3 => ?_)
    · skip
      refine z_iload S d_M_sum_95 0 rfl ?_
      have hc : 0 ≤ sg u * y2 := by omega
      exact z_iret (w := [oM mo th mw (nv : Int) mg ma mb (ns : Int) mlo mhi (nw : Int) mwe mru mrd, aL cL mw 160 (wkA (un rh 0 (rh 0 + rh 6))), aI cI mg 100 (sgA sg), aL cL ma 800 (moA up), aL cL mb 800 (moA dn)]) S hr hlo hAe d_M_sum_97 [3, 4, 0, 1, 2] (by decide) rfl rfl ⟨Nat.le_refl _, Nat.le_refl _⟩ (⟨un rh 0 (rh 0 + rh 6), (by show rh 0 + rh 6 = _; rw [h0, h6, ← hy2]; unfold suN; rw [if_pos hc]), h1, (by rw [← hy2]; unfold smS; rw [if_pos hc, if_pos (by omega)]), rfl⟩)
    · skip
      refine z_iload S d_M_sum_90 1 rfl ?_
      refine z_goto (tgt := 97) S d_M_sum_92 (by decide) ?_
      have hc : 0 ≤ sg u * y2 := by omega
      exact z_iret (w := [oM mo th mw (nv : Int) mg ma mb (ns : Int) mlo mhi (nw : Int) mwe mru mrd, aL cL mw 160 (wkA (un rh 0 (rh 0 + rh 6))), aI cI mg 100 (sgA sg), aL cL ma 800 (moA up), aL cL mb 800 (moA dn)]) S hr hlo hAe d_M_sum_97 [3, 4, 0, 1, 2] (by decide) rfl rfl ⟨Nat.le_refl _, Nat.le_refl _⟩ (⟨un rh 0 (rh 0 + rh 6), (by show rh 0 + rh 6 = _; rw [h0, h6, ← hy2]; unfold suN; rw [if_pos hc]), h1, (by rw [← hy2]; unfold smS; rw [if_pos hc, if_neg (by omega)]), rfl⟩)
set_option maxHeartbeats 4000000 in
set_option maxRecDepth 100000 in
theorem s_M_product (l : Launch) (dC : Nat → ClassId) (dI : Nat → Nat → Nat) (cI cL : ClassId) (qT : Nat) (mo : Nat) (mw : Nat) (nv : Nat) (ma : Nat) (mb : Nat) (ns : Nat) (mlo : Nat) (mhi : Nat) (nw : Nat) (mwe : Nat) (mru : Nat) (mrd : Nat) (th : Int) (mg : Nat) (rr : Nat → Nat) (sg : Nat → Int) (up : Nat → Nat) (dn : Nat → Nat) (u : Nat) (v : Nat) (hu : u < 100) (hv : v < 100) (bu1 : up u < 10 ^ 48) (bu2 : dn u < 10 ^ 48) (bu3 : -1 ≤ sg u ∧ sg u ≤ 1) (bv1 : up v < 10 ^ 48) (bv2 : dn v < 10 ^ 48) (bv3 : -1 ≤ sg v ∧ sg v ≤ 1) : Ct l y_M_product (Cond.code y_M_product c_M_product 3 (some .int) :: zB) { frames := 2, cells := 0, slots := 0, locals := 53 } (dC, dI) zcl [(cI, .int), (cL, .long)] (zG cI cL qT) [.ref mo, .int (zI (u : Int)), .int (zI (v : Int))] [oM mo th mw (nv : Int) mg ma mb (ns : Int) mlo mhi (nw : Int) mwe mru mrd, aL cL mw 160 (wkA rr), aI cI mg 100 (sgA sg), aL cL ma 800 (moA up), aL cL mb 800 (moA dn)] (fun rv wv => ∃ rr2 : Nat → Nat, (rr2 0 = up u * up v) ∧ (rr2 1 = dn u * dn v) ∧ rv = .int (zI (sg u * sg v)) ∧ wv = [oM mo th mw (nv : Int) mg ma mb (ns : Int) mlo mhi (nw : Int) mwe mru mrd, aL cL mw 160 (wkA rr2), aI cI mg 100 (sgA sg), aL cL ma 800 (moA up), aL cL mb 800 (moA dn)]) 0 0 := by
  refine Cm.ofZ (cc := c_M_product) (maxL := 3) (ret := (some .int)) (by decide) rfl (Nat.le_of_ble_eq_true rfl) rfl ?_
  intro p e s m below meth c A S hr hlo hnm hK hg hA hAe
  have hGok := zG_ok cI cL qT
  show ZZ _ _ _ _ _ _ _ _ _ _ _ _ _ _ _ _ _ _ 0 [(0, .ref mo), (1, .int (zI (u : Int))), (2, .int (zI (v : Int)))] [] [oM mo th mw (nv : Int) mg ma mb (ns : Int) mlo mhi (nw : Int) mwe mru mrd, aL cL mw 160 (wkA rr), aI cI mg 100 (sgA sg), aL cL ma 800 (moA up), aL cL mb 800 (moA dn)]
  have m1 := mul96 bu1 bv1
  have m3 := mul96 bu2 bv2
  refine z_aload_n S d_M_product_0 0 rfl ?_
  refine z_iload_n S d_M_product_1 1 rfl ?_
  refine z_iconst S d_M_product_2 ?_
  refine z_callVv (As := [.int (zI (u : Int)), .int (zI 2)]) (st := []) (wc := [oM mo th mw (nv : Int) mg ma mb (ns : Int) mlo mhi (nw : Int) mwe mru mrd, aL cL mw 160 (wkA rr), aL cL ma 800 (moA up)]) (wr := [aI cI mg 100 (sgA sg), aL cL mb 800 (moA dn)]) S hGok hK hg hA (s_M_loadUp l dC dI cI cL qT mo mw nv ma mb ns mlo mhi nw mwe mru mrd th mg rr up u 2 (by omega) (by omega) (by omega)) (zcwV S (List.mem_cons_of_mem _ k_M_109) mV_M_loadUp k_M_109 hd_M_loadUp rfl rfl ⟨Nat.le_of_ble_eq_true rfl, Nat.le_of_ble_eq_true rfl⟩) rfl (Nat.le_of_ble_eq_true rfl) d_M_product_3 ⟨Nat.le_of_ble_eq_true rfl, Nat.le_of_ble_eq_true rfl⟩ rfl [0, 1, 3] [2, 4] 0 rfl rfl rfl (by decide) rfl rfl rfl (by decide) (by decide) (fun w hp => ?_)
  subst hp
  show ZZ _ _ _ _ _ _ _ _ _ _ _ _ _ _ _ _ _ _ 6 [(0, .ref mo), (1, .int (zI (u : Int))), (2, .int (zI (v : Int)))] [] [aI cI mg 100 (sgA sg), aL cL mb 800 (moA dn), oM mo th mw (nv : Int) mg ma mb (ns : Int) mlo mhi (nw : Int) mwe mru mrd, aL cL mw 160 (wkA (un rr 2 (up u))), aL cL ma 800 (moA up)]
  obtain ⟨ra, hra, a2⟩ : ∃ ra : Nat → Nat, ra = (un rr 2 (up u)) ∧ ra 2 = up u := ⟨(un rr 2 (up u)), rfl, rfl⟩
  refine z_wq (ws' := [aI cI mg 100 (sgA sg), aL cL mb 800 (moA dn), oM mo th mw (nv : Int) mg ma mb (ns : Int) mlo mhi (nw : Int) mwe mru mrd, aL cL mw 160 (wkA ra), aL cL ma 800 (moA up)]) (by rw [hra]) ?_
  refine z_aload_n S d_M_product_6 0 rfl ?_
  refine z_iload_n S d_M_product_7 2 rfl ?_
  refine z_iconst S d_M_product_8 ?_
  refine z_callVv (As := [.int (zI (v : Int)), .int (zI 3)]) (st := []) (wc := [oM mo th mw (nv : Int) mg ma mb (ns : Int) mlo mhi (nw : Int) mwe mru mrd, aL cL mw 160 (wkA ra), aL cL ma 800 (moA up)]) (wr := [aI cI mg 100 (sgA sg), aL cL mb 800 (moA dn)]) S hGok hK hg hA (s_M_loadUp l dC dI cI cL qT mo mw nv ma mb ns mlo mhi nw mwe mru mrd th mg ra up v 3 (by omega) (by omega) (by omega)) (zcwV S (List.mem_cons_of_mem _ k_M_109) mV_M_loadUp k_M_109 hd_M_loadUp rfl rfl ⟨Nat.le_of_ble_eq_true rfl, Nat.le_of_ble_eq_true rfl⟩) rfl (Nat.le_of_ble_eq_true rfl) d_M_product_9 ⟨Nat.le_of_ble_eq_true rfl, Nat.le_of_ble_eq_true rfl⟩ rfl [2, 3, 4] [0, 1] 2 rfl rfl rfl (by decide) rfl rfl rfl (by decide) (by decide) (fun w hp => ?_)
  subst hp
  show ZZ _ _ _ _ _ _ _ _ _ _ _ _ _ _ _ _ _ _ 12 [(0, .ref mo), (1, .int (zI (u : Int))), (2, .int (zI (v : Int)))] [] [aI cI mg 100 (sgA sg), aL cL mb 800 (moA dn), oM mo th mw (nv : Int) mg ma mb (ns : Int) mlo mhi (nw : Int) mwe mru mrd, aL cL mw 160 (wkA (un ra 3 (up v))), aL cL ma 800 (moA up)]
  obtain ⟨rb, hrb, b2_, b3_⟩ : ∃ rb : Nat → Nat, rb = (un ra 3 (up v)) ∧ rb 2 = up u ∧ rb 3 = up v := ⟨(un ra 3 (up v)), rfl, a2, rfl⟩
  refine z_wq (ws' := [aI cI mg 100 (sgA sg), aL cL mb 800 (moA dn), oM mo th mw (nv : Int) mg ma mb (ns : Int) mlo mhi (nw : Int) mwe mru mrd, aL cL mw 160 (wkA rb), aL cL ma 800 (moA up)]) (by rw [hrb]) ?_
  refine z_aload_n S d_M_product_12 0 rfl ?_
  refine z_iconst S d_M_product_13 ?_
  refine z_iconst S d_M_product_14 ?_
  refine z_iconst S d_M_product_15 ?_
  refine z_callVv (As := [.int (zI 2), .int (zI 3), .int (zI 0)]) (st := []) (wc := [oM mo th mw (nv : Int) mg ma mb (ns : Int) mlo mhi (nw : Int) mwe mru mrd, aL cL mw 160 (wkA rb)]) (wr := [aI cI mg 100 (sgA sg), aL cL mb 800 (moA dn), aL cL ma 800 (moA up)]) S hGok hK hg hA (s_M_multiply l dC dI cI cL qT mo mw nv ma mb ns mlo mhi nw mwe mru mrd th mg rb 2 3 0 (by omega) (by omega) (by omega) (by omega) (by omega) (by omega) (by omega) (by rw [b2_, b3_]; omega)) (zcwV S (List.mem_cons_of_mem _ k_M_115) mV_M_multiply k_M_115 hd_M_multiply rfl rfl ⟨Nat.le_of_ble_eq_true rfl, Nat.le_of_ble_eq_true rfl⟩) rfl (Nat.le_of_ble_eq_true rfl) d_M_product_16 ⟨Nat.le_of_ble_eq_true rfl, Nat.le_of_ble_eq_true rfl⟩ rfl [2, 3] [0, 1, 4] 2 rfl rfl rfl (by decide) rfl rfl rfl (by decide) (by decide) (fun w hp => ?_)
  subst hp
  show ZZ _ _ _ _ _ _ _ _ _ _ _ _ _ _ _ _ _ _ 19 [(0, .ref mo), (1, .int (zI (u : Int))), (2, .int (zI (v : Int)))] [] [aI cI mg 100 (sgA sg), aL cL mb 800 (moA dn), aL cL ma 800 (moA up), oM mo th mw (nv : Int) mg ma mb (ns : Int) mlo mhi (nw : Int) mwe mru mrd, aL cL mw 160 (wkA (un rb 0 (rb 2 * rb 3)))]
  obtain ⟨rc, hrc, c0⟩ : ∃ rc : Nat → Nat, rc = (un rb 0 (rb 2 * rb 3)) ∧ rc 0 = up u * up v := ⟨(un rb 0 (rb 2 * rb 3)), rfl, (by show rb 2 * rb 3 = _; rw [b2_, b3_])⟩
  refine z_wq (ws' := [aI cI mg 100 (sgA sg), aL cL mb 800 (moA dn), aL cL ma 800 (moA up), oM mo th mw (nv : Int) mg ma mb (ns : Int) mlo mhi (nw : Int) mwe mru mrd, aL cL mw 160 (wkA rc)]) (by rw [hrc]) ?_
  refine z_aload_n S d_M_product_19 0 rfl ?_
  refine z_iload_n S d_M_product_20 1 rfl ?_
  refine z_iconst S d_M_product_21 ?_
  refine z_callVv (As := [.int (zI (u : Int)), .int (zI 2)]) (st := []) (wc := [oM mo th mw (nv : Int) mg ma mb (ns : Int) mlo mhi (nw : Int) mwe mru mrd, aL cL mw 160 (wkA rc), aL cL mb 800 (moA dn)]) (wr := [aI cI mg 100 (sgA sg), aL cL ma 800 (moA up)]) S hGok hK hg hA (s_M_loadDown l dC dI cI cL qT mo mw nv ma mb ns mlo mhi nw mwe mru mrd th mg rc dn u 2 (by omega) (by omega) (by omega)) (zcwV S (List.mem_cons_of_mem _ k_M_112) mV_M_loadDown k_M_112 hd_M_loadDown rfl rfl ⟨Nat.le_of_ble_eq_true rfl, Nat.le_of_ble_eq_true rfl⟩) rfl (Nat.le_of_ble_eq_true rfl) d_M_product_22 ⟨Nat.le_of_ble_eq_true rfl, Nat.le_of_ble_eq_true rfl⟩ rfl [3, 4, 1] [0, 2] 3 rfl rfl rfl (by decide) rfl rfl rfl (by decide) (by decide) (fun w hp => ?_)
  subst hp
  show ZZ _ _ _ _ _ _ _ _ _ _ _ _ _ _ _ _ _ _ 25 [(0, .ref mo), (1, .int (zI (u : Int))), (2, .int (zI (v : Int)))] [] [aI cI mg 100 (sgA sg), aL cL ma 800 (moA up), oM mo th mw (nv : Int) mg ma mb (ns : Int) mlo mhi (nw : Int) mwe mru mrd, aL cL mw 160 (wkA (un rc 2 (dn u))), aL cL mb 800 (moA dn)]
  obtain ⟨rd, hrd, d0, d2⟩ : ∃ rd : Nat → Nat, rd = (un rc 2 (dn u)) ∧ rd 0 = up u * up v ∧ rd 2 = dn u := ⟨(un rc 2 (dn u)), rfl, c0, rfl⟩
  refine z_wq (ws' := [aI cI mg 100 (sgA sg), aL cL ma 800 (moA up), oM mo th mw (nv : Int) mg ma mb (ns : Int) mlo mhi (nw : Int) mwe mru mrd, aL cL mw 160 (wkA rd), aL cL mb 800 (moA dn)]) (by rw [hrd]) ?_
  refine z_aload_n S d_M_product_25 0 rfl ?_
  refine z_iload_n S d_M_product_26 2 rfl ?_
  refine z_iconst S d_M_product_27 ?_
  refine z_callVv (As := [.int (zI (v : Int)), .int (zI 3)]) (st := []) (wc := [oM mo th mw (nv : Int) mg ma mb (ns : Int) mlo mhi (nw : Int) mwe mru mrd, aL cL mw 160 (wkA rd), aL cL mb 800 (moA dn)]) (wr := [aI cI mg 100 (sgA sg), aL cL ma 800 (moA up)]) S hGok hK hg hA (s_M_loadDown l dC dI cI cL qT mo mw nv ma mb ns mlo mhi nw mwe mru mrd th mg rd dn v 3 (by omega) (by omega) (by omega)) (zcwV S (List.mem_cons_of_mem _ k_M_112) mV_M_loadDown k_M_112 hd_M_loadDown rfl rfl ⟨Nat.le_of_ble_eq_true rfl, Nat.le_of_ble_eq_true rfl⟩) rfl (Nat.le_of_ble_eq_true rfl) d_M_product_28 ⟨Nat.le_of_ble_eq_true rfl, Nat.le_of_ble_eq_true rfl⟩ rfl [2, 3, 4] [0, 1] 2 rfl rfl rfl (by decide) rfl rfl rfl (by decide) (by decide) (fun w hp => ?_)
  subst hp
  show ZZ _ _ _ _ _ _ _ _ _ _ _ _ _ _ _ _ _ _ 31 [(0, .ref mo), (1, .int (zI (u : Int))), (2, .int (zI (v : Int)))] [] [aI cI mg 100 (sgA sg), aL cL ma 800 (moA up), oM mo th mw (nv : Int) mg ma mb (ns : Int) mlo mhi (nw : Int) mwe mru mrd, aL cL mw 160 (wkA (un rd 3 (dn v))), aL cL mb 800 (moA dn)]
  obtain ⟨re, hre, e0, e2, e3⟩ : ∃ re : Nat → Nat, re = (un rd 3 (dn v)) ∧ re 0 = up u * up v ∧ re 2 = dn u ∧ re 3 = dn v := ⟨(un rd 3 (dn v)), rfl, d0, d2, rfl⟩
  refine z_wq (ws' := [aI cI mg 100 (sgA sg), aL cL ma 800 (moA up), oM mo th mw (nv : Int) mg ma mb (ns : Int) mlo mhi (nw : Int) mwe mru mrd, aL cL mw 160 (wkA re), aL cL mb 800 (moA dn)]) (by rw [hre]) ?_
  refine z_aload_n S d_M_product_31 0 rfl ?_
  refine z_iconst S d_M_product_32 ?_
  refine z_iconst S d_M_product_33 ?_
  refine z_iconst S d_M_product_34 ?_
  refine z_callVv (As := [.int (zI 2), .int (zI 3), .int (zI 1)]) (st := []) (wc := [oM mo th mw (nv : Int) mg ma mb (ns : Int) mlo mhi (nw : Int) mwe mru mrd, aL cL mw 160 (wkA re)]) (wr := [aI cI mg 100 (sgA sg), aL cL ma 800 (moA up), aL cL mb 800 (moA dn)]) S hGok hK hg hA (s_M_multiply l dC dI cI cL qT mo mw nv ma mb ns mlo mhi nw mwe mru mrd th mg re 2 3 1 (by omega) (by omega) (by omega) (by omega) (by omega) (by omega) (by omega) (by rw [e2, e3]; omega)) (zcwV S (List.mem_cons_of_mem _ k_M_115) mV_M_multiply k_M_115 hd_M_multiply rfl rfl ⟨Nat.le_of_ble_eq_true rfl, Nat.le_of_ble_eq_true rfl⟩) rfl (Nat.le_of_ble_eq_true rfl) d_M_product_35 ⟨Nat.le_of_ble_eq_true rfl, Nat.le_of_ble_eq_true rfl⟩ rfl [2, 3] [0, 1, 4] 2 rfl rfl rfl (by decide) rfl rfl rfl (by decide) (by decide) (fun w hp => ?_)
  subst hp
  show ZZ _ _ _ _ _ _ _ _ _ _ _ _ _ _ _ _ _ _ 38 [(0, .ref mo), (1, .int (zI (u : Int))), (2, .int (zI (v : Int)))] [] [aI cI mg 100 (sgA sg), aL cL ma 800 (moA up), aL cL mb 800 (moA dn), oM mo th mw (nv : Int) mg ma mb (ns : Int) mlo mhi (nw : Int) mwe mru mrd, aL cL mw 160 (wkA (un re 1 (re 2 * re 3)))]
  obtain ⟨rf, hrf, f0, f1⟩ : ∃ rf : Nat → Nat, rf = (un re 1 (re 2 * re 3)) ∧ rf 0 = up u * up v ∧ rf 1 = dn u * dn v := ⟨(un re 1 (re 2 * re 3)), rfl, e0, (by show re 2 * re 3 = _; rw [e2, e3])⟩
  refine z_wq (ws' := [aI cI mg 100 (sgA sg), aL cL ma 800 (moA up), aL cL mb 800 (moA dn), oM mo th mw (nv : Int) mg ma mb (ns : Int) mlo mhi (nw : Int) mwe mru mrd, aL cL mw 160 (wkA rf)]) (by rw [hrf]) ?_
  refine z_aload_n S d_M_product_38 0 rfl ?_
  refine z_get S hK la_M 3 rfl rfl 3 (by decide) k_M_13 rfl d_M_product_39 ?_
  refine z_iload_n S d_M_product_42 1 rfl ?_
  refine z_iald (x := sg u) S hK 0 0 rfl rfl u rfl (by omega) (by decide) rfl d_M_product_43 ?_
  refine z_aload_n S d_M_product_44 0 rfl ?_
  refine z_get S hK la_M 3 rfl rfl 3 (by decide) k_M_13 rfl d_M_product_45 ?_
  refine z_iload_n S d_M_product_48 2 rfl ?_
  refine z_iald (x := sg v) S hK 0 0 rfl rfl v rfl (by omega) (by decide) rfl d_M_product_49 ?_
  refine z_imul S d_M_product_50 ?_
  exact z_iret (w := [oM mo th mw (nv : Int) mg ma mb (ns : Int) mlo mhi (nw : Int) mwe mru mrd, aL cL mw 160 (wkA rf), aI cI mg 100 (sgA sg), aL cL ma 800 (moA up), aL cL mb 800 (moA dn)]) S hr hlo hAe d_M_product_51 [3, 4, 0, 1, 2] (by decide) rfl rfl ⟨Nat.le_refl _, Nat.le_refl _⟩ (⟨rf, f0, f1, rfl, rfl⟩)
set_option maxHeartbeats 4000000 in
set_option maxRecDepth 100000 in
theorem s_M_compareValues (l : Launch) (dC : Nat → ClassId) (dI : Nat → Nat → Nat) (cI cL : ClassId) (qT : Nat) (mo : Nat) (mw : Nat) (nv : Nat) (ma : Nat) (mb : Nat) (ns : Nat) (mlo : Nat) (mhi : Nat) (nw : Nat) (mwe : Nat) (mru : Nat) (mrd : Nat) (th : Int) (mg : Nat) (rr : Nat → Nat) (sg : Nat → Int) (up : Nat → Nat) (dn : Nat → Nat) (u : Nat) (v : Nat) (hu : u < 100) (hv : v < 100) (ku : okV (sg u) (up u) (dn u)) (kv : okV (sg v) (up v) (dn v)) : Ct l y_M_compareValues (Cond.code y_M_compareValues c_M_compareValues 4 (some .int) :: zB) { frames := 3, cells := 0, slots := 0, locals := 78 } (dC, dI) zcl [(cI, .int), (cL, .long)] (zG cI cL qT) [.ref mo, .int (zI (u : Int)), .int (zI (v : Int))] [oM mo th mw (nv : Int) mg ma mb (ns : Int) mlo mhi (nw : Int) mwe mru mrd, aL cL mw 160 (wkA rr), aI cI mg 100 (sgA sg), aL cL ma 800 (moA up), aL cL mb 800 (moA dn)] (fun rv wv => ∃ rr2 : Nat → Nat, rv = .int (zI (suS (sg u) (-sg v) (up u * dn v) (up v * dn u))) ∧ wv = [oM mo th mw (nv : Int) mg ma mb (ns : Int) mlo mhi (nw : Int) mwe mru mrd, aL cL mw 160 (wkA rr2), aI cI mg 100 (sgA sg), aL cL ma 800 (moA up), aL cL mb 800 (moA dn)]) 0 0 := by
  refine Cm.ofZ (cc := c_M_compareValues) (maxL := 4) (ret := (some .int)) (by decide) rfl (Nat.le_of_ble_eq_true rfl) rfl ?_
  intro p e s m below meth c A S hr hlo hnm hK hg hA hAe
  have hGok := zG_ok cI cL qT
  show ZZ _ _ _ _ _ _ _ _ _ _ _ _ _ _ _ _ _ _ 0 [(0, .ref mo), (1, .int (zI (u : Int))), (2, .int (zI (v : Int)))] [] [oM mo th mw (nv : Int) mg ma mb (ns : Int) mlo mhi (nw : Int) mwe mru mrd, aL cL mw 160 (wkA rr), aI cI mg 100 (sgA sg), aL cL ma 800 (moA up), aL cL mb 800 (moA dn)]
  obtain ⟨u1, u2, u3, u4, u5, u6⟩ := id ku
  obtain ⟨v1, v2, v3, v4, v5, v6⟩ := id kv
  have m1 := mul96 u3 v5
  have m2 := mul96 v3 u5
  have hzs := smS_zs (x := sg u) (y := (-1) * sg v) (P := up u * dn v) (Q := up v * dn u) ⟨u1, u2⟩ ⟨by omega, by omega⟩ (by rw [Nat.mul_eq_zero]; omega) (by rw [Nat.mul_eq_zero]; omega)
  have hsl := suN_le (x := sg u) (y := (-1) * sg v) (P := up u * dn v) (Q := up v * dn u) (N := 1000000 ^ 20) (by omega)
  have hsr := smS_r (x := sg u) (y := (-1) * sg v) (P := up u * dn v) (Q := up v * dn u) ⟨u1, u2⟩ ⟨by omega, by omega⟩
  refine z_aload_n S d_M_compareValues_0 0 rfl ?_
  refine z_iload_n S d_M_compareValues_1 1 rfl ?_
  refine z_iload_n S d_M_compareValues_2 2 rfl ?_
  refine z_iconst S d_M_compareValues_3 ?_
  refine z_callVa (As := [.int (zI (u : Int)), .int (zI (v : Int)), .int (zI (-1))]) (st := []) (wc := [oM mo th mw (nv : Int) mg ma mb (ns : Int) mlo mhi (nw : Int) mwe mru mrd, aL cL mw 160 (wkA rr), aI cI mg 100 (sgA sg), aL cL ma 800 (moA up), aL cL mb 800 (moA dn)]) (wr := []) S hGok hK hg hA (s_M_sum l dC dI cI cL qT mo mw nv ma mb ns mlo mhi nw mwe mru mrd th mg rr sg up dn u v (-1) (by omega) (by omega) u3 u5 ⟨u1, u2⟩ v3 v5 ⟨v1, v2⟩ (Or.inr rfl)) (zcwV S (List.mem_cons_of_mem _ k_M_128) mV_M_sum k_M_128 hd_M_sum rfl rfl ⟨Nat.le_of_ble_eq_true rfl, Nat.le_of_ble_eq_true rfl⟩) rfl (Nat.le_of_ble_eq_true rfl) d_M_compareValues_4 ⟨Nat.le_of_ble_eq_true rfl, Nat.le_of_ble_eq_true rfl⟩ rfl [0, 1, 2, 3, 4] [] 0 rfl rfl rfl (by decide) rfl rfl rfl (by decide) (by decide) (fun x w hp => ?_)
  obtain ⟨rk, kk0, kk1, rfl, rfl⟩ := hp
  show ZZ _ _ _ _ _ _ _ _ _ _ _ _ _ _ _ _ _ _ 7 [(0, .ref mo), (1, .int (zI (u : Int))), (2, .int (zI (v : Int)))] [.int (zI (smS (sg u) ((-1) * sg v) (up u * dn v) (up v * dn u)))] [oM mo th mw (nv : Int) mg ma mb (ns : Int) mlo mhi (nw : Int) mwe mru mrd, aL cL mw 160 (wkA rk), aI cI mg 100 (sgA sg), aL cL ma 800 (moA up), aL cL mb 800 (moA dn)]
  refine z_topi (fun x1 ex1 => ?_)
  refine z_istore_n (lv' := [(3, .int (zI x1)), (0, .ref mo), (1, .int (zI (u : Int))), (2, .int (zI (v : Int)))]) S d_M_compareValues_7 rfl (by decide) rfl ?_
  refine z_aload_n S d_M_compareValues_8 1 rfl ?_
  refine z_iconst S d_M_compareValues_9 ?_
  refine z_callVa (As := [.int (zI 0)]) (st := []) (wc := [oM mo th mw (nv : Int) mg ma mb (ns : Int) mlo mhi (nw : Int) mwe mru mrd, aL cL mw 160 (wkA rk)]) (wr := [aI cI mg 100 (sgA sg), aL cL ma 800 (moA up), aL cL mb 800 (moA dn)]) S hGok hK hg hA (s_M_isNought l dC dI cI cL qT mo mw nv ma mb ns mlo mhi nw mwe mru mrd th mg rk 0 (by omega) (by rw [kk0]; exact hsl)) (zcwV S (List.mem_cons_of_mem _ k_M_77) mV_M_isNought k_M_77 hd_M_isNought rfl rfl ⟨Nat.le_of_ble_eq_true rfl, Nat.le_of_ble_eq_true rfl⟩) rfl (Nat.le_of_ble_eq_true rfl) d_M_compareValues_10 ⟨Nat.le_of_ble_eq_true rfl, Nat.le_of_ble_eq_true rfl⟩ rfl [0, 1] [2, 3, 4] 0 rfl rfl rfl (by decide) rfl rfl rfl (by decide) (by decide) (fun x w hp => ?_)
  obtain ⟨rfl, rfl⟩ := hp
  show ZZ _ _ _ _ _ _ _ _ _ _ _ _ _ _ _ _ _ _ 13 [(3, .int (zI x1)), (0, .ref mo), (1, .int (zI (u : Int))), (2, .int (zI (v : Int)))] [.int (zI (b2 (rk 0 = 0)))] [aI cI mg 100 (sgA sg), aL cL ma 800 (moA up), aL cL mb 800 (moA dn), oM mo th mw (nv : Int) mg ma mb (ns : Int) mlo mhi (nw : Int) mwe mru mrd, aL cL mw 160 (wkA rk)]
  have hbz := b2_r (rk 0 = 0)
  refine z_if_eq (tgt := 20) S d_M_compareValues_13 (by decide) (by omega) (fun c2 => ?_) (fun c2 => ?_)
  · skip
    refine z_iload_n S d_M_compareValues_20 0 rfl ?_
    have hz0 : ¬ suN (sg u) ((-1) * sg v) (up u * dn v) (up v * dn u) = 0 := by rw [← kk0]; exact b2_0.mp c2
    have hfin : x1 = suS (sg u) (-sg v) (up u * dn v) (up v * dn u) := by
      rw [show -sg v = (-1) * sg v by omega, ← hzs]
      unfold zs
      rw [if_neg hz0]
      omega
    exact z_iret (w := [oM mo th mw (nv : Int) mg ma mb (ns : Int) mlo mhi (nw : Int) mwe mru mrd, aL cL mw 160 (wkA rk), aI cI mg 100 (sgA sg), aL cL ma 800 (moA up), aL cL mb 800 (moA dn)]) S hr hlo hAe d_M_compareValues_21 [3, 4, 0, 1, 2] (by decide) rfl rfl ⟨Nat.le_refl _, Nat.le_refl _⟩ (⟨rk, congrArg Value.int (zI_c hfin), rfl⟩)
  · skip
    refine z_iconst S d_M_compareValues_16 ?_
    refine z_goto (tgt := 21) S d_M_compareValues_17 (by decide) ?_
    have hz0 : suN (sg u) ((-1) * sg v) (up u * dn v) (up v * dn u) = 0 := by rw [← kk0]; exact b2_p c2
    have hfin : 0 = suS (sg u) (-sg v) (up u * dn v) (up v * dn u) := by
      rw [show -sg v = (-1) * sg v by omega, ← hzs]
      unfold zs
      rw [if_pos hz0]
    exact z_iret (w := [oM mo th mw (nv : Int) mg ma mb (ns : Int) mlo mhi (nw : Int) mwe mru mrd, aL cL mw 160 (wkA rk), aI cI mg 100 (sgA sg), aL cL ma 800 (moA up), aL cL mb 800 (moA dn)]) S hr hlo hAe d_M_compareValues_21 [3, 4, 0, 1, 2] (by decide) rfl rfl ⟨Nat.le_refl _, Nat.le_refl _⟩ (⟨rk, congrArg Value.int (zI_c hfin), rfl⟩)
set_option maxHeartbeats 4000000 in
set_option maxRecDepth 100000 in
theorem s_M_isUp (l : Launch) (dC : Nat → ClassId) (dI : Nat → Nat → Nat) (cI cL : ClassId) (qT : Nat) (mo : Nat) (mw : Nat) (nv : Nat) (ma : Nat) (mb : Nat) (ns : Nat) (mlo : Nat) (mhi : Nat) (nw : Nat) (mwe : Nat) (mru : Nat) (mrd : Nat) (th : Int) (mg : Nat) (rr : Nat → Nat) (ru : Int) (s1 : Int) (hru : 0 ≤ ru ∧ ru ≤ 6) (hs1 : -1 ≤ s1 ∧ s1 ≤ 1) (h23 : rr 2 < rr 3) (h3b : rr 3 < 10 ^ 48) : Ct l y_M_isUp (Cond.code y_M_isUp c_M_isUp 4 (some .boolean) :: zB) { frames := 2, cells := 0, slots := 0, locals := 43 } (dC, dI) zcl [(cI, .int), (cL, .long)] (zG cI cL qT) [.ref mo, .int (zI ru), .int (zI s1)] [oM mo th mw (nv : Int) mg ma mb (ns : Int) mlo mhi (nw : Int) mwe mru mrd, aL cL mw 160 (wkA rr)] (fun rv wv => ∃ rr2 : Nat → Nat, (rr2 0 = rr 0) ∧ (rr2 6 = rr 6) ∧ rv = .int (zI (iuV (rr 2) (rr 3) s1 ru (rr 0))) ∧ wv = [oM mo th mw (nv : Int) mg ma mb (ns : Int) mlo mhi (nw : Int) mwe mru mrd, aL cL mw 160 (wkA rr2)]) 0 0 := by
  refine Cm.ofZ (cc := c_M_isUp) (maxL := 4) (ret := (some .boolean)) (by decide) rfl (Nat.le_of_ble_eq_true rfl) rfl ?_
  intro p e s m below meth c A S hr hlo hnm hK hg hA hAe
  have hGok := zG_ok cI cL qT
  show ZZ _ _ _ _ _ _ _ _ _ _ _ _ _ _ _ _ _ _ 0 [(0, .ref mo), (1, .int (zI ru)), (2, .int (zI s1))] [] [oM mo th mw (nv : Int) mg ma mb (ns : Int) mlo mhi (nw : Int) mwe mru mrd, aL cL mw 160 (wkA rr)]
  have h3B := b48_20 h3b
  have e48 := e48
  have hbz := b2_r (rr 2 = 0)
  refine z_aload_n S d_M_isUp_0 0 rfl ?_
  refine z_iconst S d_M_isUp_1 ?_
  refine z_callVa (As := [.int (zI 2)]) (st := []) (wc := [oM mo th mw (nv : Int) mg ma mb (ns : Int) mlo mhi (nw : Int) mwe mru mrd, aL cL mw 160 (wkA rr)]) (wr := []) S hGok hK hg hA (s_M_isNought l dC dI cI cL qT mo mw nv ma mb ns mlo mhi nw mwe mru mrd th mg rr 2 (by omega) (by omega)) (zcwV S (List.mem_cons_of_mem _ k_M_77) mV_M_isNought k_M_77 hd_M_isNought rfl rfl ⟨Nat.le_of_ble_eq_true rfl, Nat.le_of_ble_eq_true rfl⟩) rfl (Nat.le_of_ble_eq_true rfl) d_M_isUp_2 ⟨Nat.le_of_ble_eq_true rfl, Nat.le_of_ble_eq_true rfl⟩ rfl [0, 1] [] 0 rfl rfl rfl (by decide) rfl rfl rfl (by decide) (by decide) (fun x w hp => ?_)
  obtain ⟨rfl, rfl⟩ := hp
  show ZZ _ _ _ _ _ _ _ _ _ _ _ _ _ _ _ _ _ _ 5 [(0, .ref mo), (1, .int (zI ru)), (2, .int (zI s1))] [.int (zI (b2 (rr 2 = 0)))] [oM mo th mw (nv : Int) mg ma mb (ns : Int) mlo mhi (nw : Int) mwe mru mrd, aL cL mw 160 (wkA rr)]
  refine z_if_eq (tgt := 10) S d_M_isUp_5 (by decide) (by omega) (fun c1 => ?_) (fun c1 => ?_)
  · skip
    have hz : ¬ rr 2 = 0 := b2_0.mp c1
    refine z_iload_n S d_M_isUp_10 1 rfl ?_
    refine z_iconst S d_M_isUp_11 ?_
    refine z_icmp_ge (tgt := 41) S d_M_isUp_12 (by decide) (by omega) (by omega) (fun c2 => ?_) (fun c2 => ?_)
    · skip
      refine z_iload_n S d_M_isUp_41 1 rfl ?_
      refine z_iconst S d_M_isUp_42 ?_
      refine z_icmp_ge (tgt := 57) S d_M_isUp_43 (by decide) (by omega) (by omega) (fun c3 => ?_) (fun c3 => ?_)
      · skip
        refine z_aload_n S d_M_isUp_57 0 rfl ?_
        refine z_iconst S d_M_isUp_58 ?_
        refine z_iconst S d_M_isUp_59 ?_
        refine z_callVv (As := [.int (zI 2), .int (zI 2)]) (st := []) (wc := [oM mo th mw (nv : Int) mg ma mb (ns : Int) mlo mhi (nw : Int) mwe mru mrd, aL cL mw 160 (wkA rr)]) (wr := []) S hGok hK hg hA (s_M_adds l dC dI cI cL qT mo mw nv ma mb ns mlo mhi nw mwe mru mrd th mg rr 2 2 (by omega) (by omega) (by omega)) (zcwV S (List.mem_cons_of_mem _ k_M_88) mV_M_adds k_M_88 hd_M_adds rfl rfl ⟨Nat.le_of_ble_eq_true rfl, Nat.le_of_ble_eq_true rfl⟩) rfl (Nat.le_of_ble_eq_true rfl) d_M_isUp_60 ⟨Nat.le_of_ble_eq_true rfl, Nat.le_of_ble_eq_true rfl⟩ rfl [0, 1] [] 0 rfl rfl rfl (by decide) rfl rfl rfl (by decide) (by decide) (fun w hp => ?_)
        subst hp
        show ZZ _ _ _ _ _ _ _ _ _ _ _ _ _ _ _ _ _ _ 63 [(0, .ref mo), (1, .int (zI ru)), (2, .int (zI s1))] [] [oM mo th mw (nv : Int) mg ma mb (ns : Int) mlo mhi (nw : Int) mwe mru mrd, aL cL mw 160 (wkA (un rr 2 (rr 2 + rr 2)))]
        obtain ⟨ra, hra, a2, a3, a0, a6⟩ : ∃ ra : Nat → Nat, ra = (un rr 2 (rr 2 + rr 2)) ∧ ra 2 = rr 2 + rr 2 ∧ ra 3 = rr 3 ∧ ra 0 = rr 0 ∧ ra 6 = rr 6 := ⟨(un rr 2 (rr 2 + rr 2)), rfl, rfl, rfl, rfl, rfl⟩
        refine z_wq (ws' := [oM mo th mw (nv : Int) mg ma mb (ns : Int) mlo mhi (nw : Int) mwe mru mrd, aL cL mw 160 (wkA ra)]) (by rw [hra]) ?_
        refine z_aload_n S d_M_isUp_63 0 rfl ?_
        refine z_iconst S d_M_isUp_64 ?_
        refine z_iconst S d_M_isUp_65 ?_
        refine z_callVa (As := [.int (zI 2), .int (zI 3)]) (st := []) (wc := [oM mo th mw (nv : Int) mg ma mb (ns : Int) mlo mhi (nw : Int) mwe mru mrd, aL cL mw 160 (wkA ra)]) (wr := []) S hGok hK hg hA (s_M_compare l dC dI cI cL qT mo mw nv ma mb ns mlo mhi nw mwe mru mrd th mg ra 2 3 (by omega) (by omega) (by omega) (by omega)) (zcwV S (List.mem_cons_of_mem _ k_M_80) mV_M_compare k_M_80 hd_M_compare rfl rfl ⟨Nat.le_of_ble_eq_true rfl, Nat.le_of_ble_eq_true rfl⟩) rfl (Nat.le_of_ble_eq_true rfl) d_M_isUp_66 ⟨Nat.le_of_ble_eq_true rfl, Nat.le_of_ble_eq_true rfl⟩ rfl [0, 1] [] 0 rfl rfl rfl (by decide) rfl rfl rfl (by decide) (by decide) (fun x w hp => ?_)
        obtain ⟨rfl, rfl⟩ := hp
        show ZZ _ _ _ _ _ _ _ _ _ _ _ _ _ _ _ _ _ _ 69 [(0, .ref mo), (1, .int (zI ru)), (2, .int (zI s1))] [.int (zI (cmpN (ra 2) (ra 3)))] [oM mo th mw (nv : Int) mg ma mb (ns : Int) mlo mhi (nw : Int) mwe mru mrd, aL cL mw 160 (wkA ra)]
        have hcr := cmpN_r (ra 2) (ra 3)
        refine z_istore_n (lv' := [(3, .int (zI (cmpN (ra 2) (ra 3)))), (0, .ref mo), (1, .int (zI ru)), (2, .int (zI s1))]) S d_M_isUp_69 rfl (by decide) rfl ?_
        refine z_iload_n S d_M_isUp_70 0 rfl ?_
        refine z_if_eq (tgt := 84) S d_M_isUp_71 (by decide) (by omega) (fun c4 => ?_) (fun c4 => ?_)
        · skip
          have hcz : ra 2 = ra 3 := cmpN_z (by omega)
          refine z_iload_n S d_M_isUp_84 2 rfl ?_
          refine z_iconst S d_M_isUp_85 ?_
          refine z_icmp_ne (tgt := 101) S d_M_isUp_86 (by decide) (by omega) (by omega) (fun c5 => ?_) (fun c5 => ?_)
          · skip
            refine z_iload_n S d_M_isUp_101 2 rfl ?_
            refine z_bipush S d_M_isUp_102 rfl ?_
            refine z_icmp_ne (tgt := 119) S d_M_isUp_104 (by decide) (by omega) (by omega) (fun c6 => ?_) (fun c6 => ?_)
            · skip
              refine z_aload_n S d_M_isUp_119 1 rfl ?_
              refine z_iconst S d_M_isUp_120 ?_
              refine z_callVa (As := [.int (zI 0)]) (st := []) (wc := [oM mo th mw (nv : Int) mg ma mb (ns : Int) mlo mhi (nw : Int) mwe mru mrd, aL cL mw 160 (wkA ra)]) (wr := []) S hGok hK hg hA (s_M_isEven l dC dI cI cL qT mo mw nv ma mb ns mlo mhi nw mwe mru mrd th mg ra 0 (by omega)) (zcwV S (List.mem_cons_of_mem _ k_M_70) mV_M_isEven k_M_70 hd_M_isEven rfl rfl ⟨Nat.le_of_ble_eq_true rfl, Nat.le_of_ble_eq_true rfl⟩) rfl (Nat.le_of_ble_eq_true rfl) d_M_isUp_121 ⟨Nat.le_of_ble_eq_true rfl, Nat.le_of_ble_eq_true rfl⟩ rfl [0, 1] [] 0 rfl rfl rfl (by decide) rfl rfl rfl (by decide) (by decide) (fun x w hp => ?_)
              obtain ⟨rfl, rfl⟩ := hp
              show ZZ _ _ _ _ _ _ _ _ _ _ _ _ _ _ _ _ _ _ 124 [(3, .int (zI (cmpN (ra 2) (ra 3)))), (0, .ref mo), (1, .int (zI ru)), (2, .int (zI s1))] [.int (zI (b2 (ra 0 % 2 = 0)))] [oM mo th mw (nv : Int) mg ma mb (ns : Int) mlo mhi (nw : Int) mwe mru mrd, aL cL mw 160 (wkA ra)]
              have hbe := b2_r (ra 0 % 2 = 0)
              refine z_if_ne (tgt := 131) S d_M_isUp_124 (by decide) (by omega) (fun c7 => ?_) (fun c7 => ?_)
              · skip
                have hev : ra 0 % 2 = 0 := b2_p c7
                refine z_iconst S d_M_isUp_131 ?_
                exact z_zret (w := [oM mo th mw (nv : Int) mg ma mb (ns : Int) mlo mhi (nw : Int) mwe mru mrd, aL cL mw 160 (wkA ra)]) S hr hlo hAe (by first | exact Or.inl rfl | exact Or.inr rfl) d_M_isUp_132 [0, 1] (by decide) rfl rfl ⟨Nat.le_refl _, Nat.le_refl _⟩ (⟨ra, a0, a6, by rw [show iuV (rr 2) (rr 3) s1 ru (rr 0) = 0 by unfold iuV; rw [if_neg hz]; unfold gfz; rw [if_neg (by omega), if_neg (by omega), if_neg (by omega), if_neg (by omega)]; unfold nfz; rw [if_neg (by omega), if_neg (by omega), if_pos (by omega), b2_f (P := rr 0 % 2 = 1) (by omega)]], rfl⟩)
              · skip
                have hev : ¬ ra 0 % 2 = 0 := b2_0.mp c7
                refine z_iconst S d_M_isUp_127 ?_
                refine z_goto (tgt := 132) S d_M_isUp_128 (by decide) ?_
                exact z_zret (w := [oM mo th mw (nv : Int) mg ma mb (ns : Int) mlo mhi (nw : Int) mwe mru mrd, aL cL mw 160 (wkA ra)]) S hr hlo hAe (by first | exact Or.inl rfl | exact Or.inr rfl) d_M_isUp_132 [0, 1] (by decide) rfl rfl ⟨Nat.le_refl _, Nat.le_refl _⟩ (⟨ra, a0, a6, by rw [show iuV (rr 2) (rr 3) s1 ru (rr 0) = 1 by unfold iuV; rw [if_neg hz]; unfold gfz; rw [if_neg (by omega), if_neg (by omega), if_neg (by omega), if_neg (by omega)]; unfold nfz; rw [if_neg (by omega), if_neg (by omega), if_pos (by omega), b2_t (P := rr 0 % 2 = 1) (by omega)]], rfl⟩)
            · skip
              refine z_iload_n S d_M_isUp_107 3 rfl ?_
              refine z_if_ge (tgt := 115) S d_M_isUp_108 (by decide) (by omega) (fun c8 => ?_) (fun c8 => ?_)
              · skip
                refine z_iconst S d_M_isUp_115 ?_
                refine z_goto (tgt := 132) S d_M_isUp_116 (by decide) ?_
                exact z_zret (w := [oM mo th mw (nv : Int) mg ma mb (ns : Int) mlo mhi (nw : Int) mwe mru mrd, aL cL mw 160 (wkA ra)]) S hr hlo hAe (by first | exact Or.inl rfl | exact Or.inr rfl) d_M_isUp_132 [0, 1] (by decide) rfl rfl ⟨Nat.le_refl _, Nat.le_refl _⟩ (⟨ra, a0, a6, by rw [show iuV (rr 2) (rr 3) s1 ru (rr 0) = 0 by unfold iuV; rw [if_neg hz]; unfold gfz; rw [if_neg (by omega), if_neg (by omega), if_neg (by omega), if_neg (by omega)]; unfold nfz; rw [if_neg (by omega), if_neg (by omega), if_neg (by omega), if_neg (by omega), b2_f (P := s1 < 0) (by omega)]], rfl⟩)
              · skip
                refine z_iconst S d_M_isUp_111 ?_
                refine z_goto (tgt := 132) S d_M_isUp_112 (by decide) ?_
                exact z_zret (w := [oM mo th mw (nv : Int) mg ma mb (ns : Int) mlo mhi (nw : Int) mwe mru mrd, aL cL mw 160 (wkA ra)]) S hr hlo hAe (by first | exact Or.inl rfl | exact Or.inr rfl) d_M_isUp_132 [0, 1] (by decide) rfl rfl ⟨Nat.le_refl _, Nat.le_refl _⟩ (⟨ra, a0, a6, by rw [show iuV (rr 2) (rr 3) s1 ru (rr 0) = 1 by unfold iuV; rw [if_neg hz]; unfold gfz; rw [if_neg (by omega), if_neg (by omega), if_neg (by omega), if_neg (by omega)]; unfold nfz; rw [if_neg (by omega), if_neg (by omega), if_neg (by omega), if_neg (by omega), b2_t (P := s1 < 0) (by omega)]], rfl⟩)
          · skip
            refine z_iload_n S d_M_isUp_89 3 rfl ?_
            refine z_if_le (tgt := 97) S d_M_isUp_90 (by decide) (by omega) (fun c9 => ?_) (fun c9 => ?_)
            · skip
              refine z_iconst S d_M_isUp_97 ?_
              refine z_goto (tgt := 132) S d_M_isUp_98 (by decide) ?_
              exact z_zret (w := [oM mo th mw (nv : Int) mg ma mb (ns : Int) mlo mhi (nw : Int) mwe mru mrd, aL cL mw 160 (wkA ra)]) S hr hlo hAe (by first | exact Or.inl rfl | exact Or.inr rfl) d_M_isUp_132 [0, 1] (by decide) rfl rfl ⟨Nat.le_refl _, Nat.le_refl _⟩ (⟨ra, a0, a6, by rw [show iuV (rr 2) (rr 3) s1 ru (rr 0) = 0 by unfold iuV; rw [if_neg hz]; unfold gfz; rw [if_neg (by omega), if_neg (by omega), if_neg (by omega), if_neg (by omega)]; unfold nfz; rw [if_neg (by omega), if_neg (by omega), if_neg (by omega), if_pos (by omega), b2_f (P := 0 < s1) (by omega)]], rfl⟩)
            · skip
              refine z_iconst S d_M_isUp_93 ?_
              refine z_goto (tgt := 132) S d_M_isUp_94 (by decide) ?_
              exact z_zret (w := [oM mo th mw (nv : Int) mg ma mb (ns : Int) mlo mhi (nw : Int) mwe mru mrd, aL cL mw 160 (wkA ra)]) S hr hlo hAe (by first | exact Or.inl rfl | exact Or.inr rfl) d_M_isUp_132 [0, 1] (by decide) rfl rfl ⟨Nat.le_refl _, Nat.le_refl _⟩ (⟨ra, a0, a6, by rw [show iuV (rr 2) (rr 3) s1 ru (rr 0) = 1 by unfold iuV; rw [if_neg hz]; unfold gfz; rw [if_neg (by omega), if_neg (by omega), if_neg (by omega), if_neg (by omega)]; unfold nfz; rw [if_neg (by omega), if_neg (by omega), if_neg (by omega), if_pos (by omega), b2_t (P := 0 < s1) (by omega)]], rfl⟩)
        · skip
          refine z_iload_n S d_M_isUp_74 0 rfl ?_
          refine z_if_le (tgt := 82) S d_M_isUp_75 (by decide) (by omega) (fun c10 => ?_) (fun c10 => ?_)
          · skip
            have hcl : ra 2 < ra 3 := cmpN_neg (by omega)
            refine z_iconst S d_M_isUp_82 ?_
            exact z_zret (w := [oM mo th mw (nv : Int) mg ma mb (ns : Int) mlo mhi (nw : Int) mwe mru mrd, aL cL mw 160 (wkA ra)]) S hr hlo hAe (by first | exact Or.inl rfl | exact Or.inr rfl) d_M_isUp_83 [0, 1] (by decide) rfl rfl ⟨Nat.le_refl _, Nat.le_refl _⟩ (⟨ra, a0, a6, by rw [show iuV (rr 2) (rr 3) s1 ru (rr 0) = 0 by unfold iuV; rw [if_neg hz]; unfold gfz; rw [if_neg (by omega), if_neg (by omega), if_neg (by omega), if_neg (by omega)]; unfold nfz; rw [if_neg (by omega), if_pos (by omega)]], rfl⟩)
          · skip
            have hcg : ra 3 < ra 2 := cmpN_pos (by omega)
            refine z_iconst S d_M_isUp_78 ?_
            refine z_goto (tgt := 83) S d_M_isUp_79 (by decide) ?_
            exact z_zret (w := [oM mo th mw (nv : Int) mg ma mb (ns : Int) mlo mhi (nw : Int) mwe mru mrd, aL cL mw 160 (wkA ra)]) S hr hlo hAe (by first | exact Or.inl rfl | exact Or.inr rfl) d_M_isUp_83 [0, 1] (by decide) rfl rfl ⟨Nat.le_refl _, Nat.le_refl _⟩ (⟨ra, a0, a6, by rw [show iuV (rr 2) (rr 3) s1 ru (rr 0) = 1 by unfold iuV; rw [if_neg hz]; unfold gfz; rw [if_neg (by omega), if_neg (by omega), if_neg (by omega), if_neg (by omega)]; unfold nfz; rw [if_pos (by omega)]], rfl⟩)
      · skip
        refine z_iload_n S d_M_isUp_46 1 rfl ?_
        refine z_iconst S d_M_isUp_47 ?_
        refine z_icmp_ne (tgt := 55) S d_M_isUp_48 (by decide) (by omega) (by omega) (fun c11 => ?_) (fun c11 => ?_)
        · skip
          refine z_iconst S d_M_isUp_55 ?_
          exact z_zret (w := [oM mo th mw (nv : Int) mg ma mb (ns : Int) mlo mhi (nw : Int) mwe mru mrd, aL cL mw 160 (wkA rr)]) S hr hlo hAe (by first | exact Or.inl rfl | exact Or.inr rfl) d_M_isUp_56 [0, 1] (by decide) rfl rfl ⟨Nat.le_refl _, Nat.le_refl _⟩ (⟨rr, rfl, rfl, by rw [show iuV (rr 2) (rr 3) s1 ru (rr 0) = 0 by unfold iuV; rw [if_neg hz]; unfold gfz; rw [if_neg (by omega), if_neg (by omega), if_pos (by omega)]], rfl⟩)
        · skip
          refine z_iconst S d_M_isUp_51 ?_
          refine z_goto (tgt := 56) S d_M_isUp_52 (by decide) ?_
          exact z_zret (w := [oM mo th mw (nv : Int) mg ma mb (ns : Int) mlo mhi (nw : Int) mwe mru mrd, aL cL mw 160 (wkA rr)]) S hr hlo hAe (by first | exact Or.inl rfl | exact Or.inr rfl) d_M_isUp_56 [0, 1] (by decide) rfl rfl ⟨Nat.le_refl _, Nat.le_refl _⟩ (⟨rr, rfl, rfl, by rw [show iuV (rr 2) (rr 3) s1 ru (rr 0) = 1 by unfold iuV; rw [if_neg hz]; unfold gfz; rw [if_neg (by omega), if_neg (by omega), if_neg (by omega), if_pos (by omega)]], rfl⟩)
    · skip
      refine z_iload_n S d_M_isUp_15 1 rfl ?_
      refine z_if_ne (tgt := 31) S d_M_isUp_16 (by decide) (by omega) (fun c12 => ?_) (fun c12 => ?_)
      · skip
        refine z_iload_n S d_M_isUp_31 2 rfl ?_
        refine z_if_le (tgt := 39) S d_M_isUp_32 (by decide) (by omega) (fun c13 => ?_) (fun c13 => ?_)
        · skip
          refine z_iconst S d_M_isUp_39 ?_
          exact z_zret (w := [oM mo th mw (nv : Int) mg ma mb (ns : Int) mlo mhi (nw : Int) mwe mru mrd, aL cL mw 160 (wkA rr)]) S hr hlo hAe (by first | exact Or.inl rfl | exact Or.inr rfl) d_M_isUp_40 [0, 1] (by decide) rfl rfl ⟨Nat.le_refl _, Nat.le_refl _⟩ (⟨rr, rfl, rfl, by rw [show iuV (rr 2) (rr 3) s1 ru (rr 0) = 0 by unfold iuV; rw [if_neg hz]; unfold gfz; rw [if_neg (by omega), if_pos (by omega), b2_f (P := 0 < s1) (by omega)]], rfl⟩)
        · skip
          refine z_iconst S d_M_isUp_35 ?_
          refine z_goto (tgt := 40) S d_M_isUp_36 (by decide) ?_
          exact z_zret (w := [oM mo th mw (nv : Int) mg ma mb (ns : Int) mlo mhi (nw : Int) mwe mru mrd, aL cL mw 160 (wkA rr)]) S hr hlo hAe (by first | exact Or.inl rfl | exact Or.inr rfl) d_M_isUp_40 [0, 1] (by decide) rfl rfl ⟨Nat.le_refl _, Nat.le_refl _⟩ (⟨rr, rfl, rfl, by rw [show iuV (rr 2) (rr 3) s1 ru (rr 0) = 1 by unfold iuV; rw [if_neg hz]; unfold gfz; rw [if_neg (by omega), if_pos (by omega), b2_t (P := 0 < s1) (by omega)]], rfl⟩)
      · skip
        refine z_iload_n S d_M_isUp_19 2 rfl ?_
        refine z_if_ge (tgt := 27) S d_M_isUp_20 (by decide) (by omega) (fun c14 => ?_) (fun c14 => ?_)
        · skip
          refine z_iconst S d_M_isUp_27 ?_
          refine z_goto (tgt := 40) S d_M_isUp_28 (by decide) ?_
          exact z_zret (w := [oM mo th mw (nv : Int) mg ma mb (ns : Int) mlo mhi (nw : Int) mwe mru mrd, aL cL mw 160 (wkA rr)]) S hr hlo hAe (by first | exact Or.inl rfl | exact Or.inr rfl) d_M_isUp_40 [0, 1] (by decide) rfl rfl ⟨Nat.le_refl _, Nat.le_refl _⟩ (⟨rr, rfl, rfl, by rw [show iuV (rr 2) (rr 3) s1 ru (rr 0) = 0 by unfold iuV; rw [if_neg hz]; unfold gfz; rw [if_pos (by omega), b2_f (P := s1 < 0) (by omega)]], rfl⟩)
        · skip
          refine z_iconst S d_M_isUp_23 ?_
          refine z_goto (tgt := 40) S d_M_isUp_24 (by decide) ?_
          exact z_zret (w := [oM mo th mw (nv : Int) mg ma mb (ns : Int) mlo mhi (nw : Int) mwe mru mrd, aL cL mw 160 (wkA rr)]) S hr hlo hAe (by first | exact Or.inl rfl | exact Or.inr rfl) d_M_isUp_40 [0, 1] (by decide) rfl rfl ⟨Nat.le_refl _, Nat.le_refl _⟩ (⟨rr, rfl, rfl, by rw [show iuV (rr 2) (rr 3) s1 ru (rr 0) = 1 by unfold iuV; rw [if_neg hz]; unfold gfz; rw [if_pos (by omega), b2_t (P := s1 < 0) (by omega)]], rfl⟩)
  · skip
    have hz : rr 2 = 0 := b2_p c1
    refine z_iconst S d_M_isUp_8 ?_
    exact z_zret (w := [oM mo th mw (nv : Int) mg ma mb (ns : Int) mlo mhi (nw : Int) mwe mru mrd, aL cL mw 160 (wkA rr)]) S hr hlo hAe (by first | exact Or.inl rfl | exact Or.inr rfl) d_M_isUp_9 [0, 1] (by decide) rfl rfl ⟨Nat.le_refl _, Nat.le_refl _⟩ (⟨rr, rfl, rfl, by rw [show iuV (rr 2) (rr 3) s1 ru (rr 0) = 0 by unfold iuV; rw [if_pos hz]], rfl⟩)
