theorem iuV_r {r z : Nat} {sg ru : Int} {q : Nat} : 0 ≤ iuV r z sg ru q ∧ iuV r z sg ru q ≤ 1 := by
  unfold iuV
  split
  · omega
  · exact gfz_r (b2_r _)
theorem rnd_iu {x z : Nat} {sg ru : Int} {u : Nat} : rndN x z sg ru u = if iuV (x * u % z) z sg ru (x * u / z) = 0 then x * u / z else x * u / z + 1 := by
  unfold rndN iuV
  by_cases q : x * u % z = 0
  · rw [if_pos q, if_pos q, if_pos rfl]
  · rw [if_neg q, if_neg q]
def rsA (v : Nat) : Nat → Int64 := fun i => zL ((dg 1000000 v i : Nat) : Int)
theorem mN_8 {n : Nat} (hn : n < 10 ^ 48) : mN n 0 8 = n := by
  unfold mN
  rw [Nat.mod_eq_of_lt (by rw [← e48]; exact hn), Nat.zero_div, Nat.zero_mul, Nat.add_zero]
theorem lw_cop {N D : Nat} (h : Nat.gcd D N = 1) : lwX N D = N ∧ lwZ N D = D := by
  unfold lwX lwZ
  rw [h, Nat.div_one, Nat.div_one]
  exact ⟨rfl, rfl⟩
theorem wkA_00 : (fun _ : Nat => zL 0) = wkA (fun _ => 0) := by
  funext j; unfold wkA; rw [dg_zero]; rfl
theorem moA_00 : (fun _ : Nat => zL 0) = moA (fun _ => 0) := by
  funext j; unfold moA; rw [dg_zero]; rfl
theorem rsA_00 : (fun _ : Nat => zL 0) = rsA 0 := by
  funext j; unfold rsA; rw [dg_zero]; rfl
theorem rsA_1 : vp_updL (fun _ : Nat => zL 0) 0 (zL 1) = rsA 1 := by
  funext j; unfold vp_updL rsA
  by_cases q : j = 0
  · rw [if_pos q, q]; rfl
  · rw [if_neg q, dg_0 (Nat.lt_of_lt_of_le (show 1 < 1000000 ^ 1 by decide) (pw_le (by decide) (show 1 ≤ j by omega)))]; rfl
set_option maxHeartbeats 4000000 in
set_option maxRecDepth 100000 in
theorem s_M_round (l : Launch) (dC : Nat → ClassId) (dI : Nat → Nat → Nat) (cI cL : ClassId) (qT : Nat) (mo : Nat) (mw : Nat) (nv : Nat) (ma : Nat) (mb : Nat) (ns : Nat) (mlo : Nat) (mhi : Nat) (nw : Nat) (mwe : Nat) (mru : Nat) (mrd : Nat) (th : Int) (mg : Nat) (rr : Nat → Nat) (sg : Nat → Int) (up : Nat → Nat) (dn : Nat → Nat) (u : Nat) (ru : Int) (uu : Nat) (hnv : nv < 100) (hV : okM sg up dn nv) (hu : u < nv) (hru : 0 ≤ ru ∧ ru ≤ 6) (huu : 0 < uu ∧ uu ≤ 1000000000) : Ct l y_M_round (Cond.code y_M_round c_M_round 5 (some .int) :: zB) { frames := 5, cells := 0, slots := 0, locals := 128 } (dC, dI) zcl [(cI, .int), (cL, .long)] (zG cI cL qT) [.ref mo, .int (zI (u : Int)), .int (zI ru), .long (zL (uu : Int))] [oM mo th mw (nv : Int) mg ma mb (ns : Int) mlo mhi (nw : Int) mwe mru mrd, aL cL mw 160 (wkA rr), aI cI mg 100 (sgA sg), aL cL ma 800 (moA up), aL cL mb 800 (moA dn)] (fun rv wv => ∃ rr2 : Nat → Nat, rv = .int (zI (kpR nv (lwX (rndN (up u) (dn u) (sg u) ru uu) (uu)) (lwZ (rndN (up u) (dn u) (sg u) ru uu) (uu)))) ∧ wv = [oM mo 0 mw ((kpC nv (lwX (rndN (up u) (dn u) (sg u) ru uu) (uu)) (lwZ (rndN (up u) (dn u) (sg u) ru uu) (uu)) : Nat) : Int) mg ma mb (ns : Int) mlo mhi (nw : Int) mwe mru mrd, aL cL mw 160 (wkA rr2), aI cI mg 100 (sgA (kpS sg nv (rndS (up u) (dn u) (sg u) ru uu) (lwX (rndN (up u) (dn u) (sg u) ru uu) (uu)) (lwZ (rndN (up u) (dn u) (sg u) ru uu) (uu)))), aL cL ma 800 (moA (kpU up nv (lwX (rndN (up u) (dn u) (sg u) ru uu) (uu)) (lwX (rndN (up u) (dn u) (sg u) ru uu) (uu)) (lwZ (rndN (up u) (dn u) (sg u) ru uu) (uu)))), aL cL mb 800 (moA (kpU dn nv (lwZ (rndN (up u) (dn u) (sg u) ru uu) (uu)) (lwX (rndN (up u) (dn u) (sg u) ru uu) (uu)) (lwZ (rndN (up u) (dn u) (sg u) ru uu) (uu))))]) 0 0 := by
  refine Cm.ofZ (cc := c_M_round) (maxL := 5) (ret := (some .int)) (by decide) rfl (Nat.le_of_ble_eq_true rfl) rfl ?_
  intro p e s m below meth c A S hr hlo hnm hK hg hA hAe
  have hGok := zG_ok cI cL qT
  show ZZ _ _ _ _ _ _ _ _ _ _ _ _ _ _ _ _ _ _ 0 [(0, .ref mo), (1, .int (zI (u : Int))), (2, .int (zI ru)), (3, .long (zL (uu : Int)))] [] [oM mo th mw (nv : Int) mg ma mb (ns : Int) mlo mhi (nw : Int) mwe mru mrd, aL cL mw 160 (wkA rr), aI cI mg 100 (sgA sg), aL cL ma 800 (moA up), aL cL mb 800 (moA dn)]
  have ku := hV u hu
  obtain ⟨u1, u2, u3, u4, u5, u6⟩ := id ku
  have m1 : up u * uu < 10 ^ 60 := by
    have := Nat.mul_le_mul (Nat.le_of_lt u3) huu.2
    have e : (10 : Nat) ^ 48 * 1000000000 = 10 ^ 57 := by decide
    omega
  have hq1 := Nat.div_le_self (up u * uu) (dn u)
  have hm1 := Nat.mod_lt (up u * uu) u4
  have hiu := iuV_r (r := up u * uu % dn u) (z := dn u) (sg := sg u) (ru := ru) (q := up u * uu / dn u)
  have hrn := rnd_iu (x := up u) (z := dn u) (sg := sg u) (ru := ru) (u := uu)
  have e60 : (10 : Nat) ^ 60 < 1000000 ^ 20 := by decide
  have hrl := rndN_le (x := up u) (z := dn u) (sg := sg u) (ru := ru) (u := uu)
  refine z_aload_n S d_M_round_0 0 rfl ?_
  refine z_aload_n S d_M_round_1 0 rfl ?_
  refine z_iload_n S d_M_round_2 1 rfl ?_
  refine z_callVa (As := [.int (zI (u : Int))]) (st := [.ref mo]) (wc := [oM mo th mw (nv : Int) mg ma mb (ns : Int) mlo mhi (nw : Int) mwe mru mrd]) (wr := [aL cL mw 160 (wkA rr), aI cI mg 100 (sgA sg), aL cL ma 800 (moA up), aL cL mb 800 (moA dn)]) S hGok hK hg hA (s_M_isValue l dC dI cI cL qT mo mw nv ma mb ns mlo mhi nw mwe mru mrd th mg (u : Int) (by omega) (by omega)) (zcwV S (List.mem_cons_of_mem _ k_M_125) mV_M_isValue k_M_125 hd_M_isValue rfl rfl ⟨Nat.le_of_ble_eq_true rfl, Nat.le_of_ble_eq_true rfl⟩) rfl (Nat.le_of_ble_eq_true rfl) d_M_round_3 ⟨Nat.le_of_ble_eq_true rfl, Nat.le_of_ble_eq_true rfl⟩ rfl [0] [1, 2, 3, 4] 0 rfl rfl rfl (by decide) rfl rfl rfl (by decide) (by decide) (fun x w hp => ?_)
  obtain ⟨rfl, rfl⟩ := hp
  show ZZ _ _ _ _ _ _ _ _ _ _ _ _ _ _ _ _ _ _ 6 [(0, .ref mo), (1, .int (zI (u : Int))), (2, .int (zI ru)), (3, .long (zL (uu : Int)))] [.int (zI (b2 (0 ≤ (u : Int) ∧ (u : Int) < (nv : Int)))), .ref mo] [aL cL mw 160 (wkA rr), aI cI mg 100 (sgA sg), aL cL ma 800 (moA up), aL cL mb 800 (moA dn), oM mo th mw (nv : Int) mg ma mb (ns : Int) mlo mhi (nw : Int) mwe mru mrd]
  refine z_toi (a := 1) (zI_c (b2_t ⟨by omega, by omega⟩)) ?_
  refine z_if_eq (tgt := 23) S d_M_round_6 (by decide) (by omega) (fun c1 => ?_) (fun c1 => ?_)
  · skip
    exact absurd c1 (by omega)
  · skip
    refine z_iload_n S d_M_round_9 2 rfl ?_
    refine z_if_lt (tgt := 23) S d_M_round_10 (by decide) (by omega) (fun c2 => ?_) (fun c2 => ?_)
    · skip
      omega
    · skip
      refine z_iload_n S d_M_round_13 2 rfl ?_
      refine z_bipush S d_M_round_14 rfl ?_
      refine z_icmp_gt (tgt := 23) S d_M_round_16 (by decide) (by omega) (by omega) (fun c3 => ?_) (fun c3 => ?_)
      · skip
        omega
      · skip
        refine z_iconst S d_M_round_19 ?_
        refine z_goto (tgt := 24) S d_M_round_20 (by decide) ?_
        refine z_lload_n S d_M_round_24 3 rfl ?_
        refine z_lconst (z := 1) S d_M_round_25 rfl ?_
        refine z_lcmp_lt (tgt := 42) S d_M_round_26 d_M_round_27 (by decide) (by omega) (by omega) (fun c4 => ?_) (fun c4 => ?_)
        · skip
          omega
        · skip
          refine z_lload_n S d_M_round_30 3 rfl ?_
          refine z_ldc2 (v := 1000000000) (z := 1000000000) S k_M_138 d_M_round_31 (by decide) ?_
          refine z_lcmp_gt (tgt := 42) S d_M_round_34 d_M_round_35 (by decide) (by omega) (by omega) (fun c5 => ?_) (fun c5 => ?_)
          · skip
            omega
          · skip
            refine z_iconst S d_M_round_38 ?_
            refine z_goto (tgt := 43) S d_M_round_39 (by decide) ?_
            refine z_aload_n S d_M_round_43 0 rfl ?_
            refine z_get S hK la_M 4 rfl rfl 2 (by decide) k_M_42 rfl d_M_round_44 ?_
            refine z_bipush S d_M_round_47 rfl ?_
            refine z_icmp_ge (tgt := 56) S d_M_round_49 (by decide) (by omega) (by omega) (fun c6 => ?_) (fun c6 => ?_)
            · skip
              omega
            · skip
              refine z_iconst S d_M_round_52 ?_
              refine z_goto (tgt := 57) S d_M_round_53 (by decide) ?_
              refine z_callVa (As := [.int (zI 1), .int (zI 1), .int (zI 1)]) (st := []) (wc := [oM mo th mw (nv : Int) mg ma mb (ns : Int) mlo mhi (nw : Int) mwe mru mrd]) (wr := [aL cL mw 160 (wkA rr), aI cI mg 100 (sgA sg), aL cL ma 800 (moA up), aL cL mb 800 (moA dn)]) S hGok hK hg hA (s_M_goes l dC dI cI cL qT mo mw nv ma mb ns mlo mhi nw mwe mru mrd th mg 1 1 1 (by omega) (by omega) (by omega)) (zcwV S (List.mem_cons_of_mem _ k_M_118) mV_M_goes k_M_118 hd_M_goes rfl rfl ⟨Nat.le_of_ble_eq_true rfl, Nat.le_of_ble_eq_true rfl⟩) rfl (Nat.le_of_ble_eq_true rfl) d_M_round_57 ⟨Nat.le_of_ble_eq_true rfl, Nat.le_of_ble_eq_true rfl⟩ rfl [4] [0, 1, 2, 3] 4 rfl rfl rfl (by decide) rfl rfl rfl (by decide) (by decide) (fun x w hp => ?_)
              obtain ⟨rfl, rfl⟩ := hp
              show ZZ _ _ _ _ _ _ _ _ _ _ _ _ _ _ _ _ _ _ 60 [(0, .ref mo), (1, .int (zI (u : Int))), (2, .int (zI ru)), (3, .long (zL (uu : Int)))] [.int (zI (b2 (gth 1 1 1 = 0)))] [aL cL mw 160 (wkA rr), aI cI mg 100 (sgA sg), aL cL ma 800 (moA up), aL cL mb 800 (moA dn), oM mo (gth 1 1 1) mw (nv : Int) mg ma mb (ns : Int) mlo mhi (nw : Int) mwe mru mrd]
              refine z_toi (a := 1) rfl ?_
              refine z_wq (ws' := [aL cL mw 160 (wkA rr), aI cI mg 100 (sgA sg), aL cL ma 800 (moA up), aL cL mb 800 (moA dn), oM mo 0 mw (nv : Int) mg ma mb (ns : Int) mlo mhi (nw : Int) mwe mru mrd]) rfl ?_
              refine z_if_ne (tgt := 65) S d_M_round_60 (by decide) (by omega) (fun c7 => ?_) (fun c7 => ?_)
              · skip
                refine z_aload_n S d_M_round_65 0 rfl ?_
                refine z_iload_n S d_M_round_66 1 rfl ?_
                refine z_iconst S d_M_round_67 ?_
                refine z_callVv (As := [.int (zI (u : Int)), .int (zI 3)]) (st := []) (wc := [oM mo 0 mw (nv : Int) mg ma mb (ns : Int) mlo mhi (nw : Int) mwe mru mrd, aL cL mw 160 (wkA rr), aL cL ma 800 (moA up)]) (wr := [aI cI mg 100 (sgA sg), aL cL mb 800 (moA dn)]) S hGok hK hg hA (s_M_loadUp l dC dI cI cL qT mo mw nv ma mb ns mlo mhi nw mwe mru mrd 0 mg rr up u 3 (by omega) (by omega) (by omega)) (zcwV S (List.mem_cons_of_mem _ k_M_109) mV_M_loadUp k_M_109 hd_M_loadUp rfl rfl ⟨Nat.le_of_ble_eq_true rfl, Nat.le_of_ble_eq_true rfl⟩) rfl (Nat.le_of_ble_eq_true rfl) d_M_round_68 ⟨Nat.le_of_ble_eq_true rfl, Nat.le_of_ble_eq_true rfl⟩ rfl [4, 0, 2] [1, 3] 4 rfl rfl rfl (by decide) rfl rfl rfl (by decide) (by decide) (fun w hp => ?_)
                subst hp
                show ZZ _ _ _ _ _ _ _ _ _ _ _ _ _ _ _ _ _ _ 71 [(0, .ref mo), (1, .int (zI (u : Int))), (2, .int (zI ru)), (3, .long (zL (uu : Int)))] [] [aI cI mg 100 (sgA sg), aL cL mb 800 (moA dn), oM mo 0 mw (nv : Int) mg ma mb (ns : Int) mlo mhi (nw : Int) mwe mru mrd, aL cL mw 160 (wkA (un rr 3 (up u))), aL cL ma 800 (moA up)]
                obtain ⟨ra, hra, a3⟩ : ∃ ra : Nat → Nat, ra = (un rr 3 (up u)) ∧ ra 3 = up u := ⟨(un rr 3 (up u)), rfl, rfl⟩
                refine z_wq (ws' := [aI cI mg 100 (sgA sg), aL cL mb 800 (moA dn), oM mo 0 mw (nv : Int) mg ma mb (ns : Int) mlo mhi (nw : Int) mwe mru mrd, aL cL mw 160 (wkA ra), aL cL ma 800 (moA up)]) (by rw [hra]) ?_
                refine z_aload_n S d_M_round_71 0 rfl ?_
                refine z_bipush S d_M_round_72 rfl ?_
                refine z_lload_n S d_M_round_74 3 rfl ?_
                refine z_callVv (As := [.int (zI 6), .long (zL (uu : Int))]) (st := []) (wc := [oM mo 0 mw (nv : Int) mg ma mb (ns : Int) mlo mhi (nw : Int) mwe mru mrd, aL cL mw 160 (wkA ra)]) (wr := [aI cI mg 100 (sgA sg), aL cL mb 800 (moA dn), aL cL ma 800 (moA up)]) S hGok hK hg hA (s_M_set l dC dI cI cL qT mo mw nv ma mb ns mlo mhi nw mwe mru mrd 0 mg ra 6 uu (by omega) (by omega)) (zcwV S (List.mem_cons_of_mem _ k_M_91) mV_M_set k_M_91 hd_M_set rfl rfl ⟨Nat.le_of_ble_eq_true rfl, Nat.le_of_ble_eq_true rfl⟩) rfl (Nat.le_of_ble_eq_true rfl) d_M_round_75 ⟨Nat.le_of_ble_eq_true rfl, Nat.le_of_ble_eq_true rfl⟩ rfl [2, 3] [0, 1, 4] 2 rfl rfl rfl (by decide) rfl rfl rfl (by decide) (by decide) (fun w hp => ?_)
                subst hp
                show ZZ _ _ _ _ _ _ _ _ _ _ _ _ _ _ _ _ _ _ 78 [(0, .ref mo), (1, .int (zI (u : Int))), (2, .int (zI ru)), (3, .long (zL (uu : Int)))] [] [aI cI mg 100 (sgA sg), aL cL mb 800 (moA dn), aL cL ma 800 (moA up), oM mo 0 mw (nv : Int) mg ma mb (ns : Int) mlo mhi (nw : Int) mwe mru mrd, aL cL mw 160 (wkA (un ra 6 uu))]
                obtain ⟨rb, hrb, b3_, b6⟩ : ∃ rb : Nat → Nat, rb = (un ra 6 uu) ∧ rb 3 = up u ∧ rb 6 = uu := ⟨(un ra 6 uu), rfl, a3, rfl⟩
                refine z_wq (ws' := [aI cI mg 100 (sgA sg), aL cL mb 800 (moA dn), aL cL ma 800 (moA up), oM mo 0 mw (nv : Int) mg ma mb (ns : Int) mlo mhi (nw : Int) mwe mru mrd, aL cL mw 160 (wkA rb)]) (by rw [hrb]) ?_
                refine z_aload_n S d_M_round_78 0 rfl ?_
                refine z_iconst S d_M_round_79 ?_
                refine z_bipush S d_M_round_80 rfl ?_
                refine z_iconst S d_M_round_82 ?_
                refine z_callVv (As := [.int (zI 3), .int (zI 6), .int (zI 2)]) (st := []) (wc := [oM mo 0 mw (nv : Int) mg ma mb (ns : Int) mlo mhi (nw : Int) mwe mru mrd, aL cL mw 160 (wkA rb)]) (wr := [aI cI mg 100 (sgA sg), aL cL mb 800 (moA dn), aL cL ma 800 (moA up)]) S hGok hK hg hA (s_M_multiply l dC dI cI cL qT mo mw nv ma mb ns mlo mhi nw mwe mru mrd 0 mg rb 3 6 2 (by omega) (by omega) (by omega) (by omega) (by omega) (by omega) (by omega) (by rw [b3_, b6]; omega)) (zcwV S (List.mem_cons_of_mem _ k_M_115) mV_M_multiply k_M_115 hd_M_multiply rfl rfl ⟨Nat.le_of_ble_eq_true rfl, Nat.le_of_ble_eq_true rfl⟩) rfl (Nat.le_of_ble_eq_true rfl) d_M_round_83 ⟨Nat.le_of_ble_eq_true rfl, Nat.le_of_ble_eq_true rfl⟩ rfl [3, 4] [0, 1, 2] 3 rfl rfl rfl (by decide) rfl rfl rfl (by decide) (by decide) (fun w hp => ?_)
                subst hp
                show ZZ _ _ _ _ _ _ _ _ _ _ _ _ _ _ _ _ _ _ 86 [(0, .ref mo), (1, .int (zI (u : Int))), (2, .int (zI ru)), (3, .long (zL (uu : Int)))] [] [aI cI mg 100 (sgA sg), aL cL mb 800 (moA dn), aL cL ma 800 (moA up), oM mo 0 mw (nv : Int) mg ma mb (ns : Int) mlo mhi (nw : Int) mwe mru mrd, aL cL mw 160 (wkA (un rb 2 (rb 3 * rb 6)))]
                obtain ⟨rc, hrc, c2, c6⟩ : ∃ rc : Nat → Nat, rc = (un rb 2 (rb 3 * rb 6)) ∧ rc 2 = up u * uu ∧ rc 6 = uu := ⟨(un rb 2 (rb 3 * rb 6)), rfl, (by show rb 3 * rb 6 = _; rw [b3_, b6]), b6⟩
                refine z_wq (ws' := [aI cI mg 100 (sgA sg), aL cL mb 800 (moA dn), aL cL ma 800 (moA up), oM mo 0 mw (nv : Int) mg ma mb (ns : Int) mlo mhi (nw : Int) mwe mru mrd, aL cL mw 160 (wkA rc)]) (by rw [hrc]) ?_
                refine z_aload_n S d_M_round_86 0 rfl ?_
                refine z_iload_n S d_M_round_87 1 rfl ?_
                refine z_iconst S d_M_round_88 ?_
                refine z_callVv (As := [.int (zI (u : Int)), .int (zI 3)]) (st := []) (wc := [oM mo 0 mw (nv : Int) mg ma mb (ns : Int) mlo mhi (nw : Int) mwe mru mrd, aL cL mw 160 (wkA rc), aL cL mb 800 (moA dn)]) (wr := [aI cI mg 100 (sgA sg), aL cL ma 800 (moA up)]) S hGok hK hg hA (s_M_loadDown l dC dI cI cL qT mo mw nv ma mb ns mlo mhi nw mwe mru mrd 0 mg rc dn u 3 (by omega) (by omega) (by omega)) (zcwV S (List.mem_cons_of_mem _ k_M_112) mV_M_loadDown k_M_112 hd_M_loadDown rfl rfl ⟨Nat.le_of_ble_eq_true rfl, Nat.le_of_ble_eq_true rfl⟩) rfl (Nat.le_of_ble_eq_true rfl) d_M_round_89 ⟨Nat.le_of_ble_eq_true rfl, Nat.le_of_ble_eq_true rfl⟩ rfl [3, 4, 1] [0, 2] 3 rfl rfl rfl (by decide) rfl rfl rfl (by decide) (by decide) (fun w hp => ?_)
                subst hp
                show ZZ _ _ _ _ _ _ _ _ _ _ _ _ _ _ _ _ _ _ 92 [(0, .ref mo), (1, .int (zI (u : Int))), (2, .int (zI ru)), (3, .long (zL (uu : Int)))] [] [aI cI mg 100 (sgA sg), aL cL ma 800 (moA up), oM mo 0 mw (nv : Int) mg ma mb (ns : Int) mlo mhi (nw : Int) mwe mru mrd, aL cL mw 160 (wkA (un rc 3 (dn u))), aL cL mb 800 (moA dn)]
                obtain ⟨rd, hrd, d2, d6, d3⟩ : ∃ rd : Nat → Nat, rd = (un rc 3 (dn u)) ∧ rd 2 = up u * uu ∧ rd 6 = uu ∧ rd 3 = dn u := ⟨(un rc 3 (dn u)), rfl, c2, c6, rfl⟩
                refine z_wq (ws' := [aI cI mg 100 (sgA sg), aL cL ma 800 (moA up), oM mo 0 mw (nv : Int) mg ma mb (ns : Int) mlo mhi (nw : Int) mwe mru mrd, aL cL mw 160 (wkA rd), aL cL mb 800 (moA dn)]) (by rw [hrd]) ?_
                refine z_aload_n S d_M_round_92 0 rfl ?_
                refine z_iconst S d_M_round_93 ?_
                refine z_iconst S d_M_round_94 ?_
                refine z_iconst S d_M_round_95 ?_
                refine z_callVv (As := [.int (zI 2), .int (zI 3), .int (zI 0)]) (st := []) (wc := [oM mo 0 mw (nv : Int) mg ma mb (ns : Int) mlo mhi (nw : Int) mwe mru mrd, aL cL mw 160 (wkA rd)]) (wr := [aI cI mg 100 (sgA sg), aL cL ma 800 (moA up), aL cL mb 800 (moA dn)]) S hGok hK hg hA (s_M_divide l dC dI cI cL qT mo mw nv ma mb ns mlo mhi nw mwe mru mrd 0 mg rd 2 3 0 (by omega) (by omega) (by omega) (by omega) (by omega) (by omega) (by omega) (by omega) (by omega)) (zcwV S (List.mem_cons_of_mem _ k_M_101) mV_M_divide k_M_101 hd_M_divide rfl rfl ⟨Nat.le_of_ble_eq_true rfl, Nat.le_of_ble_eq_true rfl⟩) rfl (Nat.le_of_ble_eq_true rfl) d_M_round_96 ⟨Nat.le_of_ble_eq_true rfl, Nat.le_of_ble_eq_true rfl⟩ rfl [2, 3] [0, 1, 4] 2 rfl rfl rfl (by decide) rfl rfl rfl (by decide) (by decide) (fun w hp => ?_)
                subst hp
                show ZZ _ _ _ _ _ _ _ _ _ _ _ _ _ _ _ _ _ _ 99 [(0, .ref mo), (1, .int (zI (u : Int))), (2, .int (zI ru)), (3, .long (zL (uu : Int)))] [] [aI cI mg 100 (sgA sg), aL cL ma 800 (moA up), aL cL mb 800 (moA dn), oM mo 0 mw (nv : Int) mg ma mb (ns : Int) mlo mhi (nw : Int) mwe mru mrd, aL cL mw 160 (wkA (un (un rd 0 (rd 2 / rd 3)) 2 (rd 2 % rd 3)))]
                obtain ⟨re, hre, e0, e2, e3, e6⟩ : ∃ re : Nat → Nat, re = (un (un rd 0 (rd 2 / rd 3)) 2 (rd 2 % rd 3)) ∧ re 0 = up u * uu / dn u ∧ re 2 = up u * uu % dn u ∧ re 3 = dn u ∧ re 6 = uu := ⟨(un (un rd 0 (rd 2 / rd 3)) 2 (rd 2 % rd 3)), rfl, (by show rd 2 / rd 3 = _; rw [d2, d3]), (by show rd 2 % rd 3 = _; rw [d2, d3]), d3, d6⟩
                refine z_wq (ws' := [aI cI mg 100 (sgA sg), aL cL ma 800 (moA up), aL cL mb 800 (moA dn), oM mo 0 mw (nv : Int) mg ma mb (ns : Int) mlo mhi (nw : Int) mwe mru mrd, aL cL mw 160 (wkA re)]) (by rw [hre]) ?_
                refine z_aload_n S d_M_round_99 0 rfl ?_
                refine z_iload_n S d_M_round_100 2 rfl ?_
                refine z_aload_n S d_M_round_101 0 rfl ?_
                refine z_get S hK la_M 3 rfl rfl 3 (by decide) k_M_13 rfl d_M_round_102 ?_
                refine z_iload_n S d_M_round_105 1 rfl ?_
                refine z_iald (x := sg u) S hK 0 0 rfl rfl u rfl (by omega) (by decide) rfl d_M_round_106 ?_
                refine z_callVa (As := [.int (zI ru), .int (zI (sg u))]) (st := []) (wc := [oM mo 0 mw (nv : Int) mg ma mb (ns : Int) mlo mhi (nw : Int) mwe mru mrd, aL cL mw 160 (wkA re)]) (wr := [aI cI mg 100 (sgA sg), aL cL ma 800 (moA up), aL cL mb 800 (moA dn)]) S hGok hK hg hA (s_M_isUp l dC dI cI cL qT mo mw nv ma mb ns mlo mhi nw mwe mru mrd 0 mg re ru (sg u) (by omega) (by omega) (by rw [e2, e3]; exact hm1) (by rw [e3]; exact u5)) (zcwV S (List.mem_cons_of_mem _ k_M_140) mV_M_isUp k_M_140 hd_M_isUp rfl rfl ⟨Nat.le_of_ble_eq_true rfl, Nat.le_of_ble_eq_true rfl⟩) rfl (Nat.le_of_ble_eq_true rfl) d_M_round_107 ⟨Nat.le_of_ble_eq_true rfl, Nat.le_of_ble_eq_true rfl⟩ rfl [3, 4] [0, 1, 2] 3 rfl rfl rfl (by decide) rfl rfl rfl (by decide) (by decide) (fun x w hp => ?_)
                obtain ⟨rj, j0x, j6x, rfl, rfl⟩ := hp
                show ZZ _ _ _ _ _ _ _ _ _ _ _ _ _ _ _ _ _ _ 110 [(0, .ref mo), (1, .int (zI (u : Int))), (2, .int (zI ru)), (3, .long (zL (uu : Int)))] [.int (zI (iuV (re 2) (re 3) (sg u) ru (re 0)))] [aI cI mg 100 (sgA sg), aL cL ma 800 (moA up), aL cL mb 800 (moA dn), oM mo 0 mw (nv : Int) mg ma mb (ns : Int) mlo mhi (nw : Int) mwe mru mrd, aL cL mw 160 (wkA rj)]
                have j0 : rj 0 = up u * uu / dn u := by rw [j0x, e0]
                have j6 : rj 6 = uu := by rw [j6x, e6]
                have hiu2 : 0 ≤ iuV (re 2) (re 3) (sg u) ru (re 0) ∧ iuV (re 2) (re 3) (sg u) ru (re 0) ≤ 1 := by rw [e2, e3, e0]; exact hiu
                refine z_if_eq (tgt := 125) S d_M_round_110 (by decide) (by omega) (fun c8 => ?_) (fun c8 => ?_)
                · skip
                  have hi0 : iuV (up u * uu % dn u) (dn u) (sg u) ru (up u * uu / dn u) = 0 := by
                    have := c8
                    rw [e2, e3, e0] at this
                    exact this
                  refine z_aload_n S d_M_round_125 0 rfl ?_
                  refine z_bipush S d_M_round_126 rfl ?_
                  refine z_iconst S d_M_round_128 ?_
                  refine z_callVv (As := [.int (zI 6), .int (zI 1)]) (st := []) (wc := [oM mo 0 mw (nv : Int) mg ma mb (ns : Int) mlo mhi (nw : Int) mwe mru mrd, aL cL mw 160 (wkA rj)]) (wr := [aI cI mg 100 (sgA sg), aL cL ma 800 (moA up), aL cL mb 800 (moA dn)]) S hGok hK hg hA (s_M_copy l dC dI cI cL qT mo mw nv ma mb ns mlo mhi nw mwe mru mrd 0 mg rj 6 1 (by omega) (by omega)) (zcwV S (List.mem_cons_of_mem _ k_M_95) mV_M_copy k_M_95 hd_M_copy rfl rfl ⟨Nat.le_of_ble_eq_true rfl, Nat.le_of_ble_eq_true rfl⟩) rfl (Nat.le_of_ble_eq_true rfl) d_M_round_129 ⟨Nat.le_of_ble_eq_true rfl, Nat.le_of_ble_eq_true rfl⟩ rfl [3, 4] [0, 1, 2] 3 rfl rfl rfl (by decide) rfl rfl rfl (by decide) (by decide) (fun w hp => ?_)
                  subst hp
                  show ZZ _ _ _ _ _ _ _ _ _ _ _ _ _ _ _ _ _ _ 132 [(0, .ref mo), (1, .int (zI (u : Int))), (2, .int (zI ru)), (3, .long (zL (uu : Int)))] [] [aI cI mg 100 (sgA sg), aL cL ma 800 (moA up), aL cL mb 800 (moA dn), oM mo 0 mw (nv : Int) mg ma mb (ns : Int) mlo mhi (nw : Int) mwe mru mrd, aL cL mw 160 (wkA (un rj 1 (rj 6)))]
                  obtain ⟨rh, hrh, sk0, sk1⟩ : ∃ rh : Nat → Nat, rh = (un rj 1 (rj 6)) ∧ rh 0 = rndN (up u) (dn u) (sg u) ru uu ∧ rh 1 = uu := ⟨(un rj 1 (rj 6)), rfl, (show rj 0 = _ by rw [j0, hrn, if_pos hi0]), j6⟩
                  refine z_wq (ws' := [aI cI mg 100 (sgA sg), aL cL ma 800 (moA up), aL cL mb 800 (moA dn), oM mo 0 mw (nv : Int) mg ma mb (ns : Int) mlo mhi (nw : Int) mwe mru mrd, aL cL mw 160 (wkA rh)]) (by rw [hrh]) ?_
                  refine z_aload_n S d_M_round_132 0 rfl ?_
                  refine z_aload_n S d_M_round_133 0 rfl ?_
                  refine z_get S hK la_M 3 rfl rfl 3 (by decide) k_M_13 rfl d_M_round_134 ?_
                  refine z_iload_n S d_M_round_137 1 rfl ?_
                  refine z_iald (x := sg u) S hK 0 0 rfl rfl u rfl (by omega) (by decide) rfl d_M_round_138 ?_
                  refine z_callVa (As := [.int (zI (sg u))]) (st := []) (wc := [oM mo 0 mw (nv : Int) mg ma mb (ns : Int) mlo mhi (nw : Int) mwe mru mrd, aL cL mw 160 (wkA rh), aI cI mg 100 (sgA sg), aL cL ma 800 (moA up), aL cL mb 800 (moA dn)]) (wr := []) S hGok hK hg hA (s_M_keep l dC dI cI cL qT mo mw nv ma mb ns mlo mhi nw mwe mru mrd 0 mg rh sg up dn (sg u) (by omega) (by rw [sk0]; omega) (by rw [sk1]; omega) (by rw [sk1]; exact huu.1) (by omega)) (zcwV S (List.mem_cons_of_mem _ k_M_122) mV_M_keep k_M_122 hd_M_keep rfl rfl ⟨Nat.le_of_ble_eq_true rfl, Nat.le_of_ble_eq_true rfl⟩) rfl (Nat.le_of_ble_eq_true rfl) d_M_round_139 ⟨Nat.le_of_ble_eq_true rfl, Nat.le_of_ble_eq_true rfl⟩ rfl [3, 4, 0, 1, 2] [] 3 rfl rfl rfl (by decide) rfl rfl rfl (by decide) (by decide) (fun x w hp => ?_)
                  obtain ⟨rk, rfl, rfl⟩ := hp
                  show ZZ _ _ _ _ _ _ _ _ _ _ _ _ _ _ _ _ _ _ 142 [(0, .ref mo), (1, .int (zI (u : Int))), (2, .int (zI ru)), (3, .long (zL (uu : Int)))] [.int (zI (kpR nv (lwX (rh 0) (rh 1)) (lwZ (rh 0) (rh 1))))] [oM mo 0 mw ((kpC nv (lwX (rh 0) (rh 1)) (lwZ (rh 0) (rh 1)) : Nat) : Int) mg ma mb (ns : Int) mlo mhi (nw : Int) mwe mru mrd, aL cL mw 160 (wkA rk), aI cI mg 100 (sgA (kpS sg nv (zs (lwX (rh 0) (rh 1)) (sg u)) (lwX (rh 0) (rh 1)) (lwZ (rh 0) (rh 1)))), aL cL ma 800 (moA (kpU up nv (lwX (rh 0) (rh 1)) (lwX (rh 0) (rh 1)) (lwZ (rh 0) (rh 1)))), aL cL mb 800 (moA (kpU dn nv (lwZ (rh 0) (rh 1)) (lwX (rh 0) (rh 1)) (lwZ (rh 0) (rh 1))))]
                  exact z_iret (w := [oM mo 0 mw ((kpC nv (lwX (rh 0) (rh 1)) (lwZ (rh 0) (rh 1)) : Nat) : Int) mg ma mb (ns : Int) mlo mhi (nw : Int) mwe mru mrd, aL cL mw 160 (wkA rk), aI cI mg 100 (sgA (kpS sg nv (zs (lwX (rh 0) (rh 1)) (sg u)) (lwX (rh 0) (rh 1)) (lwZ (rh 0) (rh 1)))), aL cL ma 800 (moA (kpU up nv (lwX (rh 0) (rh 1)) (lwX (rh 0) (rh 1)) (lwZ (rh 0) (rh 1)))), aL cL mb 800 (moA (kpU dn nv (lwZ (rh 0) (rh 1)) (lwX (rh 0) (rh 1)) (lwZ (rh 0) (rh 1))))]) S hr hlo hAe d_M_round_142 [0, 1, 2, 3, 4] (by decide) rfl rfl ⟨Nat.le_refl _, Nat.le_refl _⟩ (⟨rk, by rw [sk0, sk1], by rw [sk0, sk1, zs_lw huu.1]; rfl⟩)
                · skip
                  have hi0 : ¬ iuV (up u * uu % dn u) (dn u) (sg u) ru (up u * uu / dn u) = 0 := by
                    have := c8
                    rw [e2, e3, e0] at this
                    exact this
                  refine z_aload_n S d_M_round_113 0 rfl ?_
                  refine z_iconst S d_M_round_114 ?_
                  refine z_lconst (z := 1) S d_M_round_115 rfl ?_
                  refine z_callVv (As := [.int (zI 1), .long (zL 1)]) (st := []) (wc := [oM mo 0 mw (nv : Int) mg ma mb (ns : Int) mlo mhi (nw : Int) mwe mru mrd, aL cL mw 160 (wkA rj)]) (wr := [aI cI mg 100 (sgA sg), aL cL ma 800 (moA up), aL cL mb 800 (moA dn)]) S hGok hK hg hA (s_M_set l dC dI cI cL qT mo mw nv ma mb ns mlo mhi nw mwe mru mrd 0 mg rj 1 1 (by omega) (by omega)) (zcwV S (List.mem_cons_of_mem _ k_M_91) mV_M_set k_M_91 hd_M_set rfl rfl ⟨Nat.le_of_ble_eq_true rfl, Nat.le_of_ble_eq_true rfl⟩) rfl (Nat.le_of_ble_eq_true rfl) d_M_round_116 ⟨Nat.le_of_ble_eq_true rfl, Nat.le_of_ble_eq_true rfl⟩ rfl [3, 4] [0, 1, 2] 3 rfl rfl rfl (by decide) rfl rfl rfl (by decide) (by decide) (fun w hp => ?_)
                  subst hp
                  show ZZ _ _ _ _ _ _ _ _ _ _ _ _ _ _ _ _ _ _ 119 [(0, .ref mo), (1, .int (zI (u : Int))), (2, .int (zI ru)), (3, .long (zL (uu : Int)))] [] [aI cI mg 100 (sgA sg), aL cL ma 800 (moA up), aL cL mb 800 (moA dn), oM mo 0 mw (nv : Int) mg ma mb (ns : Int) mlo mhi (nw : Int) mwe mru mrd, aL cL mw 160 (wkA (un rj 1 1))]
                  obtain ⟨rf, hrf, f0, f6, f1⟩ : ∃ rf : Nat → Nat, rf = (un rj 1 1) ∧ rf 0 = up u * uu / dn u ∧ rf 6 = uu ∧ rf 1 = 1 := ⟨(un rj 1 1), rfl, j0, j6, rfl⟩
                  refine z_wq (ws' := [aI cI mg 100 (sgA sg), aL cL ma 800 (moA up), aL cL mb 800 (moA dn), oM mo 0 mw (nv : Int) mg ma mb (ns : Int) mlo mhi (nw : Int) mwe mru mrd, aL cL mw 160 (wkA rf)]) (by rw [hrf]) ?_
                  refine z_aload_n S d_M_round_119 0 rfl ?_
                  refine z_iconst S d_M_round_120 ?_
                  refine z_iconst S d_M_round_121 ?_
                  refine z_callVv (As := [.int (zI 0), .int (zI 1)]) (st := []) (wc := [oM mo 0 mw (nv : Int) mg ma mb (ns : Int) mlo mhi (nw : Int) mwe mru mrd, aL cL mw 160 (wkA rf)]) (wr := [aI cI mg 100 (sgA sg), aL cL ma 800 (moA up), aL cL mb 800 (moA dn)]) S hGok hK hg hA (s_M_adds l dC dI cI cL qT mo mw nv ma mb ns mlo mhi nw mwe mru mrd 0 mg rf 0 1 (by omega) (by omega) (by rw [f0, f1]; omega)) (zcwV S (List.mem_cons_of_mem _ k_M_88) mV_M_adds k_M_88 hd_M_adds rfl rfl ⟨Nat.le_of_ble_eq_true rfl, Nat.le_of_ble_eq_true rfl⟩) rfl (Nat.le_of_ble_eq_true rfl) d_M_round_122 ⟨Nat.le_of_ble_eq_true rfl, Nat.le_of_ble_eq_true rfl⟩ rfl [3, 4] [0, 1, 2] 3 rfl rfl rfl (by decide) rfl rfl rfl (by decide) (by decide) (fun w hp => ?_)
                  subst hp
                  show ZZ _ _ _ _ _ _ _ _ _ _ _ _ _ _ _ _ _ _ 125 [(0, .ref mo), (1, .int (zI (u : Int))), (2, .int (zI ru)), (3, .long (zL (uu : Int)))] [] [aI cI mg 100 (sgA sg), aL cL ma 800 (moA up), aL cL mb 800 (moA dn), oM mo 0 mw (nv : Int) mg ma mb (ns : Int) mlo mhi (nw : Int) mwe mru mrd, aL cL mw 160 (wkA (un rf 0 (rf 0 + rf 1)))]
                  obtain ⟨rg, hrg, g0, g6⟩ : ∃ rg : Nat → Nat, rg = (un rf 0 (rf 0 + rf 1)) ∧ rg 0 = up u * uu / dn u + 1 ∧ rg 6 = uu := ⟨(un rf 0 (rf 0 + rf 1)), rfl, (by show rf 0 + rf 1 = _; rw [f0, f1]), f6⟩
                  refine z_wq (ws' := [aI cI mg 100 (sgA sg), aL cL ma 800 (moA up), aL cL mb 800 (moA dn), oM mo 0 mw (nv : Int) mg ma mb (ns : Int) mlo mhi (nw : Int) mwe mru mrd, aL cL mw 160 (wkA rg)]) (by rw [hrg]) ?_
                  refine z_aload_n S d_M_round_125 0 rfl ?_
                  refine z_bipush S d_M_round_126 rfl ?_
                  refine z_iconst S d_M_round_128 ?_
                  refine z_callVv (As := [.int (zI 6), .int (zI 1)]) (st := []) (wc := [oM mo 0 mw (nv : Int) mg ma mb (ns : Int) mlo mhi (nw : Int) mwe mru mrd, aL cL mw 160 (wkA rg)]) (wr := [aI cI mg 100 (sgA sg), aL cL ma 800 (moA up), aL cL mb 800 (moA dn)]) S hGok hK hg hA (s_M_copy l dC dI cI cL qT mo mw nv ma mb ns mlo mhi nw mwe mru mrd 0 mg rg 6 1 (by omega) (by omega)) (zcwV S (List.mem_cons_of_mem _ k_M_95) mV_M_copy k_M_95 hd_M_copy rfl rfl ⟨Nat.le_of_ble_eq_true rfl, Nat.le_of_ble_eq_true rfl⟩) rfl (Nat.le_of_ble_eq_true rfl) d_M_round_129 ⟨Nat.le_of_ble_eq_true rfl, Nat.le_of_ble_eq_true rfl⟩ rfl [3, 4] [0, 1, 2] 3 rfl rfl rfl (by decide) rfl rfl rfl (by decide) (by decide) (fun w hp => ?_)
                  subst hp
                  show ZZ _ _ _ _ _ _ _ _ _ _ _ _ _ _ _ _ _ _ 132 [(0, .ref mo), (1, .int (zI (u : Int))), (2, .int (zI ru)), (3, .long (zL (uu : Int)))] [] [aI cI mg 100 (sgA sg), aL cL ma 800 (moA up), aL cL mb 800 (moA dn), oM mo 0 mw (nv : Int) mg ma mb (ns : Int) mlo mhi (nw : Int) mwe mru mrd, aL cL mw 160 (wkA (un rg 1 (rg 6)))]
                  obtain ⟨rh, hrh, sk0, sk1⟩ : ∃ rh : Nat → Nat, rh = (un rg 1 (rg 6)) ∧ rh 0 = rndN (up u) (dn u) (sg u) ru uu ∧ rh 1 = uu := ⟨(un rg 1 (rg 6)), rfl, (show rg 0 = _ by rw [g0, hrn, if_neg hi0]), g6⟩
                  refine z_wq (ws' := [aI cI mg 100 (sgA sg), aL cL ma 800 (moA up), aL cL mb 800 (moA dn), oM mo 0 mw (nv : Int) mg ma mb (ns : Int) mlo mhi (nw : Int) mwe mru mrd, aL cL mw 160 (wkA rh)]) (by rw [hrh]) ?_
                  refine z_aload_n S d_M_round_132 0 rfl ?_
                  refine z_aload_n S d_M_round_133 0 rfl ?_
                  refine z_get S hK la_M 3 rfl rfl 3 (by decide) k_M_13 rfl d_M_round_134 ?_
                  refine z_iload_n S d_M_round_137 1 rfl ?_
                  refine z_iald (x := sg u) S hK 0 0 rfl rfl u rfl (by omega) (by decide) rfl d_M_round_138 ?_
                  refine z_callVa (As := [.int (zI (sg u))]) (st := []) (wc := [oM mo 0 mw (nv : Int) mg ma mb (ns : Int) mlo mhi (nw : Int) mwe mru mrd, aL cL mw 160 (wkA rh), aI cI mg 100 (sgA sg), aL cL ma 800 (moA up), aL cL mb 800 (moA dn)]) (wr := []) S hGok hK hg hA (s_M_keep l dC dI cI cL qT mo mw nv ma mb ns mlo mhi nw mwe mru mrd 0 mg rh sg up dn (sg u) (by omega) (by rw [sk0]; omega) (by rw [sk1]; omega) (by rw [sk1]; exact huu.1) (by omega)) (zcwV S (List.mem_cons_of_mem _ k_M_122) mV_M_keep k_M_122 hd_M_keep rfl rfl ⟨Nat.le_of_ble_eq_true rfl, Nat.le_of_ble_eq_true rfl⟩) rfl (Nat.le_of_ble_eq_true rfl) d_M_round_139 ⟨Nat.le_of_ble_eq_true rfl, Nat.le_of_ble_eq_true rfl⟩ rfl [3, 4, 0, 1, 2] [] 3 rfl rfl rfl (by decide) rfl rfl rfl (by decide) (by decide) (fun x w hp => ?_)
                  obtain ⟨rk, rfl, rfl⟩ := hp
                  show ZZ _ _ _ _ _ _ _ _ _ _ _ _ _ _ _ _ _ _ 142 [(0, .ref mo), (1, .int (zI (u : Int))), (2, .int (zI ru)), (3, .long (zL (uu : Int)))] [.int (zI (kpR nv (lwX (rh 0) (rh 1)) (lwZ (rh 0) (rh 1))))] [oM mo 0 mw ((kpC nv (lwX (rh 0) (rh 1)) (lwZ (rh 0) (rh 1)) : Nat) : Int) mg ma mb (ns : Int) mlo mhi (nw : Int) mwe mru mrd, aL cL mw 160 (wkA rk), aI cI mg 100 (sgA (kpS sg nv (zs (lwX (rh 0) (rh 1)) (sg u)) (lwX (rh 0) (rh 1)) (lwZ (rh 0) (rh 1)))), aL cL ma 800 (moA (kpU up nv (lwX (rh 0) (rh 1)) (lwX (rh 0) (rh 1)) (lwZ (rh 0) (rh 1)))), aL cL mb 800 (moA (kpU dn nv (lwZ (rh 0) (rh 1)) (lwX (rh 0) (rh 1)) (lwZ (rh 0) (rh 1))))]
                  exact z_iret (w := [oM mo 0 mw ((kpC nv (lwX (rh 0) (rh 1)) (lwZ (rh 0) (rh 1)) : Nat) : Int) mg ma mb (ns : Int) mlo mhi (nw : Int) mwe mru mrd, aL cL mw 160 (wkA rk), aI cI mg 100 (sgA (kpS sg nv (zs (lwX (rh 0) (rh 1)) (sg u)) (lwX (rh 0) (rh 1)) (lwZ (rh 0) (rh 1)))), aL cL ma 800 (moA (kpU up nv (lwX (rh 0) (rh 1)) (lwX (rh 0) (rh 1)) (lwZ (rh 0) (rh 1)))), aL cL mb 800 (moA (kpU dn nv (lwZ (rh 0) (rh 1)) (lwX (rh 0) (rh 1)) (lwZ (rh 0) (rh 1))))]) S hr hlo hAe d_M_round_142 [0, 1, 2, 3, 4] (by decide) rfl rfl ⟨Nat.le_refl _, Nat.le_refl _⟩ (⟨rk, by rw [sk0, sk1], by rw [sk0, sk1, zs_lw huu.1]; rfl⟩)
              · skip
                exact absurd c7 (by omega)
set_option maxHeartbeats 4000000 in
set_option maxRecDepth 100000 in
theorem f1_M_round (l : Launch) (dC : Nat → ClassId) (dI : Nat → Nat → Nat) (cI cL : ClassId) (qT : Nat) (mo : Nat) (mw : Nat) (nv : Nat) (ma : Nat) (mb : Nat) (ns : Nat) (mlo : Nat) (mhi : Nat) (nw : Nat) (mwe : Nat) (mru : Nat) (mrd : Nat) (th : Int) (mg : Nat) (u : Int) (ru : Int) (uu : Int) (hnv : nv ≤ 100) (hur : -2147483648 ≤ u ∧ u < 2147483648) (hrr : -2147483648 ≤ ru ∧ ru < 2147483648) (huur : -9223372036854775808 ≤ uu ∧ uu < 9223372036854775808) (hu : ¬ ((0 ≤ u ∧ u < (nv : Int)) ∧ (0 ≤ ru ∧ ru ≤ 6))) : Ct l y_M_round (Cond.code y_M_round c_M_round 5 (some .int) :: zB) { frames := 5, cells := 0, slots := 0, locals := 128 } (dC, dI) zcl [(cI, .int), (cL, .long)] (zG cI cL qT) [.ref mo, .int (zI u), .int (zI ru), .long (zL uu)] [oM mo th mw (nv : Int) mg ma mb (ns : Int) mlo mhi (nw : Int) mwe mru mrd] (fun rv wv => rv = .int (zI 0) ∧ wv = [oM mo 1 mw (nv : Int) mg ma mb (ns : Int) mlo mhi (nw : Int) mwe mru mrd]) 0 0 := by
  refine Cm.ofZ (cc := c_M_round) (maxL := 5) (ret := (some .int)) (by decide) rfl (Nat.le_of_ble_eq_true rfl) rfl ?_
  intro p e s m below meth c A S hr hlo hnm hK hg hA hAe
  have hGok := zG_ok cI cL qT
  show ZZ _ _ _ _ _ _ _ _ _ _ _ _ _ _ _ _ _ _ 0 [(0, .ref mo), (1, .int (zI u)), (2, .int (zI ru)), (3, .long (zL uu))] [] [oM mo th mw (nv : Int) mg ma mb (ns : Int) mlo mhi (nw : Int) mwe mru mrd]
  refine z_aload_n S d_M_round_0 0 rfl ?_
  refine z_aload_n S d_M_round_1 0 rfl ?_
  refine z_iload_n S d_M_round_2 1 rfl ?_
  refine z_callVa (As := [.int (zI u)]) (st := [.ref mo]) (wc := [oM mo th mw (nv : Int) mg ma mb (ns : Int) mlo mhi (nw : Int) mwe mru mrd]) (wr := []) S hGok hK hg hA (s_M_isValue l dC dI cI cL qT mo mw nv ma mb ns mlo mhi nw mwe mru mrd th mg u (by omega) (by omega)) (zcwV S (List.mem_cons_of_mem _ k_M_125) mV_M_isValue k_M_125 hd_M_isValue rfl rfl ⟨Nat.le_of_ble_eq_true rfl, Nat.le_of_ble_eq_true rfl⟩) rfl (Nat.le_of_ble_eq_true rfl) d_M_round_3 ⟨Nat.le_of_ble_eq_true rfl, Nat.le_of_ble_eq_true rfl⟩ rfl [0] [] 0 rfl rfl rfl (by decide) rfl rfl rfl (by decide) (by decide) (fun x w hp => ?_)
  obtain ⟨rfl, rfl⟩ := hp
  show ZZ _ _ _ _ _ _ _ _ _ _ _ _ _ _ _ _ _ _ 6 [(0, .ref mo), (1, .int (zI u)), (2, .int (zI ru)), (3, .long (zL uu))] [.int (zI (b2 (0 ≤ u ∧ u < (nv : Int)))), .ref mo] [oM mo th mw (nv : Int) mg ma mb (ns : Int) mlo mhi (nw : Int) mwe mru mrd]
  have hb1 := b2_r (0 ≤ u ∧ u < (nv : Int))
  refine z_if_eq (tgt := 23) S d_M_round_6 (by decide) (by omega) (fun c1 => ?_) (fun c1 => ?_)
  · skip
    refine z_iconst S d_M_round_23 ?_
    refine z_lload_n S d_M_round_24 3 rfl ?_
    refine z_lconst (z := 1) S d_M_round_25 rfl ?_
    refine z_lcmp_lt (tgt := 42) S d_M_round_26 d_M_round_27 (by decide) (by omega) (by omega) (fun c2 => ?_) (fun c2 => ?_)
    · skip
      refine z_iconst S d_M_round_42 ?_
      refine z_aload_n S d_M_round_43 0 rfl ?_
      refine z_get S hK la_M 0 rfl rfl 2 (by decide) k_M_42 rfl d_M_round_44 ?_
      refine z_bipush S d_M_round_47 rfl ?_
      refine z_icmp_ge (tgt := 56) S d_M_round_49 (by decide) (by omega) (by omega) (fun c3 => ?_) (fun c3 => ?_)
      · skip
        refine z_iconst S d_M_round_56 ?_
        refine z_callVa (As := [.int (zI 0), .int (zI 0), .int (zI 0)]) (st := []) (wc := [oM mo th mw (nv : Int) mg ma mb (ns : Int) mlo mhi (nw : Int) mwe mru mrd]) (wr := []) S hGok hK hg hA (s_M_goes l dC dI cI cL qT mo mw nv ma mb ns mlo mhi nw mwe mru mrd th mg 0 0 0 (by omega) (by omega) (by omega)) (zcwV S (List.mem_cons_of_mem _ k_M_118) mV_M_goes k_M_118 hd_M_goes rfl rfl ⟨Nat.le_of_ble_eq_true rfl, Nat.le_of_ble_eq_true rfl⟩) rfl (Nat.le_of_ble_eq_true rfl) d_M_round_57 ⟨Nat.le_of_ble_eq_true rfl, Nat.le_of_ble_eq_true rfl⟩ rfl [0] [] 0 rfl rfl rfl (by decide) rfl rfl rfl (by decide) (by decide) (fun x w hp => ?_)
        obtain ⟨rfl, rfl⟩ := hp
        show ZZ _ _ _ _ _ _ _ _ _ _ _ _ _ _ _ _ _ _ 60 [(0, .ref mo), (1, .int (zI u)), (2, .int (zI ru)), (3, .long (zL uu))] [.int (zI (b2 (gth 0 0 0 = 0)))] [oM mo (gth 0 0 0) mw (nv : Int) mg ma mb (ns : Int) mlo mhi (nw : Int) mwe mru mrd]
        refine z_toi (a := 0) rfl ?_
        refine z_wq (ws' := [oM mo 1 mw (nv : Int) mg ma mb (ns : Int) mlo mhi (nw : Int) mwe mru mrd]) rfl ?_
        refine z_if_ne (tgt := 65) S d_M_round_60 (by decide) (by omega) (fun c4 => ?_) (fun c4 => ?_)
        · skip
          exact absurd c4 (by omega)
        · skip
          refine z_iconst S d_M_round_63 ?_
          exact z_iret (w := [oM mo 1 mw (nv : Int) mg ma mb (ns : Int) mlo mhi (nw : Int) mwe mru mrd]) S hr hlo hAe d_M_round_64 [0] (by decide) rfl rfl ⟨Nat.le_refl _, Nat.le_refl _⟩ (⟨rfl, rfl⟩)
      · skip
        refine z_iconst S d_M_round_52 ?_
        refine z_goto (tgt := 57) S d_M_round_53 (by decide) ?_
        refine z_callVa (As := [.int (zI 0), .int (zI 0), .int (zI 1)]) (st := []) (wc := [oM mo th mw (nv : Int) mg ma mb (ns : Int) mlo mhi (nw : Int) mwe mru mrd]) (wr := []) S hGok hK hg hA (s_M_goes l dC dI cI cL qT mo mw nv ma mb ns mlo mhi nw mwe mru mrd th mg 0 0 1 (by omega) (by omega) (by omega)) (zcwV S (List.mem_cons_of_mem _ k_M_118) mV_M_goes k_M_118 hd_M_goes rfl rfl ⟨Nat.le_of_ble_eq_true rfl, Nat.le_of_ble_eq_true rfl⟩) rfl (Nat.le_of_ble_eq_true rfl) d_M_round_57 ⟨Nat.le_of_ble_eq_true rfl, Nat.le_of_ble_eq_true rfl⟩ rfl [0] [] 0 rfl rfl rfl (by decide) rfl rfl rfl (by decide) (by decide) (fun x w hp => ?_)
        obtain ⟨rfl, rfl⟩ := hp
        show ZZ _ _ _ _ _ _ _ _ _ _ _ _ _ _ _ _ _ _ 60 [(0, .ref mo), (1, .int (zI u)), (2, .int (zI ru)), (3, .long (zL uu))] [.int (zI (b2 (gth 0 0 1 = 0)))] [oM mo (gth 0 0 1) mw (nv : Int) mg ma mb (ns : Int) mlo mhi (nw : Int) mwe mru mrd]
        refine z_toi (a := 0) rfl ?_
        refine z_wq (ws' := [oM mo 1 mw (nv : Int) mg ma mb (ns : Int) mlo mhi (nw : Int) mwe mru mrd]) rfl ?_
        refine z_if_ne (tgt := 65) S d_M_round_60 (by decide) (by omega) (fun c5 => ?_) (fun c5 => ?_)
        · skip
          exact absurd c5 (by omega)
        · skip
          refine z_iconst S d_M_round_63 ?_
          exact z_iret (w := [oM mo 1 mw (nv : Int) mg ma mb (ns : Int) mlo mhi (nw : Int) mwe mru mrd]) S hr hlo hAe d_M_round_64 [0] (by decide) rfl rfl ⟨Nat.le_refl _, Nat.le_refl _⟩ (⟨rfl, rfl⟩)
    · skip
      refine z_lload_n S d_M_round_30 3 rfl ?_
      refine z_ldc2 (v := 1000000000) (z := 1000000000) S k_M_138 d_M_round_31 (by decide) ?_
      refine z_lcmp_gt (tgt := 42) S d_M_round_34 d_M_round_35 (by decide) (by omega) (by omega) (fun c6 => ?_) (fun c6 => ?_)
      · skip
        refine z_iconst S d_M_round_42 ?_
        refine z_aload_n S d_M_round_43 0 rfl ?_
        refine z_get S hK la_M 0 rfl rfl 2 (by decide) k_M_42 rfl d_M_round_44 ?_
        refine z_bipush S d_M_round_47 rfl ?_
        refine z_icmp_ge (tgt := 56) S d_M_round_49 (by decide) (by omega) (by omega) (fun c7 => ?_) (fun c7 => ?_)
        · skip
          refine z_iconst S d_M_round_56 ?_
          refine z_callVa (As := [.int (zI 0), .int (zI 0), .int (zI 0)]) (st := []) (wc := [oM mo th mw (nv : Int) mg ma mb (ns : Int) mlo mhi (nw : Int) mwe mru mrd]) (wr := []) S hGok hK hg hA (s_M_goes l dC dI cI cL qT mo mw nv ma mb ns mlo mhi nw mwe mru mrd th mg 0 0 0 (by omega) (by omega) (by omega)) (zcwV S (List.mem_cons_of_mem _ k_M_118) mV_M_goes k_M_118 hd_M_goes rfl rfl ⟨Nat.le_of_ble_eq_true rfl, Nat.le_of_ble_eq_true rfl⟩) rfl (Nat.le_of_ble_eq_true rfl) d_M_round_57 ⟨Nat.le_of_ble_eq_true rfl, Nat.le_of_ble_eq_true rfl⟩ rfl [0] [] 0 rfl rfl rfl (by decide) rfl rfl rfl (by decide) (by decide) (fun x w hp => ?_)
          obtain ⟨rfl, rfl⟩ := hp
          show ZZ _ _ _ _ _ _ _ _ _ _ _ _ _ _ _ _ _ _ 60 [(0, .ref mo), (1, .int (zI u)), (2, .int (zI ru)), (3, .long (zL uu))] [.int (zI (b2 (gth 0 0 0 = 0)))] [oM mo (gth 0 0 0) mw (nv : Int) mg ma mb (ns : Int) mlo mhi (nw : Int) mwe mru mrd]
          refine z_toi (a := 0) rfl ?_
          refine z_wq (ws' := [oM mo 1 mw (nv : Int) mg ma mb (ns : Int) mlo mhi (nw : Int) mwe mru mrd]) rfl ?_
          refine z_if_ne (tgt := 65) S d_M_round_60 (by decide) (by omega) (fun c8 => ?_) (fun c8 => ?_)
          · skip
            exact absurd c8 (by omega)
          · skip
            refine z_iconst S d_M_round_63 ?_
            exact z_iret (w := [oM mo 1 mw (nv : Int) mg ma mb (ns : Int) mlo mhi (nw : Int) mwe mru mrd]) S hr hlo hAe d_M_round_64 [0] (by decide) rfl rfl ⟨Nat.le_refl _, Nat.le_refl _⟩ (⟨rfl, rfl⟩)
        · skip
          refine z_iconst S d_M_round_52 ?_
          refine z_goto (tgt := 57) S d_M_round_53 (by decide) ?_
          refine z_callVa (As := [.int (zI 0), .int (zI 0), .int (zI 1)]) (st := []) (wc := [oM mo th mw (nv : Int) mg ma mb (ns : Int) mlo mhi (nw : Int) mwe mru mrd]) (wr := []) S hGok hK hg hA (s_M_goes l dC dI cI cL qT mo mw nv ma mb ns mlo mhi nw mwe mru mrd th mg 0 0 1 (by omega) (by omega) (by omega)) (zcwV S (List.mem_cons_of_mem _ k_M_118) mV_M_goes k_M_118 hd_M_goes rfl rfl ⟨Nat.le_of_ble_eq_true rfl, Nat.le_of_ble_eq_true rfl⟩) rfl (Nat.le_of_ble_eq_true rfl) d_M_round_57 ⟨Nat.le_of_ble_eq_true rfl, Nat.le_of_ble_eq_true rfl⟩ rfl [0] [] 0 rfl rfl rfl (by decide) rfl rfl rfl (by decide) (by decide) (fun x w hp => ?_)
          obtain ⟨rfl, rfl⟩ := hp
          show ZZ _ _ _ _ _ _ _ _ _ _ _ _ _ _ _ _ _ _ 60 [(0, .ref mo), (1, .int (zI u)), (2, .int (zI ru)), (3, .long (zL uu))] [.int (zI (b2 (gth 0 0 1 = 0)))] [oM mo (gth 0 0 1) mw (nv : Int) mg ma mb (ns : Int) mlo mhi (nw : Int) mwe mru mrd]
          refine z_toi (a := 0) rfl ?_
          refine z_wq (ws' := [oM mo 1 mw (nv : Int) mg ma mb (ns : Int) mlo mhi (nw : Int) mwe mru mrd]) rfl ?_
          refine z_if_ne (tgt := 65) S d_M_round_60 (by decide) (by omega) (fun c9 => ?_) (fun c9 => ?_)
          · skip
            exact absurd c9 (by omega)
          · skip
            refine z_iconst S d_M_round_63 ?_
            exact z_iret (w := [oM mo 1 mw (nv : Int) mg ma mb (ns : Int) mlo mhi (nw : Int) mwe mru mrd]) S hr hlo hAe d_M_round_64 [0] (by decide) rfl rfl ⟨Nat.le_refl _, Nat.le_refl _⟩ (⟨rfl, rfl⟩)
      · skip
        refine z_iconst S d_M_round_38 ?_
        refine z_goto (tgt := 43) S d_M_round_39 (by decide) ?_
        refine z_aload_n S d_M_round_43 0 rfl ?_
        refine z_get S hK la_M 0 rfl rfl 2 (by decide) k_M_42 rfl d_M_round_44 ?_
        refine z_bipush S d_M_round_47 rfl ?_
        refine z_icmp_ge (tgt := 56) S d_M_round_49 (by decide) (by omega) (by omega) (fun c10 => ?_) (fun c10 => ?_)
        · skip
          refine z_iconst S d_M_round_56 ?_
          refine z_callVa (As := [.int (zI 0), .int (zI 1), .int (zI 0)]) (st := []) (wc := [oM mo th mw (nv : Int) mg ma mb (ns : Int) mlo mhi (nw : Int) mwe mru mrd]) (wr := []) S hGok hK hg hA (s_M_goes l dC dI cI cL qT mo mw nv ma mb ns mlo mhi nw mwe mru mrd th mg 0 1 0 (by omega) (by omega) (by omega)) (zcwV S (List.mem_cons_of_mem _ k_M_118) mV_M_goes k_M_118 hd_M_goes rfl rfl ⟨Nat.le_of_ble_eq_true rfl, Nat.le_of_ble_eq_true rfl⟩) rfl (Nat.le_of_ble_eq_true rfl) d_M_round_57 ⟨Nat.le_of_ble_eq_true rfl, Nat.le_of_ble_eq_true rfl⟩ rfl [0] [] 0 rfl rfl rfl (by decide) rfl rfl rfl (by decide) (by decide) (fun x w hp => ?_)
          obtain ⟨rfl, rfl⟩ := hp
          show ZZ _ _ _ _ _ _ _ _ _ _ _ _ _ _ _ _ _ _ 60 [(0, .ref mo), (1, .int (zI u)), (2, .int (zI ru)), (3, .long (zL uu))] [.int (zI (b2 (gth 0 1 0 = 0)))] [oM mo (gth 0 1 0) mw (nv : Int) mg ma mb (ns : Int) mlo mhi (nw : Int) mwe mru mrd]
          refine z_toi (a := 0) rfl ?_
          refine z_wq (ws' := [oM mo 1 mw (nv : Int) mg ma mb (ns : Int) mlo mhi (nw : Int) mwe mru mrd]) rfl ?_
          refine z_if_ne (tgt := 65) S d_M_round_60 (by decide) (by omega) (fun c11 => ?_) (fun c11 => ?_)
          · skip
            exact absurd c11 (by omega)
          · skip
            refine z_iconst S d_M_round_63 ?_
            exact z_iret (w := [oM mo 1 mw (nv : Int) mg ma mb (ns : Int) mlo mhi (nw : Int) mwe mru mrd]) S hr hlo hAe d_M_round_64 [0] (by decide) rfl rfl ⟨Nat.le_refl _, Nat.le_refl _⟩ (⟨rfl, rfl⟩)
        · skip
          refine z_iconst S d_M_round_52 ?_
          refine z_goto (tgt := 57) S d_M_round_53 (by decide) ?_
          refine z_callVa (As := [.int (zI 0), .int (zI 1), .int (zI 1)]) (st := []) (wc := [oM mo th mw (nv : Int) mg ma mb (ns : Int) mlo mhi (nw : Int) mwe mru mrd]) (wr := []) S hGok hK hg hA (s_M_goes l dC dI cI cL qT mo mw nv ma mb ns mlo mhi nw mwe mru mrd th mg 0 1 1 (by omega) (by omega) (by omega)) (zcwV S (List.mem_cons_of_mem _ k_M_118) mV_M_goes k_M_118 hd_M_goes rfl rfl ⟨Nat.le_of_ble_eq_true rfl, Nat.le_of_ble_eq_true rfl⟩) rfl (Nat.le_of_ble_eq_true rfl) d_M_round_57 ⟨Nat.le_of_ble_eq_true rfl, Nat.le_of_ble_eq_true rfl⟩ rfl [0] [] 0 rfl rfl rfl (by decide) rfl rfl rfl (by decide) (by decide) (fun x w hp => ?_)
          obtain ⟨rfl, rfl⟩ := hp
          show ZZ _ _ _ _ _ _ _ _ _ _ _ _ _ _ _ _ _ _ 60 [(0, .ref mo), (1, .int (zI u)), (2, .int (zI ru)), (3, .long (zL uu))] [.int (zI (b2 (gth 0 1 1 = 0)))] [oM mo (gth 0 1 1) mw (nv : Int) mg ma mb (ns : Int) mlo mhi (nw : Int) mwe mru mrd]
          refine z_toi (a := 0) rfl ?_
          refine z_wq (ws' := [oM mo 1 mw (nv : Int) mg ma mb (ns : Int) mlo mhi (nw : Int) mwe mru mrd]) rfl ?_
          refine z_if_ne (tgt := 65) S d_M_round_60 (by decide) (by omega) (fun c12 => ?_) (fun c12 => ?_)
          · skip
            exact absurd c12 (by omega)
          · skip
            refine z_iconst S d_M_round_63 ?_
            exact z_iret (w := [oM mo 1 mw (nv : Int) mg ma mb (ns : Int) mlo mhi (nw : Int) mwe mru mrd]) S hr hlo hAe d_M_round_64 [0] (by decide) rfl rfl ⟨Nat.le_refl _, Nat.le_refl _⟩ (⟨rfl, rfl⟩)
  · skip
    have hq6 := b2_p c1
    refine z_iload_n S d_M_round_9 2 rfl ?_
    refine z_if_lt (tgt := 23) S d_M_round_10 (by decide) (by omega) (fun c13 => ?_) (fun c13 => ?_)
    · skip
      refine z_iconst S d_M_round_23 ?_
      refine z_lload_n S d_M_round_24 3 rfl ?_
      refine z_lconst (z := 1) S d_M_round_25 rfl ?_
      refine z_lcmp_lt (tgt := 42) S d_M_round_26 d_M_round_27 (by decide) (by omega) (by omega) (fun c14 => ?_) (fun c14 => ?_)
      · skip
        refine z_iconst S d_M_round_42 ?_
        refine z_aload_n S d_M_round_43 0 rfl ?_
        refine z_get S hK la_M 0 rfl rfl 2 (by decide) k_M_42 rfl d_M_round_44 ?_
        refine z_bipush S d_M_round_47 rfl ?_
        refine z_icmp_ge (tgt := 56) S d_M_round_49 (by decide) (by omega) (by omega) (fun c15 => ?_) (fun c15 => ?_)
        · skip
          refine z_iconst S d_M_round_56 ?_
          refine z_callVa (As := [.int (zI 0), .int (zI 0), .int (zI 0)]) (st := []) (wc := [oM mo th mw (nv : Int) mg ma mb (ns : Int) mlo mhi (nw : Int) mwe mru mrd]) (wr := []) S hGok hK hg hA (s_M_goes l dC dI cI cL qT mo mw nv ma mb ns mlo mhi nw mwe mru mrd th mg 0 0 0 (by omega) (by omega) (by omega)) (zcwV S (List.mem_cons_of_mem _ k_M_118) mV_M_goes k_M_118 hd_M_goes rfl rfl ⟨Nat.le_of_ble_eq_true rfl, Nat.le_of_ble_eq_true rfl⟩) rfl (Nat.le_of_ble_eq_true rfl) d_M_round_57 ⟨Nat.le_of_ble_eq_true rfl, Nat.le_of_ble_eq_true rfl⟩ rfl [0] [] 0 rfl rfl rfl (by decide) rfl rfl rfl (by decide) (by decide) (fun x w hp => ?_)
          obtain ⟨rfl, rfl⟩ := hp
          show ZZ _ _ _ _ _ _ _ _ _ _ _ _ _ _ _ _ _ _ 60 [(0, .ref mo), (1, .int (zI u)), (2, .int (zI ru)), (3, .long (zL uu))] [.int (zI (b2 (gth 0 0 0 = 0)))] [oM mo (gth 0 0 0) mw (nv : Int) mg ma mb (ns : Int) mlo mhi (nw : Int) mwe mru mrd]
          refine z_toi (a := 0) rfl ?_
          refine z_wq (ws' := [oM mo 1 mw (nv : Int) mg ma mb (ns : Int) mlo mhi (nw : Int) mwe mru mrd]) rfl ?_
          refine z_if_ne (tgt := 65) S d_M_round_60 (by decide) (by omega) (fun c16 => ?_) (fun c16 => ?_)
          · skip
            exact absurd c16 (by omega)
          · skip
            refine z_iconst S d_M_round_63 ?_
            exact z_iret (w := [oM mo 1 mw (nv : Int) mg ma mb (ns : Int) mlo mhi (nw : Int) mwe mru mrd]) S hr hlo hAe d_M_round_64 [0] (by decide) rfl rfl ⟨Nat.le_refl _, Nat.le_refl _⟩ (⟨rfl, rfl⟩)
        · skip
          refine z_iconst S d_M_round_52 ?_
          refine z_goto (tgt := 57) S d_M_round_53 (by decide) ?_
          refine z_callVa (As := [.int (zI 0), .int (zI 0), .int (zI 1)]) (st := []) (wc := [oM mo th mw (nv : Int) mg ma mb (ns : Int) mlo mhi (nw : Int) mwe mru mrd]) (wr := []) S hGok hK hg hA (s_M_goes l dC dI cI cL qT mo mw nv ma mb ns mlo mhi nw mwe mru mrd th mg 0 0 1 (by omega) (by omega) (by omega)) (zcwV S (List.mem_cons_of_mem _ k_M_118) mV_M_goes k_M_118 hd_M_goes rfl rfl ⟨Nat.le_of_ble_eq_true rfl, Nat.le_of_ble_eq_true rfl⟩) rfl (Nat.le_of_ble_eq_true rfl) d_M_round_57 ⟨Nat.le_of_ble_eq_true rfl, Nat.le_of_ble_eq_true rfl⟩ rfl [0] [] 0 rfl rfl rfl (by decide) rfl rfl rfl (by decide) (by decide) (fun x w hp => ?_)
          obtain ⟨rfl, rfl⟩ := hp
          show ZZ _ _ _ _ _ _ _ _ _ _ _ _ _ _ _ _ _ _ 60 [(0, .ref mo), (1, .int (zI u)), (2, .int (zI ru)), (3, .long (zL uu))] [.int (zI (b2 (gth 0 0 1 = 0)))] [oM mo (gth 0 0 1) mw (nv : Int) mg ma mb (ns : Int) mlo mhi (nw : Int) mwe mru mrd]
          refine z_toi (a := 0) rfl ?_
          refine z_wq (ws' := [oM mo 1 mw (nv : Int) mg ma mb (ns : Int) mlo mhi (nw : Int) mwe mru mrd]) rfl ?_
          refine z_if_ne (tgt := 65) S d_M_round_60 (by decide) (by omega) (fun c17 => ?_) (fun c17 => ?_)
          · skip
            exact absurd c17 (by omega)
          · skip
            refine z_iconst S d_M_round_63 ?_
            exact z_iret (w := [oM mo 1 mw (nv : Int) mg ma mb (ns : Int) mlo mhi (nw : Int) mwe mru mrd]) S hr hlo hAe d_M_round_64 [0] (by decide) rfl rfl ⟨Nat.le_refl _, Nat.le_refl _⟩ (⟨rfl, rfl⟩)
      · skip
        refine z_lload_n S d_M_round_30 3 rfl ?_
        refine z_ldc2 (v := 1000000000) (z := 1000000000) S k_M_138 d_M_round_31 (by decide) ?_
        refine z_lcmp_gt (tgt := 42) S d_M_round_34 d_M_round_35 (by decide) (by omega) (by omega) (fun c18 => ?_) (fun c18 => ?_)
        · skip
          refine z_iconst S d_M_round_42 ?_
          refine z_aload_n S d_M_round_43 0 rfl ?_
          refine z_get S hK la_M 0 rfl rfl 2 (by decide) k_M_42 rfl d_M_round_44 ?_
          refine z_bipush S d_M_round_47 rfl ?_
          refine z_icmp_ge (tgt := 56) S d_M_round_49 (by decide) (by omega) (by omega) (fun c19 => ?_) (fun c19 => ?_)
          · skip
            refine z_iconst S d_M_round_56 ?_
            refine z_callVa (As := [.int (zI 0), .int (zI 0), .int (zI 0)]) (st := []) (wc := [oM mo th mw (nv : Int) mg ma mb (ns : Int) mlo mhi (nw : Int) mwe mru mrd]) (wr := []) S hGok hK hg hA (s_M_goes l dC dI cI cL qT mo mw nv ma mb ns mlo mhi nw mwe mru mrd th mg 0 0 0 (by omega) (by omega) (by omega)) (zcwV S (List.mem_cons_of_mem _ k_M_118) mV_M_goes k_M_118 hd_M_goes rfl rfl ⟨Nat.le_of_ble_eq_true rfl, Nat.le_of_ble_eq_true rfl⟩) rfl (Nat.le_of_ble_eq_true rfl) d_M_round_57 ⟨Nat.le_of_ble_eq_true rfl, Nat.le_of_ble_eq_true rfl⟩ rfl [0] [] 0 rfl rfl rfl (by decide) rfl rfl rfl (by decide) (by decide) (fun x w hp => ?_)
            obtain ⟨rfl, rfl⟩ := hp
            show ZZ _ _ _ _ _ _ _ _ _ _ _ _ _ _ _ _ _ _ 60 [(0, .ref mo), (1, .int (zI u)), (2, .int (zI ru)), (3, .long (zL uu))] [.int (zI (b2 (gth 0 0 0 = 0)))] [oM mo (gth 0 0 0) mw (nv : Int) mg ma mb (ns : Int) mlo mhi (nw : Int) mwe mru mrd]
            refine z_toi (a := 0) rfl ?_
            refine z_wq (ws' := [oM mo 1 mw (nv : Int) mg ma mb (ns : Int) mlo mhi (nw : Int) mwe mru mrd]) rfl ?_
            refine z_if_ne (tgt := 65) S d_M_round_60 (by decide) (by omega) (fun c20 => ?_) (fun c20 => ?_)
            · skip
              exact absurd c20 (by omega)
            · skip
              refine z_iconst S d_M_round_63 ?_
              exact z_iret (w := [oM mo 1 mw (nv : Int) mg ma mb (ns : Int) mlo mhi (nw : Int) mwe mru mrd]) S hr hlo hAe d_M_round_64 [0] (by decide) rfl rfl ⟨Nat.le_refl _, Nat.le_refl _⟩ (⟨rfl, rfl⟩)
          · skip
            refine z_iconst S d_M_round_52 ?_
            refine z_goto (tgt := 57) S d_M_round_53 (by decide) ?_
            refine z_callVa (As := [.int (zI 0), .int (zI 0), .int (zI 1)]) (st := []) (wc := [oM mo th mw (nv : Int) mg ma mb (ns : Int) mlo mhi (nw : Int) mwe mru mrd]) (wr := []) S hGok hK hg hA (s_M_goes l dC dI cI cL qT mo mw nv ma mb ns mlo mhi nw mwe mru mrd th mg 0 0 1 (by omega) (by omega) (by omega)) (zcwV S (List.mem_cons_of_mem _ k_M_118) mV_M_goes k_M_118 hd_M_goes rfl rfl ⟨Nat.le_of_ble_eq_true rfl, Nat.le_of_ble_eq_true rfl⟩) rfl (Nat.le_of_ble_eq_true rfl) d_M_round_57 ⟨Nat.le_of_ble_eq_true rfl, Nat.le_of_ble_eq_true rfl⟩ rfl [0] [] 0 rfl rfl rfl (by decide) rfl rfl rfl (by decide) (by decide) (fun x w hp => ?_)
            obtain ⟨rfl, rfl⟩ := hp
            show ZZ _ _ _ _ _ _ _ _ _ _ _ _ _ _ _ _ _ _ 60 [(0, .ref mo), (1, .int (zI u)), (2, .int (zI ru)), (3, .long (zL uu))] [.int (zI (b2 (gth 0 0 1 = 0)))] [oM mo (gth 0 0 1) mw (nv : Int) mg ma mb (ns : Int) mlo mhi (nw : Int) mwe mru mrd]
            refine z_toi (a := 0) rfl ?_
            refine z_wq (ws' := [oM mo 1 mw (nv : Int) mg ma mb (ns : Int) mlo mhi (nw : Int) mwe mru mrd]) rfl ?_
            refine z_if_ne (tgt := 65) S d_M_round_60 (by decide) (by omega) (fun c21 => ?_) (fun c21 => ?_)
            · skip
              exact absurd c21 (by omega)
            · skip
              refine z_iconst S d_M_round_63 ?_
              exact z_iret (w := [oM mo 1 mw (nv : Int) mg ma mb (ns : Int) mlo mhi (nw : Int) mwe mru mrd]) S hr hlo hAe d_M_round_64 [0] (by decide) rfl rfl ⟨Nat.le_refl _, Nat.le_refl _⟩ (⟨rfl, rfl⟩)
        · skip
          refine z_iconst S d_M_round_38 ?_
          refine z_goto (tgt := 43) S d_M_round_39 (by decide) ?_
          refine z_aload_n S d_M_round_43 0 rfl ?_
          refine z_get S hK la_M 0 rfl rfl 2 (by decide) k_M_42 rfl d_M_round_44 ?_
          refine z_bipush S d_M_round_47 rfl ?_
          refine z_icmp_ge (tgt := 56) S d_M_round_49 (by decide) (by omega) (by omega) (fun c22 => ?_) (fun c22 => ?_)
          · skip
            refine z_iconst S d_M_round_56 ?_
            refine z_callVa (As := [.int (zI 0), .int (zI 1), .int (zI 0)]) (st := []) (wc := [oM mo th mw (nv : Int) mg ma mb (ns : Int) mlo mhi (nw : Int) mwe mru mrd]) (wr := []) S hGok hK hg hA (s_M_goes l dC dI cI cL qT mo mw nv ma mb ns mlo mhi nw mwe mru mrd th mg 0 1 0 (by omega) (by omega) (by omega)) (zcwV S (List.mem_cons_of_mem _ k_M_118) mV_M_goes k_M_118 hd_M_goes rfl rfl ⟨Nat.le_of_ble_eq_true rfl, Nat.le_of_ble_eq_true rfl⟩) rfl (Nat.le_of_ble_eq_true rfl) d_M_round_57 ⟨Nat.le_of_ble_eq_true rfl, Nat.le_of_ble_eq_true rfl⟩ rfl [0] [] 0 rfl rfl rfl (by decide) rfl rfl rfl (by decide) (by decide) (fun x w hp => ?_)
            obtain ⟨rfl, rfl⟩ := hp
            show ZZ _ _ _ _ _ _ _ _ _ _ _ _ _ _ _ _ _ _ 60 [(0, .ref mo), (1, .int (zI u)), (2, .int (zI ru)), (3, .long (zL uu))] [.int (zI (b2 (gth 0 1 0 = 0)))] [oM mo (gth 0 1 0) mw (nv : Int) mg ma mb (ns : Int) mlo mhi (nw : Int) mwe mru mrd]
            refine z_toi (a := 0) rfl ?_
            refine z_wq (ws' := [oM mo 1 mw (nv : Int) mg ma mb (ns : Int) mlo mhi (nw : Int) mwe mru mrd]) rfl ?_
            refine z_if_ne (tgt := 65) S d_M_round_60 (by decide) (by omega) (fun c23 => ?_) (fun c23 => ?_)
            · skip
              exact absurd c23 (by omega)
            · skip
              refine z_iconst S d_M_round_63 ?_
              exact z_iret (w := [oM mo 1 mw (nv : Int) mg ma mb (ns : Int) mlo mhi (nw : Int) mwe mru mrd]) S hr hlo hAe d_M_round_64 [0] (by decide) rfl rfl ⟨Nat.le_refl _, Nat.le_refl _⟩ (⟨rfl, rfl⟩)
          · skip
            refine z_iconst S d_M_round_52 ?_
            refine z_goto (tgt := 57) S d_M_round_53 (by decide) ?_
            refine z_callVa (As := [.int (zI 0), .int (zI 1), .int (zI 1)]) (st := []) (wc := [oM mo th mw (nv : Int) mg ma mb (ns : Int) mlo mhi (nw : Int) mwe mru mrd]) (wr := []) S hGok hK hg hA (s_M_goes l dC dI cI cL qT mo mw nv ma mb ns mlo mhi nw mwe mru mrd th mg 0 1 1 (by omega) (by omega) (by omega)) (zcwV S (List.mem_cons_of_mem _ k_M_118) mV_M_goes k_M_118 hd_M_goes rfl rfl ⟨Nat.le_of_ble_eq_true rfl, Nat.le_of_ble_eq_true rfl⟩) rfl (Nat.le_of_ble_eq_true rfl) d_M_round_57 ⟨Nat.le_of_ble_eq_true rfl, Nat.le_of_ble_eq_true rfl⟩ rfl [0] [] 0 rfl rfl rfl (by decide) rfl rfl rfl (by decide) (by decide) (fun x w hp => ?_)
            obtain ⟨rfl, rfl⟩ := hp
            show ZZ _ _ _ _ _ _ _ _ _ _ _ _ _ _ _ _ _ _ 60 [(0, .ref mo), (1, .int (zI u)), (2, .int (zI ru)), (3, .long (zL uu))] [.int (zI (b2 (gth 0 1 1 = 0)))] [oM mo (gth 0 1 1) mw (nv : Int) mg ma mb (ns : Int) mlo mhi (nw : Int) mwe mru mrd]
            refine z_toi (a := 0) rfl ?_
            refine z_wq (ws' := [oM mo 1 mw (nv : Int) mg ma mb (ns : Int) mlo mhi (nw : Int) mwe mru mrd]) rfl ?_
            refine z_if_ne (tgt := 65) S d_M_round_60 (by decide) (by omega) (fun c24 => ?_) (fun c24 => ?_)
            · skip
              exact absurd c24 (by omega)
            · skip
              refine z_iconst S d_M_round_63 ?_
              exact z_iret (w := [oM mo 1 mw (nv : Int) mg ma mb (ns : Int) mlo mhi (nw : Int) mwe mru mrd]) S hr hlo hAe d_M_round_64 [0] (by decide) rfl rfl ⟨Nat.le_refl _, Nat.le_refl _⟩ (⟨rfl, rfl⟩)
    · skip
      refine z_iload_n S d_M_round_13 2 rfl ?_
      refine z_bipush S d_M_round_14 rfl ?_
      refine z_icmp_gt (tgt := 23) S d_M_round_16 (by decide) (by omega) (by omega) (fun c25 => ?_) (fun c25 => ?_)
      · skip
        refine z_iconst S d_M_round_23 ?_
        refine z_lload_n S d_M_round_24 3 rfl ?_
        refine z_lconst (z := 1) S d_M_round_25 rfl ?_
        refine z_lcmp_lt (tgt := 42) S d_M_round_26 d_M_round_27 (by decide) (by omega) (by omega) (fun c26 => ?_) (fun c26 => ?_)
        · skip
          refine z_iconst S d_M_round_42 ?_
          refine z_aload_n S d_M_round_43 0 rfl ?_
          refine z_get S hK la_M 0 rfl rfl 2 (by decide) k_M_42 rfl d_M_round_44 ?_
          refine z_bipush S d_M_round_47 rfl ?_
          refine z_icmp_ge (tgt := 56) S d_M_round_49 (by decide) (by omega) (by omega) (fun c27 => ?_) (fun c27 => ?_)
          · skip
            refine z_iconst S d_M_round_56 ?_
            refine z_callVa (As := [.int (zI 0), .int (zI 0), .int (zI 0)]) (st := []) (wc := [oM mo th mw (nv : Int) mg ma mb (ns : Int) mlo mhi (nw : Int) mwe mru mrd]) (wr := []) S hGok hK hg hA (s_M_goes l dC dI cI cL qT mo mw nv ma mb ns mlo mhi nw mwe mru mrd th mg 0 0 0 (by omega) (by omega) (by omega)) (zcwV S (List.mem_cons_of_mem _ k_M_118) mV_M_goes k_M_118 hd_M_goes rfl rfl ⟨Nat.le_of_ble_eq_true rfl, Nat.le_of_ble_eq_true rfl⟩) rfl (Nat.le_of_ble_eq_true rfl) d_M_round_57 ⟨Nat.le_of_ble_eq_true rfl, Nat.le_of_ble_eq_true rfl⟩ rfl [0] [] 0 rfl rfl rfl (by decide) rfl rfl rfl (by decide) (by decide) (fun x w hp => ?_)
            obtain ⟨rfl, rfl⟩ := hp
            show ZZ _ _ _ _ _ _ _ _ _ _ _ _ _ _ _ _ _ _ 60 [(0, .ref mo), (1, .int (zI u)), (2, .int (zI ru)), (3, .long (zL uu))] [.int (zI (b2 (gth 0 0 0 = 0)))] [oM mo (gth 0 0 0) mw (nv : Int) mg ma mb (ns : Int) mlo mhi (nw : Int) mwe mru mrd]
            refine z_toi (a := 0) rfl ?_
            refine z_wq (ws' := [oM mo 1 mw (nv : Int) mg ma mb (ns : Int) mlo mhi (nw : Int) mwe mru mrd]) rfl ?_
            refine z_if_ne (tgt := 65) S d_M_round_60 (by decide) (by omega) (fun c28 => ?_) (fun c28 => ?_)
            · skip
              exact absurd c28 (by omega)
            · skip
              refine z_iconst S d_M_round_63 ?_
              exact z_iret (w := [oM mo 1 mw (nv : Int) mg ma mb (ns : Int) mlo mhi (nw : Int) mwe mru mrd]) S hr hlo hAe d_M_round_64 [0] (by decide) rfl rfl ⟨Nat.le_refl _, Nat.le_refl _⟩ (⟨rfl, rfl⟩)
          · skip
            refine z_iconst S d_M_round_52 ?_
            refine z_goto (tgt := 57) S d_M_round_53 (by decide) ?_
            refine z_callVa (As := [.int (zI 0), .int (zI 0), .int (zI 1)]) (st := []) (wc := [oM mo th mw (nv : Int) mg ma mb (ns : Int) mlo mhi (nw : Int) mwe mru mrd]) (wr := []) S hGok hK hg hA (s_M_goes l dC dI cI cL qT mo mw nv ma mb ns mlo mhi nw mwe mru mrd th mg 0 0 1 (by omega) (by omega) (by omega)) (zcwV S (List.mem_cons_of_mem _ k_M_118) mV_M_goes k_M_118 hd_M_goes rfl rfl ⟨Nat.le_of_ble_eq_true rfl, Nat.le_of_ble_eq_true rfl⟩) rfl (Nat.le_of_ble_eq_true rfl) d_M_round_57 ⟨Nat.le_of_ble_eq_true rfl, Nat.le_of_ble_eq_true rfl⟩ rfl [0] [] 0 rfl rfl rfl (by decide) rfl rfl rfl (by decide) (by decide) (fun x w hp => ?_)
            obtain ⟨rfl, rfl⟩ := hp
            show ZZ _ _ _ _ _ _ _ _ _ _ _ _ _ _ _ _ _ _ 60 [(0, .ref mo), (1, .int (zI u)), (2, .int (zI ru)), (3, .long (zL uu))] [.int (zI (b2 (gth 0 0 1 = 0)))] [oM mo (gth 0 0 1) mw (nv : Int) mg ma mb (ns : Int) mlo mhi (nw : Int) mwe mru mrd]
            refine z_toi (a := 0) rfl ?_
            refine z_wq (ws' := [oM mo 1 mw (nv : Int) mg ma mb (ns : Int) mlo mhi (nw : Int) mwe mru mrd]) rfl ?_
            refine z_if_ne (tgt := 65) S d_M_round_60 (by decide) (by omega) (fun c29 => ?_) (fun c29 => ?_)
            · skip
              exact absurd c29 (by omega)
            · skip
              refine z_iconst S d_M_round_63 ?_
              exact z_iret (w := [oM mo 1 mw (nv : Int) mg ma mb (ns : Int) mlo mhi (nw : Int) mwe mru mrd]) S hr hlo hAe d_M_round_64 [0] (by decide) rfl rfl ⟨Nat.le_refl _, Nat.le_refl _⟩ (⟨rfl, rfl⟩)
        · skip
          refine z_lload_n S d_M_round_30 3 rfl ?_
          refine z_ldc2 (v := 1000000000) (z := 1000000000) S k_M_138 d_M_round_31 (by decide) ?_
          refine z_lcmp_gt (tgt := 42) S d_M_round_34 d_M_round_35 (by decide) (by omega) (by omega) (fun c30 => ?_) (fun c30 => ?_)
          · skip
            refine z_iconst S d_M_round_42 ?_
            refine z_aload_n S d_M_round_43 0 rfl ?_
            refine z_get S hK la_M 0 rfl rfl 2 (by decide) k_M_42 rfl d_M_round_44 ?_
            refine z_bipush S d_M_round_47 rfl ?_
            refine z_icmp_ge (tgt := 56) S d_M_round_49 (by decide) (by omega) (by omega) (fun c31 => ?_) (fun c31 => ?_)
            · skip
              refine z_iconst S d_M_round_56 ?_
              refine z_callVa (As := [.int (zI 0), .int (zI 0), .int (zI 0)]) (st := []) (wc := [oM mo th mw (nv : Int) mg ma mb (ns : Int) mlo mhi (nw : Int) mwe mru mrd]) (wr := []) S hGok hK hg hA (s_M_goes l dC dI cI cL qT mo mw nv ma mb ns mlo mhi nw mwe mru mrd th mg 0 0 0 (by omega) (by omega) (by omega)) (zcwV S (List.mem_cons_of_mem _ k_M_118) mV_M_goes k_M_118 hd_M_goes rfl rfl ⟨Nat.le_of_ble_eq_true rfl, Nat.le_of_ble_eq_true rfl⟩) rfl (Nat.le_of_ble_eq_true rfl) d_M_round_57 ⟨Nat.le_of_ble_eq_true rfl, Nat.le_of_ble_eq_true rfl⟩ rfl [0] [] 0 rfl rfl rfl (by decide) rfl rfl rfl (by decide) (by decide) (fun x w hp => ?_)
              obtain ⟨rfl, rfl⟩ := hp
              show ZZ _ _ _ _ _ _ _ _ _ _ _ _ _ _ _ _ _ _ 60 [(0, .ref mo), (1, .int (zI u)), (2, .int (zI ru)), (3, .long (zL uu))] [.int (zI (b2 (gth 0 0 0 = 0)))] [oM mo (gth 0 0 0) mw (nv : Int) mg ma mb (ns : Int) mlo mhi (nw : Int) mwe mru mrd]
              refine z_toi (a := 0) rfl ?_
              refine z_wq (ws' := [oM mo 1 mw (nv : Int) mg ma mb (ns : Int) mlo mhi (nw : Int) mwe mru mrd]) rfl ?_
              refine z_if_ne (tgt := 65) S d_M_round_60 (by decide) (by omega) (fun c32 => ?_) (fun c32 => ?_)
              · skip
                exact absurd c32 (by omega)
              · skip
                refine z_iconst S d_M_round_63 ?_
                exact z_iret (w := [oM mo 1 mw (nv : Int) mg ma mb (ns : Int) mlo mhi (nw : Int) mwe mru mrd]) S hr hlo hAe d_M_round_64 [0] (by decide) rfl rfl ⟨Nat.le_refl _, Nat.le_refl _⟩ (⟨rfl, rfl⟩)
            · skip
              refine z_iconst S d_M_round_52 ?_
              refine z_goto (tgt := 57) S d_M_round_53 (by decide) ?_
              refine z_callVa (As := [.int (zI 0), .int (zI 0), .int (zI 1)]) (st := []) (wc := [oM mo th mw (nv : Int) mg ma mb (ns : Int) mlo mhi (nw : Int) mwe mru mrd]) (wr := []) S hGok hK hg hA (s_M_goes l dC dI cI cL qT mo mw nv ma mb ns mlo mhi nw mwe mru mrd th mg 0 0 1 (by omega) (by omega) (by omega)) (zcwV S (List.mem_cons_of_mem _ k_M_118) mV_M_goes k_M_118 hd_M_goes rfl rfl ⟨Nat.le_of_ble_eq_true rfl, Nat.le_of_ble_eq_true rfl⟩) rfl (Nat.le_of_ble_eq_true rfl) d_M_round_57 ⟨Nat.le_of_ble_eq_true rfl, Nat.le_of_ble_eq_true rfl⟩ rfl [0] [] 0 rfl rfl rfl (by decide) rfl rfl rfl (by decide) (by decide) (fun x w hp => ?_)
              obtain ⟨rfl, rfl⟩ := hp
              show ZZ _ _ _ _ _ _ _ _ _ _ _ _ _ _ _ _ _ _ 60 [(0, .ref mo), (1, .int (zI u)), (2, .int (zI ru)), (3, .long (zL uu))] [.int (zI (b2 (gth 0 0 1 = 0)))] [oM mo (gth 0 0 1) mw (nv : Int) mg ma mb (ns : Int) mlo mhi (nw : Int) mwe mru mrd]
              refine z_toi (a := 0) rfl ?_
              refine z_wq (ws' := [oM mo 1 mw (nv : Int) mg ma mb (ns : Int) mlo mhi (nw : Int) mwe mru mrd]) rfl ?_
              refine z_if_ne (tgt := 65) S d_M_round_60 (by decide) (by omega) (fun c33 => ?_) (fun c33 => ?_)
              · skip
                exact absurd c33 (by omega)
              · skip
                refine z_iconst S d_M_round_63 ?_
                exact z_iret (w := [oM mo 1 mw (nv : Int) mg ma mb (ns : Int) mlo mhi (nw : Int) mwe mru mrd]) S hr hlo hAe d_M_round_64 [0] (by decide) rfl rfl ⟨Nat.le_refl _, Nat.le_refl _⟩ (⟨rfl, rfl⟩)
          · skip
            refine z_iconst S d_M_round_38 ?_
            refine z_goto (tgt := 43) S d_M_round_39 (by decide) ?_
            refine z_aload_n S d_M_round_43 0 rfl ?_
            refine z_get S hK la_M 0 rfl rfl 2 (by decide) k_M_42 rfl d_M_round_44 ?_
            refine z_bipush S d_M_round_47 rfl ?_
            refine z_icmp_ge (tgt := 56) S d_M_round_49 (by decide) (by omega) (by omega) (fun c34 => ?_) (fun c34 => ?_)
            · skip
              refine z_iconst S d_M_round_56 ?_
              refine z_callVa (As := [.int (zI 0), .int (zI 1), .int (zI 0)]) (st := []) (wc := [oM mo th mw (nv : Int) mg ma mb (ns : Int) mlo mhi (nw : Int) mwe mru mrd]) (wr := []) S hGok hK hg hA (s_M_goes l dC dI cI cL qT mo mw nv ma mb ns mlo mhi nw mwe mru mrd th mg 0 1 0 (by omega) (by omega) (by omega)) (zcwV S (List.mem_cons_of_mem _ k_M_118) mV_M_goes k_M_118 hd_M_goes rfl rfl ⟨Nat.le_of_ble_eq_true rfl, Nat.le_of_ble_eq_true rfl⟩) rfl (Nat.le_of_ble_eq_true rfl) d_M_round_57 ⟨Nat.le_of_ble_eq_true rfl, Nat.le_of_ble_eq_true rfl⟩ rfl [0] [] 0 rfl rfl rfl (by decide) rfl rfl rfl (by decide) (by decide) (fun x w hp => ?_)
              obtain ⟨rfl, rfl⟩ := hp
              show ZZ _ _ _ _ _ _ _ _ _ _ _ _ _ _ _ _ _ _ 60 [(0, .ref mo), (1, .int (zI u)), (2, .int (zI ru)), (3, .long (zL uu))] [.int (zI (b2 (gth 0 1 0 = 0)))] [oM mo (gth 0 1 0) mw (nv : Int) mg ma mb (ns : Int) mlo mhi (nw : Int) mwe mru mrd]
              refine z_toi (a := 0) rfl ?_
              refine z_wq (ws' := [oM mo 1 mw (nv : Int) mg ma mb (ns : Int) mlo mhi (nw : Int) mwe mru mrd]) rfl ?_
              refine z_if_ne (tgt := 65) S d_M_round_60 (by decide) (by omega) (fun c35 => ?_) (fun c35 => ?_)
              · skip
                exact absurd c35 (by omega)
              · skip
                refine z_iconst S d_M_round_63 ?_
                exact z_iret (w := [oM mo 1 mw (nv : Int) mg ma mb (ns : Int) mlo mhi (nw : Int) mwe mru mrd]) S hr hlo hAe d_M_round_64 [0] (by decide) rfl rfl ⟨Nat.le_refl _, Nat.le_refl _⟩ (⟨rfl, rfl⟩)
            · skip
              refine z_iconst S d_M_round_52 ?_
              refine z_goto (tgt := 57) S d_M_round_53 (by decide) ?_
              refine z_callVa (As := [.int (zI 0), .int (zI 1), .int (zI 1)]) (st := []) (wc := [oM mo th mw (nv : Int) mg ma mb (ns : Int) mlo mhi (nw : Int) mwe mru mrd]) (wr := []) S hGok hK hg hA (s_M_goes l dC dI cI cL qT mo mw nv ma mb ns mlo mhi nw mwe mru mrd th mg 0 1 1 (by omega) (by omega) (by omega)) (zcwV S (List.mem_cons_of_mem _ k_M_118) mV_M_goes k_M_118 hd_M_goes rfl rfl ⟨Nat.le_of_ble_eq_true rfl, Nat.le_of_ble_eq_true rfl⟩) rfl (Nat.le_of_ble_eq_true rfl) d_M_round_57 ⟨Nat.le_of_ble_eq_true rfl, Nat.le_of_ble_eq_true rfl⟩ rfl [0] [] 0 rfl rfl rfl (by decide) rfl rfl rfl (by decide) (by decide) (fun x w hp => ?_)
              obtain ⟨rfl, rfl⟩ := hp
              show ZZ _ _ _ _ _ _ _ _ _ _ _ _ _ _ _ _ _ _ 60 [(0, .ref mo), (1, .int (zI u)), (2, .int (zI ru)), (3, .long (zL uu))] [.int (zI (b2 (gth 0 1 1 = 0)))] [oM mo (gth 0 1 1) mw (nv : Int) mg ma mb (ns : Int) mlo mhi (nw : Int) mwe mru mrd]
              refine z_toi (a := 0) rfl ?_
              refine z_wq (ws' := [oM mo 1 mw (nv : Int) mg ma mb (ns : Int) mlo mhi (nw : Int) mwe mru mrd]) rfl ?_
              refine z_if_ne (tgt := 65) S d_M_round_60 (by decide) (by omega) (fun c36 => ?_) (fun c36 => ?_)
              · skip
                exact absurd c36 (by omega)
              · skip
                refine z_iconst S d_M_round_63 ?_
                exact z_iret (w := [oM mo 1 mw (nv : Int) mg ma mb (ns : Int) mlo mhi (nw : Int) mwe mru mrd]) S hr hlo hAe d_M_round_64 [0] (by decide) rfl rfl ⟨Nat.le_refl _, Nat.le_refl _⟩ (⟨rfl, rfl⟩)
      · skip
        exact absurd ⟨hq6, by omega⟩ hu
set_option maxHeartbeats 4000000 in
set_option maxRecDepth 100000 in
theorem f2_M_round (l : Launch) (dC : Nat → ClassId) (dI : Nat → Nat → Nat) (cI cL : ClassId) (qT : Nat) (mo : Nat) (mw : Nat) (nv : Nat) (ma : Nat) (mb : Nat) (ns : Nat) (mlo : Nat) (mhi : Nat) (nw : Nat) (mwe : Nat) (mru : Nat) (mrd : Nat) (th : Int) (mg : Nat) (u : Nat) (ru : Int) (uu : Int) (hnv : nv ≤ 100) (hu : u < nv) (hru : 0 ≤ ru ∧ ru ≤ 6) (huur : -9223372036854775808 ≤ uu ∧ uu < 9223372036854775808) (huu : ¬ (1 ≤ uu ∧ uu ≤ 1000000000)) : Ct l y_M_round (Cond.code y_M_round c_M_round 5 (some .int) :: zB) { frames := 5, cells := 0, slots := 0, locals := 128 } (dC, dI) zcl [(cI, .int), (cL, .long)] (zG cI cL qT) [.ref mo, .int (zI (u : Int)), .int (zI ru), .long (zL uu)] [oM mo th mw (nv : Int) mg ma mb (ns : Int) mlo mhi (nw : Int) mwe mru mrd] (fun rv wv => rv = .int (zI 0) ∧ wv = [oM mo 2 mw (nv : Int) mg ma mb (ns : Int) mlo mhi (nw : Int) mwe mru mrd]) 0 0 := by
  refine Cm.ofZ (cc := c_M_round) (maxL := 5) (ret := (some .int)) (by decide) rfl (Nat.le_of_ble_eq_true rfl) rfl ?_
  intro p e s m below meth c A S hr hlo hnm hK hg hA hAe
  have hGok := zG_ok cI cL qT
  show ZZ _ _ _ _ _ _ _ _ _ _ _ _ _ _ _ _ _ _ 0 [(0, .ref mo), (1, .int (zI (u : Int))), (2, .int (zI ru)), (3, .long (zL uu))] [] [oM mo th mw (nv : Int) mg ma mb (ns : Int) mlo mhi (nw : Int) mwe mru mrd]
  refine z_aload_n S d_M_round_0 0 rfl ?_
  refine z_aload_n S d_M_round_1 0 rfl ?_
  refine z_iload_n S d_M_round_2 1 rfl ?_
  refine z_callVa (As := [.int (zI (u : Int))]) (st := [.ref mo]) (wc := [oM mo th mw (nv : Int) mg ma mb (ns : Int) mlo mhi (nw : Int) mwe mru mrd]) (wr := []) S hGok hK hg hA (s_M_isValue l dC dI cI cL qT mo mw nv ma mb ns mlo mhi nw mwe mru mrd th mg (u : Int) (by omega) (by omega)) (zcwV S (List.mem_cons_of_mem _ k_M_125) mV_M_isValue k_M_125 hd_M_isValue rfl rfl ⟨Nat.le_of_ble_eq_true rfl, Nat.le_of_ble_eq_true rfl⟩) rfl (Nat.le_of_ble_eq_true rfl) d_M_round_3 ⟨Nat.le_of_ble_eq_true rfl, Nat.le_of_ble_eq_true rfl⟩ rfl [0] [] 0 rfl rfl rfl (by decide) rfl rfl rfl (by decide) (by decide) (fun x w hp => ?_)
  obtain ⟨rfl, rfl⟩ := hp
  show ZZ _ _ _ _ _ _ _ _ _ _ _ _ _ _ _ _ _ _ 6 [(0, .ref mo), (1, .int (zI (u : Int))), (2, .int (zI ru)), (3, .long (zL uu))] [.int (zI (b2 (0 ≤ (u : Int) ∧ (u : Int) < (nv : Int)))), .ref mo] [oM mo th mw (nv : Int) mg ma mb (ns : Int) mlo mhi (nw : Int) mwe mru mrd]
  refine z_toi (a := 1) (zI_c (b2_t ⟨by omega, by omega⟩)) ?_
  refine z_if_eq (tgt := 23) S d_M_round_6 (by decide) (by omega) (fun c1 => ?_) (fun c1 => ?_)
  · skip
    exact absurd c1 (by omega)
  · skip
    refine z_iload_n S d_M_round_9 2 rfl ?_
    refine z_if_lt (tgt := 23) S d_M_round_10 (by decide) (by omega) (fun c2 => ?_) (fun c2 => ?_)
    · skip
      omega
    · skip
      refine z_iload_n S d_M_round_13 2 rfl ?_
      refine z_bipush S d_M_round_14 rfl ?_
      refine z_icmp_gt (tgt := 23) S d_M_round_16 (by decide) (by omega) (by omega) (fun c3 => ?_) (fun c3 => ?_)
      · skip
        omega
      · skip
        refine z_iconst S d_M_round_19 ?_
        refine z_goto (tgt := 24) S d_M_round_20 (by decide) ?_
        refine z_lload_n S d_M_round_24 3 rfl ?_
        refine z_lconst (z := 1) S d_M_round_25 rfl ?_
        refine z_lcmp_lt (tgt := 42) S d_M_round_26 d_M_round_27 (by decide) (by omega) (by omega) (fun c4 => ?_) (fun c4 => ?_)
        · skip
          refine z_iconst S d_M_round_42 ?_
          refine z_aload_n S d_M_round_43 0 rfl ?_
          refine z_get S hK la_M 0 rfl rfl 2 (by decide) k_M_42 rfl d_M_round_44 ?_
          refine z_bipush S d_M_round_47 rfl ?_
          refine z_icmp_ge (tgt := 56) S d_M_round_49 (by decide) (by omega) (by omega) (fun c5 => ?_) (fun c5 => ?_)
          · skip
            refine z_iconst S d_M_round_56 ?_
            refine z_callVa (As := [.int (zI 1), .int (zI 0), .int (zI 0)]) (st := []) (wc := [oM mo th mw (nv : Int) mg ma mb (ns : Int) mlo mhi (nw : Int) mwe mru mrd]) (wr := []) S hGok hK hg hA (s_M_goes l dC dI cI cL qT mo mw nv ma mb ns mlo mhi nw mwe mru mrd th mg 1 0 0 (by omega) (by omega) (by omega)) (zcwV S (List.mem_cons_of_mem _ k_M_118) mV_M_goes k_M_118 hd_M_goes rfl rfl ⟨Nat.le_of_ble_eq_true rfl, Nat.le_of_ble_eq_true rfl⟩) rfl (Nat.le_of_ble_eq_true rfl) d_M_round_57 ⟨Nat.le_of_ble_eq_true rfl, Nat.le_of_ble_eq_true rfl⟩ rfl [0] [] 0 rfl rfl rfl (by decide) rfl rfl rfl (by decide) (by decide) (fun x w hp => ?_)
            obtain ⟨rfl, rfl⟩ := hp
            show ZZ _ _ _ _ _ _ _ _ _ _ _ _ _ _ _ _ _ _ 60 [(0, .ref mo), (1, .int (zI (u : Int))), (2, .int (zI ru)), (3, .long (zL uu))] [.int (zI (b2 (gth 1 0 0 = 0)))] [oM mo (gth 1 0 0) mw (nv : Int) mg ma mb (ns : Int) mlo mhi (nw : Int) mwe mru mrd]
            refine z_toi (a := 0) rfl ?_
            refine z_wq (ws' := [oM mo 2 mw (nv : Int) mg ma mb (ns : Int) mlo mhi (nw : Int) mwe mru mrd]) rfl ?_
            refine z_if_ne (tgt := 65) S d_M_round_60 (by decide) (by omega) (fun c6 => ?_) (fun c6 => ?_)
            · skip
              exact absurd c6 (by omega)
            · skip
              refine z_iconst S d_M_round_63 ?_
              exact z_iret (w := [oM mo 2 mw (nv : Int) mg ma mb (ns : Int) mlo mhi (nw : Int) mwe mru mrd]) S hr hlo hAe d_M_round_64 [0] (by decide) rfl rfl ⟨Nat.le_refl _, Nat.le_refl _⟩ (⟨rfl, rfl⟩)
          · skip
            refine z_iconst S d_M_round_52 ?_
            refine z_goto (tgt := 57) S d_M_round_53 (by decide) ?_
            refine z_callVa (As := [.int (zI 1), .int (zI 0), .int (zI 1)]) (st := []) (wc := [oM mo th mw (nv : Int) mg ma mb (ns : Int) mlo mhi (nw : Int) mwe mru mrd]) (wr := []) S hGok hK hg hA (s_M_goes l dC dI cI cL qT mo mw nv ma mb ns mlo mhi nw mwe mru mrd th mg 1 0 1 (by omega) (by omega) (by omega)) (zcwV S (List.mem_cons_of_mem _ k_M_118) mV_M_goes k_M_118 hd_M_goes rfl rfl ⟨Nat.le_of_ble_eq_true rfl, Nat.le_of_ble_eq_true rfl⟩) rfl (Nat.le_of_ble_eq_true rfl) d_M_round_57 ⟨Nat.le_of_ble_eq_true rfl, Nat.le_of_ble_eq_true rfl⟩ rfl [0] [] 0 rfl rfl rfl (by decide) rfl rfl rfl (by decide) (by decide) (fun x w hp => ?_)
            obtain ⟨rfl, rfl⟩ := hp
            show ZZ _ _ _ _ _ _ _ _ _ _ _ _ _ _ _ _ _ _ 60 [(0, .ref mo), (1, .int (zI (u : Int))), (2, .int (zI ru)), (3, .long (zL uu))] [.int (zI (b2 (gth 1 0 1 = 0)))] [oM mo (gth 1 0 1) mw (nv : Int) mg ma mb (ns : Int) mlo mhi (nw : Int) mwe mru mrd]
            refine z_toi (a := 0) rfl ?_
            refine z_wq (ws' := [oM mo 2 mw (nv : Int) mg ma mb (ns : Int) mlo mhi (nw : Int) mwe mru mrd]) rfl ?_
            refine z_if_ne (tgt := 65) S d_M_round_60 (by decide) (by omega) (fun c7 => ?_) (fun c7 => ?_)
            · skip
              exact absurd c7 (by omega)
            · skip
              refine z_iconst S d_M_round_63 ?_
              exact z_iret (w := [oM mo 2 mw (nv : Int) mg ma mb (ns : Int) mlo mhi (nw : Int) mwe mru mrd]) S hr hlo hAe d_M_round_64 [0] (by decide) rfl rfl ⟨Nat.le_refl _, Nat.le_refl _⟩ (⟨rfl, rfl⟩)
        · skip
          refine z_lload_n S d_M_round_30 3 rfl ?_
          refine z_ldc2 (v := 1000000000) (z := 1000000000) S k_M_138 d_M_round_31 (by decide) ?_
          refine z_lcmp_gt (tgt := 42) S d_M_round_34 d_M_round_35 (by decide) (by omega) (by omega) (fun c8 => ?_) (fun c8 => ?_)
          · skip
            refine z_iconst S d_M_round_42 ?_
            refine z_aload_n S d_M_round_43 0 rfl ?_
            refine z_get S hK la_M 0 rfl rfl 2 (by decide) k_M_42 rfl d_M_round_44 ?_
            refine z_bipush S d_M_round_47 rfl ?_
            refine z_icmp_ge (tgt := 56) S d_M_round_49 (by decide) (by omega) (by omega) (fun c9 => ?_) (fun c9 => ?_)
            · skip
              refine z_iconst S d_M_round_56 ?_
              refine z_callVa (As := [.int (zI 1), .int (zI 0), .int (zI 0)]) (st := []) (wc := [oM mo th mw (nv : Int) mg ma mb (ns : Int) mlo mhi (nw : Int) mwe mru mrd]) (wr := []) S hGok hK hg hA (s_M_goes l dC dI cI cL qT mo mw nv ma mb ns mlo mhi nw mwe mru mrd th mg 1 0 0 (by omega) (by omega) (by omega)) (zcwV S (List.mem_cons_of_mem _ k_M_118) mV_M_goes k_M_118 hd_M_goes rfl rfl ⟨Nat.le_of_ble_eq_true rfl, Nat.le_of_ble_eq_true rfl⟩) rfl (Nat.le_of_ble_eq_true rfl) d_M_round_57 ⟨Nat.le_of_ble_eq_true rfl, Nat.le_of_ble_eq_true rfl⟩ rfl [0] [] 0 rfl rfl rfl (by decide) rfl rfl rfl (by decide) (by decide) (fun x w hp => ?_)
              obtain ⟨rfl, rfl⟩ := hp
              show ZZ _ _ _ _ _ _ _ _ _ _ _ _ _ _ _ _ _ _ 60 [(0, .ref mo), (1, .int (zI (u : Int))), (2, .int (zI ru)), (3, .long (zL uu))] [.int (zI (b2 (gth 1 0 0 = 0)))] [oM mo (gth 1 0 0) mw (nv : Int) mg ma mb (ns : Int) mlo mhi (nw : Int) mwe mru mrd]
              refine z_toi (a := 0) rfl ?_
              refine z_wq (ws' := [oM mo 2 mw (nv : Int) mg ma mb (ns : Int) mlo mhi (nw : Int) mwe mru mrd]) rfl ?_
              refine z_if_ne (tgt := 65) S d_M_round_60 (by decide) (by omega) (fun c10 => ?_) (fun c10 => ?_)
              · skip
                exact absurd c10 (by omega)
              · skip
                refine z_iconst S d_M_round_63 ?_
                exact z_iret (w := [oM mo 2 mw (nv : Int) mg ma mb (ns : Int) mlo mhi (nw : Int) mwe mru mrd]) S hr hlo hAe d_M_round_64 [0] (by decide) rfl rfl ⟨Nat.le_refl _, Nat.le_refl _⟩ (⟨rfl, rfl⟩)
            · skip
              refine z_iconst S d_M_round_52 ?_
              refine z_goto (tgt := 57) S d_M_round_53 (by decide) ?_
              refine z_callVa (As := [.int (zI 1), .int (zI 0), .int (zI 1)]) (st := []) (wc := [oM mo th mw (nv : Int) mg ma mb (ns : Int) mlo mhi (nw : Int) mwe mru mrd]) (wr := []) S hGok hK hg hA (s_M_goes l dC dI cI cL qT mo mw nv ma mb ns mlo mhi nw mwe mru mrd th mg 1 0 1 (by omega) (by omega) (by omega)) (zcwV S (List.mem_cons_of_mem _ k_M_118) mV_M_goes k_M_118 hd_M_goes rfl rfl ⟨Nat.le_of_ble_eq_true rfl, Nat.le_of_ble_eq_true rfl⟩) rfl (Nat.le_of_ble_eq_true rfl) d_M_round_57 ⟨Nat.le_of_ble_eq_true rfl, Nat.le_of_ble_eq_true rfl⟩ rfl [0] [] 0 rfl rfl rfl (by decide) rfl rfl rfl (by decide) (by decide) (fun x w hp => ?_)
              obtain ⟨rfl, rfl⟩ := hp
              show ZZ _ _ _ _ _ _ _ _ _ _ _ _ _ _ _ _ _ _ 60 [(0, .ref mo), (1, .int (zI (u : Int))), (2, .int (zI ru)), (3, .long (zL uu))] [.int (zI (b2 (gth 1 0 1 = 0)))] [oM mo (gth 1 0 1) mw (nv : Int) mg ma mb (ns : Int) mlo mhi (nw : Int) mwe mru mrd]
              refine z_toi (a := 0) rfl ?_
              refine z_wq (ws' := [oM mo 2 mw (nv : Int) mg ma mb (ns : Int) mlo mhi (nw : Int) mwe mru mrd]) rfl ?_
              refine z_if_ne (tgt := 65) S d_M_round_60 (by decide) (by omega) (fun c11 => ?_) (fun c11 => ?_)
              · skip
                exact absurd c11 (by omega)
              · skip
                refine z_iconst S d_M_round_63 ?_
                exact z_iret (w := [oM mo 2 mw (nv : Int) mg ma mb (ns : Int) mlo mhi (nw : Int) mwe mru mrd]) S hr hlo hAe d_M_round_64 [0] (by decide) rfl rfl ⟨Nat.le_refl _, Nat.le_refl _⟩ (⟨rfl, rfl⟩)
          · skip
            omega
set_option maxHeartbeats 4000000 in
set_option maxRecDepth 100000 in
theorem f3_M_round (l : Launch) (dC : Nat → ClassId) (dI : Nat → Nat → Nat) (cI cL : ClassId) (qT : Nat) (mo : Nat) (mw : Nat) (nv : Nat) (ma : Nat) (mb : Nat) (ns : Nat) (mlo : Nat) (mhi : Nat) (nw : Nat) (mwe : Nat) (mru : Nat) (mrd : Nat) (th : Int) (mg : Nat) (u : Nat) (ru : Int) (uu : Int) (hnv : nv = 100) (hu : u < nv) (hru : 0 ≤ ru ∧ ru ≤ 6) (huu : 1 ≤ uu ∧ uu ≤ 1000000000) : Ct l y_M_round (Cond.code y_M_round c_M_round 5 (some .int) :: zB) { frames := 5, cells := 0, slots := 0, locals := 128 } (dC, dI) zcl [(cI, .int), (cL, .long)] (zG cI cL qT) [.ref mo, .int (zI (u : Int)), .int (zI ru), .long (zL uu)] [oM mo th mw (nv : Int) mg ma mb (ns : Int) mlo mhi (nw : Int) mwe mru mrd] (fun rv wv => rv = .int (zI 0) ∧ wv = [oM mo 3 mw (nv : Int) mg ma mb (ns : Int) mlo mhi (nw : Int) mwe mru mrd]) 0 0 := by
  refine Cm.ofZ (cc := c_M_round) (maxL := 5) (ret := (some .int)) (by decide) rfl (Nat.le_of_ble_eq_true rfl) rfl ?_
  intro p e s m below meth c A S hr hlo hnm hK hg hA hAe
  have hGok := zG_ok cI cL qT
  show ZZ _ _ _ _ _ _ _ _ _ _ _ _ _ _ _ _ _ _ 0 [(0, .ref mo), (1, .int (zI (u : Int))), (2, .int (zI ru)), (3, .long (zL uu))] [] [oM mo th mw (nv : Int) mg ma mb (ns : Int) mlo mhi (nw : Int) mwe mru mrd]
  refine z_aload_n S d_M_round_0 0 rfl ?_
  refine z_aload_n S d_M_round_1 0 rfl ?_
  refine z_iload_n S d_M_round_2 1 rfl ?_
  refine z_callVa (As := [.int (zI (u : Int))]) (st := [.ref mo]) (wc := [oM mo th mw (nv : Int) mg ma mb (ns : Int) mlo mhi (nw : Int) mwe mru mrd]) (wr := []) S hGok hK hg hA (s_M_isValue l dC dI cI cL qT mo mw nv ma mb ns mlo mhi nw mwe mru mrd th mg (u : Int) (by omega) (by omega)) (zcwV S (List.mem_cons_of_mem _ k_M_125) mV_M_isValue k_M_125 hd_M_isValue rfl rfl ⟨Nat.le_of_ble_eq_true rfl, Nat.le_of_ble_eq_true rfl⟩) rfl (Nat.le_of_ble_eq_true rfl) d_M_round_3 ⟨Nat.le_of_ble_eq_true rfl, Nat.le_of_ble_eq_true rfl⟩ rfl [0] [] 0 rfl rfl rfl (by decide) rfl rfl rfl (by decide) (by decide) (fun x w hp => ?_)
  obtain ⟨rfl, rfl⟩ := hp
  show ZZ _ _ _ _ _ _ _ _ _ _ _ _ _ _ _ _ _ _ 6 [(0, .ref mo), (1, .int (zI (u : Int))), (2, .int (zI ru)), (3, .long (zL uu))] [.int (zI (b2 (0 ≤ (u : Int) ∧ (u : Int) < (nv : Int)))), .ref mo] [oM mo th mw (nv : Int) mg ma mb (ns : Int) mlo mhi (nw : Int) mwe mru mrd]
  refine z_toi (a := 1) (zI_c (b2_t ⟨by omega, by omega⟩)) ?_
  refine z_if_eq (tgt := 23) S d_M_round_6 (by decide) (by omega) (fun c1 => ?_) (fun c1 => ?_)
  · skip
    exact absurd c1 (by omega)
  · skip
    refine z_iload_n S d_M_round_9 2 rfl ?_
    refine z_if_lt (tgt := 23) S d_M_round_10 (by decide) (by omega) (fun c2 => ?_) (fun c2 => ?_)
    · skip
      omega
    · skip
      refine z_iload_n S d_M_round_13 2 rfl ?_
      refine z_bipush S d_M_round_14 rfl ?_
      refine z_icmp_gt (tgt := 23) S d_M_round_16 (by decide) (by omega) (by omega) (fun c3 => ?_) (fun c3 => ?_)
      · skip
        omega
      · skip
        refine z_iconst S d_M_round_19 ?_
        refine z_goto (tgt := 24) S d_M_round_20 (by decide) ?_
        refine z_lload_n S d_M_round_24 3 rfl ?_
        refine z_lconst (z := 1) S d_M_round_25 rfl ?_
        refine z_lcmp_lt (tgt := 42) S d_M_round_26 d_M_round_27 (by decide) (by omega) (by omega) (fun c4 => ?_) (fun c4 => ?_)
        · skip
          omega
        · skip
          refine z_lload_n S d_M_round_30 3 rfl ?_
          refine z_ldc2 (v := 1000000000) (z := 1000000000) S k_M_138 d_M_round_31 (by decide) ?_
          refine z_lcmp_gt (tgt := 42) S d_M_round_34 d_M_round_35 (by decide) (by omega) (by omega) (fun c5 => ?_) (fun c5 => ?_)
          · skip
            omega
          · skip
            refine z_iconst S d_M_round_38 ?_
            refine z_goto (tgt := 43) S d_M_round_39 (by decide) ?_
            refine z_aload_n S d_M_round_43 0 rfl ?_
            refine z_get S hK la_M 0 rfl rfl 2 (by decide) k_M_42 rfl d_M_round_44 ?_
            refine z_bipush S d_M_round_47 rfl ?_
            refine z_icmp_ge (tgt := 56) S d_M_round_49 (by decide) (by omega) (by omega) (fun c6 => ?_) (fun c6 => ?_)
            · skip
              refine z_iconst S d_M_round_56 ?_
              refine z_callVa (As := [.int (zI 1), .int (zI 1), .int (zI 0)]) (st := []) (wc := [oM mo th mw (nv : Int) mg ma mb (ns : Int) mlo mhi (nw : Int) mwe mru mrd]) (wr := []) S hGok hK hg hA (s_M_goes l dC dI cI cL qT mo mw nv ma mb ns mlo mhi nw mwe mru mrd th mg 1 1 0 (by omega) (by omega) (by omega)) (zcwV S (List.mem_cons_of_mem _ k_M_118) mV_M_goes k_M_118 hd_M_goes rfl rfl ⟨Nat.le_of_ble_eq_true rfl, Nat.le_of_ble_eq_true rfl⟩) rfl (Nat.le_of_ble_eq_true rfl) d_M_round_57 ⟨Nat.le_of_ble_eq_true rfl, Nat.le_of_ble_eq_true rfl⟩ rfl [0] [] 0 rfl rfl rfl (by decide) rfl rfl rfl (by decide) (by decide) (fun x w hp => ?_)
              obtain ⟨rfl, rfl⟩ := hp
              show ZZ _ _ _ _ _ _ _ _ _ _ _ _ _ _ _ _ _ _ 60 [(0, .ref mo), (1, .int (zI (u : Int))), (2, .int (zI ru)), (3, .long (zL uu))] [.int (zI (b2 (gth 1 1 0 = 0)))] [oM mo (gth 1 1 0) mw (nv : Int) mg ma mb (ns : Int) mlo mhi (nw : Int) mwe mru mrd]
              refine z_toi (a := 0) rfl ?_
              refine z_wq (ws' := [oM mo 3 mw (nv : Int) mg ma mb (ns : Int) mlo mhi (nw : Int) mwe mru mrd]) rfl ?_
              refine z_if_ne (tgt := 65) S d_M_round_60 (by decide) (by omega) (fun c7 => ?_) (fun c7 => ?_)
              · skip
                exact absurd c7 (by omega)
              · skip
                refine z_iconst S d_M_round_63 ?_
                exact z_iret (w := [oM mo 3 mw (nv : Int) mg ma mb (ns : Int) mlo mhi (nw : Int) mwe mru mrd]) S hr hlo hAe d_M_round_64 [0] (by decide) rfl rfl ⟨Nat.le_refl _, Nat.le_refl _⟩ (⟨rfl, rfl⟩)
            · skip
              omega
set_option maxHeartbeats 4000000 in
set_option maxRecDepth 100000 in
theorem s_M_rest (l : Launch) (dC : Nat → ClassId) (dI : Nat → Nat → Nat) (cI cL : ClassId) (qT : Nat) (mo : Nat) (mw : Nat) (nv : Nat) (ma : Nat) (mb : Nat) (ns : Nat) (mlo : Nat) (mhi : Nat) (nw : Nat) (mwe : Nat) (mru : Nat) (mrd : Nat) (th : Int) (mg : Nat) (rr : Nat → Nat) (sg : Nat → Int) (up : Nat → Nat) (dn : Nat → Nat) (ju : Nat) (jd : Nat) (hnv : nv < 100) (hju : ju < 10 ^ 48) (hjd : jd < 10 ^ 48) (hjp : 0 < jd) (hjc : Nat.gcd jd ju = 1) : Ct l y_M_rest (Cond.code y_M_rest c_M_rest 2 (some .int) :: zB) { frames := 5, cells := 0, slots := 0, locals := 128 } (dC, dI) zcl [(cI, .int), (cL, .long)] (zG cI cL qT) [.ref mo] [oM mo th mw (nv : Int) mg ma mb (ns : Int) mlo mhi (nw : Int) mwe mru mrd, aL cL mw 160 (wkA rr), aI cI mg 100 (sgA sg), aL cL ma 800 (moA up), aL cL mb 800 (moA dn), aL cL mru 8 (rsA ju), aL cL mrd 8 (rsA jd)] (fun rv wv => ∃ rr2 : Nat → Nat, rv = .int (zI (nv : Int)) ∧ wv = [oM mo 0 mw ((nv + 1 : Nat) : Int) mg ma mb (ns : Int) mlo mhi (nw : Int) mwe mru mrd, aL cL mw 160 (wkA rr2), aI cI mg 100 (sgA (uz sg nv (zs ju 1))), aL cL ma 800 (moA (un up nv ju)), aL cL mb 800 (moA (un dn nv jd)), aL cL mru 8 (rsA ju), aL cL mrd 8 (rsA jd)]) 0 0 := by
  refine Cm.ofZ (cc := c_M_rest) (maxL := 2) (ret := (some .int)) (by decide) rfl (Nat.le_of_ble_eq_true rfl) rfl ?_
  intro p e s m below meth c A S hr hlo hnm hK hg hA hAe
  have hGok := zG_ok cI cL qT
  show ZZ _ _ _ _ _ _ _ _ _ _ _ _ _ _ _ _ _ _ 0 [(0, .ref mo)] [] [oM mo th mw (nv : Int) mg ma mb (ns : Int) mlo mhi (nw : Int) mwe mru mrd, aL cL mw 160 (wkA rr), aI cI mg 100 (sgA sg), aL cL ma 800 (moA up), aL cL mb 800 (moA dn), aL cL mru 8 (rsA ju), aL cL mrd 8 (rsA jd)]
  refine z_aload_n S d_M_rest_0 0 rfl ?_
  refine z_aload_n S d_M_rest_1 0 rfl ?_
  refine z_get S hK la_M 0 rfl rfl 2 (by decide) k_M_42 rfl d_M_rest_2 ?_
  refine z_bipush S d_M_rest_5 rfl ?_
  refine z_icmp_ge (tgt := 14) S d_M_rest_7 (by decide) (by omega) (by omega) (fun c1 => ?_) (fun c1 => ?_)
  · skip
    omega
  · skip
    refine z_iconst S d_M_rest_10 ?_
    refine z_goto (tgt := 15) S d_M_rest_11 (by decide) ?_
    refine z_iconst S d_M_rest_15 ?_
    refine z_iconst S d_M_rest_16 ?_
    refine z_callVa (As := [.int (zI 1), .int (zI 1), .int (zI 1)]) (st := []) (wc := [oM mo th mw (nv : Int) mg ma mb (ns : Int) mlo mhi (nw : Int) mwe mru mrd]) (wr := [aL cL mw 160 (wkA rr), aI cI mg 100 (sgA sg), aL cL ma 800 (moA up), aL cL mb 800 (moA dn), aL cL mru 8 (rsA ju), aL cL mrd 8 (rsA jd)]) S hGok hK hg hA (s_M_goes l dC dI cI cL qT mo mw nv ma mb ns mlo mhi nw mwe mru mrd th mg 1 1 1 (by omega) (by omega) (by omega)) (zcwV S (List.mem_cons_of_mem _ k_M_118) mV_M_goes k_M_118 hd_M_goes rfl rfl ⟨Nat.le_of_ble_eq_true rfl, Nat.le_of_ble_eq_true rfl⟩) rfl (Nat.le_of_ble_eq_true rfl) d_M_rest_17 ⟨Nat.le_of_ble_eq_true rfl, Nat.le_of_ble_eq_true rfl⟩ rfl [0] [1, 2, 3, 4, 5, 6] 0 rfl rfl rfl (by decide) rfl rfl rfl (by decide) (by decide) (fun x w hp => ?_)
    obtain ⟨rfl, rfl⟩ := hp
    show ZZ _ _ _ _ _ _ _ _ _ _ _ _ _ _ _ _ _ _ 20 [(0, .ref mo)] [.int (zI (b2 (gth 1 1 1 = 0)))] [aL cL mw 160 (wkA rr), aI cI mg 100 (sgA sg), aL cL ma 800 (moA up), aL cL mb 800 (moA dn), aL cL mru 8 (rsA ju), aL cL mrd 8 (rsA jd), oM mo (gth 1 1 1) mw (nv : Int) mg ma mb (ns : Int) mlo mhi (nw : Int) mwe mru mrd]
    refine z_toi (a := 1) rfl ?_
    refine z_wq (ws' := [aL cL mw 160 (wkA rr), aI cI mg 100 (sgA sg), aL cL ma 800 (moA up), aL cL mb 800 (moA dn), aL cL mru 8 (rsA ju), aL cL mrd 8 (rsA jd), oM mo 0 mw (nv : Int) mg ma mb (ns : Int) mlo mhi (nw : Int) mwe mru mrd]) rfl ?_
    refine z_if_ne (tgt := 25) S d_M_rest_20 (by decide) (by omega) (fun c2 => ?_) (fun c2 => ?_)
    · skip
      refine z_aload_n S d_M_rest_25 0 rfl ?_
      refine z_iconst S d_M_rest_26 ?_
      refine z_callVv (As := [.int (zI 0)]) (st := []) (wc := [oM mo 0 mw (nv : Int) mg ma mb (ns : Int) mlo mhi (nw : Int) mwe mru mrd, aL cL mw 160 (wkA rr)]) (wr := [aI cI mg 100 (sgA sg), aL cL ma 800 (moA up), aL cL mb 800 (moA dn), aL cL mru 8 (rsA ju), aL cL mrd 8 (rsA jd)]) S hGok hK hg hA (s_M_clear l dC dI cI cL qT mo mw nv ma mb ns mlo mhi nw mwe mru mrd 0 mg rr 0 (by omega)) (zcwV S (List.mem_cons_of_mem _ k_M_48) mV_M_clear k_M_48 hd_M_clear rfl rfl ⟨Nat.le_of_ble_eq_true rfl, Nat.le_of_ble_eq_true rfl⟩) rfl (Nat.le_of_ble_eq_true rfl) d_M_rest_27 ⟨Nat.le_of_ble_eq_true rfl, Nat.le_of_ble_eq_true rfl⟩ rfl [6, 0] [1, 2, 3, 4, 5] 6 rfl rfl rfl (by decide) rfl rfl rfl (by decide) (by decide) (fun w hp => ?_)
      subst hp
      show ZZ _ _ _ _ _ _ _ _ _ _ _ _ _ _ _ _ _ _ 30 [(0, .ref mo)] [] [aI cI mg 100 (sgA sg), aL cL ma 800 (moA up), aL cL mb 800 (moA dn), aL cL mru 8 (rsA ju), aL cL mrd 8 (rsA jd), oM mo 0 mw (nv : Int) mg ma mb (ns : Int) mlo mhi (nw : Int) mwe mru mrd, aL cL mw 160 (wkA (un rr 0 0))]
      refine z_aload_n S d_M_rest_30 0 rfl ?_
      refine z_iconst S d_M_rest_31 ?_
      refine z_callVv (As := [.int (zI 1)]) (st := []) (wc := [oM mo 0 mw (nv : Int) mg ma mb (ns : Int) mlo mhi (nw : Int) mwe mru mrd, aL cL mw 160 (wkA (un rr 0 0))]) (wr := [aI cI mg 100 (sgA sg), aL cL ma 800 (moA up), aL cL mb 800 (moA dn), aL cL mru 8 (rsA ju), aL cL mrd 8 (rsA jd)]) S hGok hK hg hA (s_M_clear l dC dI cI cL qT mo mw nv ma mb ns mlo mhi nw mwe mru mrd 0 mg (un rr 0 0) 1 (by omega)) (zcwV S (List.mem_cons_of_mem _ k_M_48) mV_M_clear k_M_48 hd_M_clear rfl rfl ⟨Nat.le_of_ble_eq_true rfl, Nat.le_of_ble_eq_true rfl⟩) rfl (Nat.le_of_ble_eq_true rfl) d_M_rest_32 ⟨Nat.le_of_ble_eq_true rfl, Nat.le_of_ble_eq_true rfl⟩ rfl [5, 6] [0, 1, 2, 3, 4] 5 rfl rfl rfl (by decide) rfl rfl rfl (by decide) (by decide) (fun w hp => ?_)
      subst hp
      show ZZ _ _ _ _ _ _ _ _ _ _ _ _ _ _ _ _ _ _ 35 [(0, .ref mo)] [] [aI cI mg 100 (sgA sg), aL cL ma 800 (moA up), aL cL mb 800 (moA dn), aL cL mru 8 (rsA ju), aL cL mrd 8 (rsA jd), oM mo 0 mw (nv : Int) mg ma mb (ns : Int) mlo mhi (nw : Int) mwe mru mrd, aL cL mw 160 (wkA (un (un rr 0 0) 1 0))]
      refine z_iconst S d_M_rest_35 ?_
      refine z_istore_n (lv' := [(1, .int (zI 0)), (0, .ref mo)]) S d_M_rest_36 rfl (by decide) rfl ?_
      refine z_lv (lv' := [(0, .ref mo), (1, .int (zI 0))]) [1, 0] rfl ?_
      refine z_ws (ws' := [oM mo 0 mw (nv : Int) mg ma mb (ns : Int) mlo mhi (nw : Int) mwe mru mrd, aL cL mw 160 (wkA (un (un rr 0 0) 1 0)), aI cI mg 100 (sgA sg), aL cL ma 800 (moA up), aL cL mb 800 (moA dn), aL cL mru 8 (rsA ju), aL cL mrd 8 (rsA jd)]) [5, 6, 0, 1, 2, 3, 4] (by decide) rfl rfl ?_
      refine z_wq (ws' := [oM mo 0 mw (nv : Int) mg ma mb (ns : Int) mlo mhi (nw : Int) mwe mru mrd, aL cL mw 160 (wkA (un (un rr 0 (mN ju 0 0)) 1 (mN jd 0 0))), aI cI mg 100 (sgA sg), aL cL ma 800 (moA up), aL cL mb 800 (moA dn), aL cL mru 8 (rsA ju), aL cL mrd 8 (rsA jd)]) (by rw [mN_0, mN_0]) ?_
      refine z_lq (lv' := [(0, .ref mo), (1, .int (zI ((0 : Nat) : Int)))]) (congrArg (fun zzz : Int => ([(0, .ref mo), (1, .int (zI zzz))] : List (Nat × Value))) (show (0 : Int) = ((0 : Nat) : Int) by omega)) ?_
      refine z_loop (I := fun (i : Nat) => (i ≤ 8)) (μ := fun (i : Nat) => 8 - i) (LV := fun (i : Nat) => [(0, .ref mo), (1, .int (zI (i : Int)))]) (WS := fun (i : Nat) => [oM mo 0 mw (nv : Int) mg ma mb (ns : Int) mlo mhi (nw : Int) mwe mru mrd, aL cL mw 160 (wkA (un (un rr 0 (mN ju 0 i)) 1 (mN jd 0 i))), aI cI mg 100 (sgA sg), aL cL ma 800 (moA up), aL cL mb 800 (moA dn), aL cL mru 8 (rsA ju), aL cL mrd 8 (rsA jd)]) (a := 0) ?_ ?_
      · exact (show (0 ≤ 8) from by omega)
      · intro i hI ih37
        have hi : i ≤ 8 := hI
        show ZZ _ _ _ _ _ _ _ _ _ _ _ _ _ _ _ _ _ _ 37 [(0, .ref mo), (1, .int (zI (i : Int)))] [] [oM mo 0 mw (nv : Int) mg ma mb (ns : Int) mlo mhi (nw : Int) mwe mru mrd, aL cL mw 160 (wkA (un (un rr 0 (mN ju 0 i)) 1 (mN jd 0 i))), aI cI mg 100 (sgA sg), aL cL ma 800 (moA up), aL cL mb 800 (moA dn), aL cL mru 8 (rsA ju), aL cL mrd 8 (rsA jd)]
        have hS0 : (un (un rr 0 (mN ju 0 i)) 1 (mN jd 0 i)) 0 = mN ju 0 i := rfl
        have hS1 : (un (un rr 0 (mN ju 0 (i + 1))) 1 (mN jd 0 i)) 1 = mN jd 0 i := rfl
        refine z_iload_n S d_M_rest_37 1 rfl ?_
        refine z_bipush S d_M_rest_38 rfl ?_
        refine z_icmp_ge (tgt := 78) S d_M_rest_40 (by decide) (by omega) (by omega) (fun c3 => ?_) (fun c3 => ?_)
        · skip
          have hi8 : i = 8 := by omega
          have e8 := e48
          have k1 : mN ju 0 8 = ju := mN_8 hju
          have k2 : mN jd 0 8 = jd := mN_8 hjd
          obtain ⟨ra, hra, a0, a1⟩ : ∃ ra : Nat → Nat, ra = (un (un rr 0 (mN ju 0 i)) 1 (mN jd 0 i)) ∧ ra 0 = ju ∧ ra 1 = jd := ⟨(un (un rr 0 (mN ju 0 i)) 1 (mN jd 0 i)), rfl, (by show mN ju 0 i = _; rw [hi8, k1]), (by show mN jd 0 i = _; rw [hi8, k2])⟩
          refine z_wq (ws' := [oM mo 0 mw (nv : Int) mg ma mb (ns : Int) mlo mhi (nw : Int) mwe mru mrd, aL cL mw 160 (wkA ra), aI cI mg 100 (sgA sg), aL cL ma 800 (moA up), aL cL mb 800 (moA dn), aL cL mru 8 (rsA ju), aL cL mrd 8 (rsA jd)]) (by rw [hra]) ?_
          have hl := lw_cop hjc
          have hju20 := b48_20 hju
          have hjd20 := b48_20 hjd
          refine z_aload_n S d_M_rest_78 0 rfl ?_
          refine z_iconst S d_M_rest_79 ?_
          refine z_callVa (As := [.int (zI 1)]) (st := []) (wc := [oM mo 0 mw (nv : Int) mg ma mb (ns : Int) mlo mhi (nw : Int) mwe mru mrd, aL cL mw 160 (wkA ra), aI cI mg 100 (sgA sg), aL cL ma 800 (moA up), aL cL mb 800 (moA dn)]) (wr := [aL cL mru 8 (rsA ju), aL cL mrd 8 (rsA jd)]) S hGok hK hg hA (s_M_keepFit l dC dI cI cL qT mo mw nv ma mb ns mlo mhi nw mwe mru mrd 0 mg ra sg up dn 1 (by omega) (by rw [a0]; exact hju20) (by rw [a1]; exact hjd20) (by rw [a1]; exact hjp) (by omega) (by rw [a0, a1, hl.1, hl.2]; exact ⟨hju, hjd⟩)) (zcwV S (List.mem_cons_of_mem _ k_M_122) mV_M_keep k_M_122 hd_M_keep rfl rfl ⟨Nat.le_of_ble_eq_true rfl, Nat.le_of_ble_eq_true rfl⟩) rfl (Nat.le_of_ble_eq_true rfl) d_M_rest_80 ⟨Nat.le_of_ble_eq_true rfl, Nat.le_of_ble_eq_true rfl⟩ rfl [0, 1, 2, 3, 4] [5, 6] 0 rfl rfl rfl (by decide) rfl rfl rfl (by decide) (by decide) (fun x w hp => ?_)
          obtain ⟨rk, rfl, rfl⟩ := hp
          show ZZ _ _ _ _ _ _ _ _ _ _ _ _ _ _ _ _ _ _ 83 [(0, .ref mo), (1, .int (zI (i : Int)))] [.int (zI (nv : Int))] [aL cL mru 8 (rsA ju), aL cL mrd 8 (rsA jd), oM mo 0 mw ((nv + 1 : Nat) : Int) mg ma mb (ns : Int) mlo mhi (nw : Int) mwe mru mrd, aL cL mw 160 (wkA rk), aI cI mg 100 (sgA (uz sg nv (zs (lwX (ra 0) (ra 1)) 1))), aL cL ma 800 (moA (un up nv (lwX (ra 0) (ra 1)))), aL cL mb 800 (moA (un dn nv (lwZ (ra 0) (ra 1))))]
          exact z_iret (w := [oM mo 0 mw ((nv + 1 : Nat) : Int) mg ma mb (ns : Int) mlo mhi (nw : Int) mwe mru mrd, aL cL mw 160 (wkA rk), aI cI mg 100 (sgA (uz sg nv (zs (lwX (ra 0) (ra 1)) 1))), aL cL ma 800 (moA (un up nv (lwX (ra 0) (ra 1)))), aL cL mb 800 (moA (un dn nv (lwZ (ra 0) (ra 1)))), aL cL mru 8 (rsA ju), aL cL mrd 8 (rsA jd)]) S hr hlo hAe d_M_rest_83 [2, 3, 4, 5, 6, 0, 1] (by decide) rfl rfl ⟨Nat.le_refl _, Nat.le_refl _⟩ (⟨rk, rfl, by rw [a0, a1, hl.1, hl.2]⟩)
        · skip
          refine z_aload_n S d_M_rest_43 0 rfl ?_
          refine z_get S hK la_M 0 rfl rfl 1 (by decide) k_M_7 rfl d_M_rest_44 ?_
          refine z_iconst S d_M_rest_47 ?_
          refine z_iload_n S d_M_rest_48 1 rfl ?_
          refine z_iadd S d_M_rest_49 ?_
          refine z_aload_n S d_M_rest_50 0 rfl ?_
          refine z_get S hK la_M 0 rfl rfl 11 (by decide) k_M_32 rfl d_M_rest_51 ?_
          refine z_iload_n S d_M_rest_54 1 rfl ?_
          refine z_lald (x := ((dg 1000000 ju i : Nat) : Int)) S hK 5 1 rfl rfl i rfl (by omega) (by decide) rfl d_M_rest_55 ?_
          refine z_last (f' := wkA (un (un rr 0 (mN ju 0 (i + 1))) 1 (mN jd 0 i))) (ws' := [oM mo 0 mw (nv : Int) mg ma mb (ns : Int) mlo mhi (nw : Int) mwe mru mrd, aL cL mw 160 (wkA (un (un rr 0 (mN ju 0 (i + 1))) 1 (mN jd 0 i))), aI cI mg 100 (sgA sg), aL cL ma 800 (moA up), aL cL mb 800 (moA dn), aL cL mru 8 (rsA ju), aL cL mrd 8 (rsA jd)]) S hK 1 1 rfl rfl (0 * 20 + i) (by omega) (by omega) (by decide) ((wkA_up (v := mN ju 0 (i + 1)) (d := dg 1000000 ju i) (by omega) rfl (fun j hj => by rw [hS0]; exact mN_s _ _ _ _)).trans (by rw [un_cm (show 1 ≠ 0 by decide), un_un])) rfl d_M_rest_56 ?_
          refine z_aload_n S d_M_rest_57 0 rfl ?_
          refine z_get S hK la_M 0 rfl rfl 1 (by decide) k_M_7 rfl d_M_rest_58 ?_
          refine z_bipush S d_M_rest_61 rfl ?_
          refine z_iload_n S d_M_rest_63 1 rfl ?_
          refine z_iadd S d_M_rest_64 ?_
          refine z_aload_n S d_M_rest_65 0 rfl ?_
          refine z_get S hK la_M 0 rfl rfl 12 (by decide) k_M_35 rfl d_M_rest_66 ?_
          refine z_iload_n S d_M_rest_69 1 rfl ?_
          refine z_lald (x := ((dg 1000000 jd i : Nat) : Int)) S hK 6 1 rfl rfl i rfl (by omega) (by decide) rfl d_M_rest_70 ?_
          refine z_last (f' := wkA (un (un rr 0 (mN ju 0 (i + 1))) 1 (mN jd 0 (i + 1)))) (ws' := [oM mo 0 mw (nv : Int) mg ma mb (ns : Int) mlo mhi (nw : Int) mwe mru mrd, aL cL mw 160 (wkA (un (un rr 0 (mN ju 0 (i + 1))) 1 (mN jd 0 (i + 1)))), aI cI mg 100 (sgA sg), aL cL ma 800 (moA up), aL cL mb 800 (moA dn), aL cL mru 8 (rsA ju), aL cL mrd 8 (rsA jd)]) S hK 1 1 rfl rfl (1 * 20 + i) (by omega) (by omega) (by decide) ((wkA_up (v := mN jd 0 (i + 1)) (d := dg 1000000 jd i) (by omega) rfl (fun j hj => by rw [hS1]; exact mN_s _ _ _ _)).trans (by rw [un_un])) rfl d_M_rest_71 ?_
          refine z_iinc (y := ((i + 1 : Nat) : Int)) (lv' := [(1, .int (zI ((i + 1 : Nat) : Int))), (0, .ref mo)]) S d_M_rest_72 1 rfl (by omega) (by decide) rfl ?_
          refine z_goto (tgt := 37) S d_M_rest_75 (by decide) ?_
          refine z_lv (lv' := [(0, .ref mo), (1, .int (zI ((i + 1 : Nat) : Int)))]) [1, 0] rfl ?_
          exact ih37 (i + 1) (show ((i + 1) ≤ 8) from by omega) (show 8 - (i + 1) < 8 - i from by omega)
    · skip
      exact absurd c2 (by omega)
set_option maxHeartbeats 4000000 in
set_option maxRecDepth 100000 in
theorem f1_M_rest (l : Launch) (dC : Nat → ClassId) (dI : Nat → Nat → Nat) (cI cL : ClassId) (qT : Nat) (mo : Nat) (mw : Nat) (nv : Nat) (ma : Nat) (mb : Nat) (ns : Nat) (mlo : Nat) (mhi : Nat) (nw : Nat) (mwe : Nat) (mru : Nat) (mrd : Nat) (th : Int) (mg : Nat) (hnv : nv = 100) : Ct l y_M_rest (Cond.code y_M_rest c_M_rest 2 (some .int) :: zB) { frames := 5, cells := 0, slots := 0, locals := 128 } (dC, dI) zcl [(cI, .int), (cL, .long)] (zG cI cL qT) [.ref mo] [oM mo th mw (nv : Int) mg ma mb (ns : Int) mlo mhi (nw : Int) mwe mru mrd] (fun rv wv => rv = .int (zI 0) ∧ wv = [oM mo 1 mw (nv : Int) mg ma mb (ns : Int) mlo mhi (nw : Int) mwe mru mrd]) 0 0 := by
  refine Cm.ofZ (cc := c_M_rest) (maxL := 2) (ret := (some .int)) (by decide) rfl (Nat.le_of_ble_eq_true rfl) rfl ?_
  intro p e s m below meth c A S hr hlo hnm hK hg hA hAe
  have hGok := zG_ok cI cL qT
  show ZZ _ _ _ _ _ _ _ _ _ _ _ _ _ _ _ _ _ _ 0 [(0, .ref mo)] [] [oM mo th mw (nv : Int) mg ma mb (ns : Int) mlo mhi (nw : Int) mwe mru mrd]
  refine z_aload_n S d_M_rest_0 0 rfl ?_
  refine z_aload_n S d_M_rest_1 0 rfl ?_
  refine z_get S hK la_M 0 rfl rfl 2 (by decide) k_M_42 rfl d_M_rest_2 ?_
  refine z_bipush S d_M_rest_5 rfl ?_
  refine z_icmp_ge (tgt := 14) S d_M_rest_7 (by decide) (by omega) (by omega) (fun c1 => ?_) (fun c1 => ?_)
  · skip
    refine z_iconst S d_M_rest_14 ?_
    refine z_iconst S d_M_rest_15 ?_
    refine z_iconst S d_M_rest_16 ?_
    refine z_callVa (As := [.int (zI 0), .int (zI 1), .int (zI 1)]) (st := []) (wc := [oM mo th mw (nv : Int) mg ma mb (ns : Int) mlo mhi (nw : Int) mwe mru mrd]) (wr := []) S hGok hK hg hA (s_M_goes l dC dI cI cL qT mo mw nv ma mb ns mlo mhi nw mwe mru mrd th mg 0 1 1 (by omega) (by omega) (by omega)) (zcwV S (List.mem_cons_of_mem _ k_M_118) mV_M_goes k_M_118 hd_M_goes rfl rfl ⟨Nat.le_of_ble_eq_true rfl, Nat.le_of_ble_eq_true rfl⟩) rfl (Nat.le_of_ble_eq_true rfl) d_M_rest_17 ⟨Nat.le_of_ble_eq_true rfl, Nat.le_of_ble_eq_true rfl⟩ rfl [0] [] 0 rfl rfl rfl (by decide) rfl rfl rfl (by decide) (by decide) (fun x w hp => ?_)
    obtain ⟨rfl, rfl⟩ := hp
    show ZZ _ _ _ _ _ _ _ _ _ _ _ _ _ _ _ _ _ _ 20 [(0, .ref mo)] [.int (zI (b2 (gth 0 1 1 = 0)))] [oM mo (gth 0 1 1) mw (nv : Int) mg ma mb (ns : Int) mlo mhi (nw : Int) mwe mru mrd]
    refine z_toi (a := 0) rfl ?_
    refine z_wq (ws' := [oM mo 1 mw (nv : Int) mg ma mb (ns : Int) mlo mhi (nw : Int) mwe mru mrd]) rfl ?_
    refine z_if_ne (tgt := 25) S d_M_rest_20 (by decide) (by omega) (fun c2 => ?_) (fun c2 => ?_)
    · skip
      exact absurd c2 (by omega)
    · skip
      refine z_iconst S d_M_rest_23 ?_
      exact z_iret (w := [oM mo 1 mw (nv : Int) mg ma mb (ns : Int) mlo mhi (nw : Int) mwe mru mrd]) S hr hlo hAe d_M_rest_24 [0] (by decide) rfl rfl ⟨Nat.le_refl _, Nat.le_refl _⟩ (⟨rfl, rfl⟩)
  · skip
    omega
set_option maxHeartbeats 4000000 in
set_option maxRecDepth 100000 in
theorem s_M_init (l : Launch) (dC : Nat → ClassId) (dI : Nat → Nat → Nat) (cI cL : ClassId) (qT : Nat) (mo : Nat)  : Cv l y_M_init (Cond.code y_M_init c_M_init 1 none :: zB) { frames := 1, cells := 9, slots := 1956, locals := 20 } (dC, dI) zcl [(cI, .int), (cL, .long)] (zG cI cL qT) [.ref mo] [(mo, .inr (5, [.int (zI 0), .null, .int (zI 0), .null, .null, .null, .int (zI 0), .null, .null, .int (zI 0), .null, .null, .null]))] (fun wv => ∃ mw : Nat, ∃ mg : Nat, ∃ ma : Nat, ∃ mb : Nat, ∃ mlo : Nat, ∃ mhi : Nat, ∃ mwe : Nat, ∃ mru : Nat, ∃ mrd : Nat, wv = [oM mo 0 mw 0 mg ma mb 0 mlo mhi 0 mwe mru mrd, aL cL mw 160 (wkA (fun _ => 0)), aI cI mg 100 (sgA (fun _ => 0)), aL cL ma 800 (moA (fun _ => 0)), aL cL mb 800 (moA (fun _ => 0)), aI cI mlo 30 (eA (fun _ => 0)), aI cI mhi 30 (eA (fun _ => 0)), aL cL mwe 20 (wA (fun _ => 0)), aL cL mru 8 (rsA 0), aL cL mrd 8 (rsA 1)]) 9 1956 := by
  refine Cm.ofZ (cc := c_M_init) (maxL := 1) (ret := none) (by decide) rfl (Nat.le_of_ble_eq_true rfl) rfl ?_
  intro p e s m below meth c A S hr hlo hnm hK hg hA hAe
  have hGok := zG_ok cI cL qT
  show ZZ _ _ _ _ _ _ _ _ _ _ _ _ _ _ _ _ _ _ 0 [(0, .ref mo)] [] [(mo, .inr (5, [.int (zI 0), .null, .int (zI 0), .null, .null, .null, .int (zI 0), .null, .null, .int (zI 0), .null, .null, .null]))]
  refine z_aload_n S d_M_init_0 0 rfl ?_
  refine z_oinit S k_M_1 d_M_init_1 (Nat.le_of_ble_eq_true rfl) ⟨Nat.le_of_ble_eq_true rfl, Nat.le_of_ble_eq_true rfl⟩ ?_
  refine z_aload_n S d_M_init_4 0 rfl ?_
  refine z_sipush S d_M_init_5 rfl ?_
  refine z_newL S hg hA ka_long 160 rfl (by decide) ⟨Nat.le_of_ble_eq_true rfl, Nat.le_of_ble_eq_true rfl⟩ d_M_init_8 (fun mw => ?_)
  show ZZ _ _ _ _ _ _ _ _ _ _ _ _ _ _ _ _ _ _ 10 [(0, .ref mo)] [.ref mw, .ref mo] [(mo, .inr (5, [.int (zI 0), .null, .int (zI 0), .null, .null, .null, .int (zI 0), .null, .null, .int (zI 0), .null, .null, .null])), aL cL mw 160 (fun _ => zL 0)]
  refine z_putF (ws' := [(mo, .inr (5, [.int (zI 0), .ref mw, .int (zI 0), .null, .null, .null, .int (zI 0), .null, .null, .int (zI 0), .null, .null, .null])), aL cL mw 160 (fun _ => zL 0)]) S hK la_M ty_M tyok_M nm_M 0 rfl rfl 1 (by decide) k_M_7 rfl hnm rfl (ty := .array .long) (by decide +kernel) rfl rfl (Nat.le_of_ble_eq_true rfl) rfl d_M_init_10 ?_
  refine z_aload_n S d_M_init_13 0 rfl ?_
  refine z_bipush S d_M_init_14 rfl ?_
  refine z_newI S hg hA ka_int 100 rfl (by decide) ⟨Nat.le_of_ble_eq_true rfl, Nat.le_of_ble_eq_true rfl⟩ d_M_init_16 (fun mg => ?_)
  show ZZ _ _ _ _ _ _ _ _ _ _ _ _ _ _ _ _ _ _ 18 [(0, .ref mo)] [.ref mg, .ref mo] [(mo, .inr (5, [.int (zI 0), .ref mw, .int (zI 0), .null, .null, .null, .int (zI 0), .null, .null, .int (zI 0), .null, .null, .null])), aL cL mw 160 (fun _ => zL 0), aI cI mg 100 (fun _ => zI 0)]
  refine z_putF (ws' := [(mo, .inr (5, [.int (zI 0), .ref mw, .int (zI 0), .ref mg, .null, .null, .int (zI 0), .null, .null, .int (zI 0), .null, .null, .null])), aL cL mw 160 (fun _ => zL 0), aI cI mg 100 (fun _ => zI 0)]) S hK la_M ty_M tyok_M nm_M 0 rfl rfl 3 (by decide) k_M_13 rfl hnm rfl (ty := .array .int) (by decide +kernel) rfl rfl (Nat.le_of_ble_eq_true rfl) rfl d_M_init_18 ?_
  refine z_aload_n S d_M_init_21 0 rfl ?_
  refine z_sipush S d_M_init_22 rfl ?_
  refine z_newL S hg hA ka_long 800 rfl (by decide) ⟨Nat.le_of_ble_eq_true rfl, Nat.le_of_ble_eq_true rfl⟩ d_M_init_25 (fun ma => ?_)
  show ZZ _ _ _ _ _ _ _ _ _ _ _ _ _ _ _ _ _ _ 27 [(0, .ref mo)] [.ref ma, .ref mo] [(mo, .inr (5, [.int (zI 0), .ref mw, .int (zI 0), .ref mg, .null, .null, .int (zI 0), .null, .null, .int (zI 0), .null, .null, .null])), aL cL mw 160 (fun _ => zL 0), aI cI mg 100 (fun _ => zI 0), aL cL ma 800 (fun _ => zL 0)]
  refine z_putF (ws' := [(mo, .inr (5, [.int (zI 0), .ref mw, .int (zI 0), .ref mg, .ref ma, .null, .int (zI 0), .null, .null, .int (zI 0), .null, .null, .null])), aL cL mw 160 (fun _ => zL 0), aI cI mg 100 (fun _ => zI 0), aL cL ma 800 (fun _ => zL 0)]) S hK la_M ty_M tyok_M nm_M 0 rfl rfl 4 (by decide) k_M_17 rfl hnm rfl (ty := .array .long) (by decide +kernel) rfl rfl (Nat.le_of_ble_eq_true rfl) rfl d_M_init_27 ?_
  refine z_aload_n S d_M_init_30 0 rfl ?_
  refine z_sipush S d_M_init_31 rfl ?_
  refine z_newL S hg hA ka_long 800 rfl (by decide) ⟨Nat.le_of_ble_eq_true rfl, Nat.le_of_ble_eq_true rfl⟩ d_M_init_34 (fun mb => ?_)
  show ZZ _ _ _ _ _ _ _ _ _ _ _ _ _ _ _ _ _ _ 36 [(0, .ref mo)] [.ref mb, .ref mo] [(mo, .inr (5, [.int (zI 0), .ref mw, .int (zI 0), .ref mg, .ref ma, .null, .int (zI 0), .null, .null, .int (zI 0), .null, .null, .null])), aL cL mw 160 (fun _ => zL 0), aI cI mg 100 (fun _ => zI 0), aL cL ma 800 (fun _ => zL 0), aL cL mb 800 (fun _ => zL 0)]
  refine z_putF (ws' := [(mo, .inr (5, [.int (zI 0), .ref mw, .int (zI 0), .ref mg, .ref ma, .ref mb, .int (zI 0), .null, .null, .int (zI 0), .null, .null, .null])), aL cL mw 160 (fun _ => zL 0), aI cI mg 100 (fun _ => zI 0), aL cL ma 800 (fun _ => zL 0), aL cL mb 800 (fun _ => zL 0)]) S hK la_M ty_M tyok_M nm_M 0 rfl rfl 5 (by decide) k_M_20 rfl hnm rfl (ty := .array .long) (by decide +kernel) rfl rfl (Nat.le_of_ble_eq_true rfl) rfl d_M_init_36 ?_
  refine z_aload_n S d_M_init_39 0 rfl ?_
  refine z_bipush S d_M_init_40 rfl ?_
  refine z_newI S hg hA ka_int 30 rfl (by decide) ⟨Nat.le_of_ble_eq_true rfl, Nat.le_of_ble_eq_true rfl⟩ d_M_init_42 (fun mlo => ?_)
  show ZZ _ _ _ _ _ _ _ _ _ _ _ _ _ _ _ _ _ _ 44 [(0, .ref mo)] [.ref mlo, .ref mo] [(mo, .inr (5, [.int (zI 0), .ref mw, .int (zI 0), .ref mg, .ref ma, .ref mb, .int (zI 0), .null, .null, .int (zI 0), .null, .null, .null])), aL cL mw 160 (fun _ => zL 0), aI cI mg 100 (fun _ => zI 0), aL cL ma 800 (fun _ => zL 0), aL cL mb 800 (fun _ => zL 0), aI cI mlo 30 (fun _ => zI 0)]
  refine z_putF (ws' := [(mo, .inr (5, [.int (zI 0), .ref mw, .int (zI 0), .ref mg, .ref ma, .ref mb, .int (zI 0), .ref mlo, .null, .int (zI 0), .null, .null, .null])), aL cL mw 160 (fun _ => zL 0), aI cI mg 100 (fun _ => zI 0), aL cL ma 800 (fun _ => zL 0), aL cL mb 800 (fun _ => zL 0), aI cI mlo 30 (fun _ => zI 0)]) S hK la_M ty_M tyok_M nm_M 0 rfl rfl 7 (by decide) k_M_23 rfl hnm rfl (ty := .array .int) (by decide +kernel) rfl rfl (Nat.le_of_ble_eq_true rfl) rfl d_M_init_44 ?_
  refine z_aload_n S d_M_init_47 0 rfl ?_
  refine z_bipush S d_M_init_48 rfl ?_
  refine z_newI S hg hA ka_int 30 rfl (by decide) ⟨Nat.le_of_ble_eq_true rfl, Nat.le_of_ble_eq_true rfl⟩ d_M_init_50 (fun mhi => ?_)
  show ZZ _ _ _ _ _ _ _ _ _ _ _ _ _ _ _ _ _ _ 52 [(0, .ref mo)] [.ref mhi, .ref mo] [(mo, .inr (5, [.int (zI 0), .ref mw, .int (zI 0), .ref mg, .ref ma, .ref mb, .int (zI 0), .ref mlo, .null, .int (zI 0), .null, .null, .null])), aL cL mw 160 (fun _ => zL 0), aI cI mg 100 (fun _ => zI 0), aL cL ma 800 (fun _ => zL 0), aL cL mb 800 (fun _ => zL 0), aI cI mlo 30 (fun _ => zI 0), aI cI mhi 30 (fun _ => zI 0)]
  refine z_putF (ws' := [(mo, .inr (5, [.int (zI 0), .ref mw, .int (zI 0), .ref mg, .ref ma, .ref mb, .int (zI 0), .ref mlo, .ref mhi, .int (zI 0), .null, .null, .null])), aL cL mw 160 (fun _ => zL 0), aI cI mg 100 (fun _ => zI 0), aL cL ma 800 (fun _ => zL 0), aL cL mb 800 (fun _ => zL 0), aI cI mlo 30 (fun _ => zI 0), aI cI mhi 30 (fun _ => zI 0)]) S hK la_M ty_M tyok_M nm_M 0 rfl rfl 8 (by decide) k_M_26 rfl hnm rfl (ty := .array .int) (by decide +kernel) rfl rfl (Nat.le_of_ble_eq_true rfl) rfl d_M_init_52 ?_
  refine z_aload_n S d_M_init_55 0 rfl ?_
  refine z_bipush S d_M_init_56 rfl ?_
  refine z_newL S hg hA ka_long 20 rfl (by decide) ⟨Nat.le_of_ble_eq_true rfl, Nat.le_of_ble_eq_true rfl⟩ d_M_init_58 (fun mwe => ?_)
  show ZZ _ _ _ _ _ _ _ _ _ _ _ _ _ _ _ _ _ _ 60 [(0, .ref mo)] [.ref mwe, .ref mo] [(mo, .inr (5, [.int (zI 0), .ref mw, .int (zI 0), .ref mg, .ref ma, .ref mb, .int (zI 0), .ref mlo, .ref mhi, .int (zI 0), .null, .null, .null])), aL cL mw 160 (fun _ => zL 0), aI cI mg 100 (fun _ => zI 0), aL cL ma 800 (fun _ => zL 0), aL cL mb 800 (fun _ => zL 0), aI cI mlo 30 (fun _ => zI 0), aI cI mhi 30 (fun _ => zI 0), aL cL mwe 20 (fun _ => zL 0)]
  refine z_putF (ws' := [(mo, .inr (5, [.int (zI 0), .ref mw, .int (zI 0), .ref mg, .ref ma, .ref mb, .int (zI 0), .ref mlo, .ref mhi, .int (zI 0), .ref mwe, .null, .null])), aL cL mw 160 (fun _ => zL 0), aI cI mg 100 (fun _ => zI 0), aL cL ma 800 (fun _ => zL 0), aL cL mb 800 (fun _ => zL 0), aI cI mlo 30 (fun _ => zI 0), aI cI mhi 30 (fun _ => zI 0), aL cL mwe 20 (fun _ => zL 0)]) S hK la_M ty_M tyok_M nm_M 0 rfl rfl 10 (by decide) k_M_29 rfl hnm rfl (ty := .array .long) (by decide +kernel) rfl rfl (Nat.le_of_ble_eq_true rfl) rfl d_M_init_60 ?_
  refine z_aload_n S d_M_init_63 0 rfl ?_
  refine z_bipush S d_M_init_64 rfl ?_
  refine z_newL S hg hA ka_long 8 rfl (by decide) ⟨Nat.le_of_ble_eq_true rfl, Nat.le_of_ble_eq_true rfl⟩ d_M_init_66 (fun mru => ?_)
  show ZZ _ _ _ _ _ _ _ _ _ _ _ _ _ _ _ _ _ _ 68 [(0, .ref mo)] [.ref mru, .ref mo] [(mo, .inr (5, [.int (zI 0), .ref mw, .int (zI 0), .ref mg, .ref ma, .ref mb, .int (zI 0), .ref mlo, .ref mhi, .int (zI 0), .ref mwe, .null, .null])), aL cL mw 160 (fun _ => zL 0), aI cI mg 100 (fun _ => zI 0), aL cL ma 800 (fun _ => zL 0), aL cL mb 800 (fun _ => zL 0), aI cI mlo 30 (fun _ => zI 0), aI cI mhi 30 (fun _ => zI 0), aL cL mwe 20 (fun _ => zL 0), aL cL mru 8 (fun _ => zL 0)]
  refine z_putF (ws' := [(mo, .inr (5, [.int (zI 0), .ref mw, .int (zI 0), .ref mg, .ref ma, .ref mb, .int (zI 0), .ref mlo, .ref mhi, .int (zI 0), .ref mwe, .ref mru, .null])), aL cL mw 160 (fun _ => zL 0), aI cI mg 100 (fun _ => zI 0), aL cL ma 800 (fun _ => zL 0), aL cL mb 800 (fun _ => zL 0), aI cI mlo 30 (fun _ => zI 0), aI cI mhi 30 (fun _ => zI 0), aL cL mwe 20 (fun _ => zL 0), aL cL mru 8 (fun _ => zL 0)]) S hK la_M ty_M tyok_M nm_M 0 rfl rfl 11 (by decide) k_M_32 rfl hnm rfl (ty := .array .long) (by decide +kernel) rfl rfl (Nat.le_of_ble_eq_true rfl) rfl d_M_init_68 ?_
  refine z_aload_n S d_M_init_71 0 rfl ?_
  refine z_bipush S d_M_init_72 rfl ?_
  refine z_newL S hg hA ka_long 8 rfl (by decide) ⟨Nat.le_of_ble_eq_true rfl, Nat.le_of_ble_eq_true rfl⟩ d_M_init_74 (fun mrd => ?_)
  show ZZ _ _ _ _ _ _ _ _ _ _ _ _ _ _ _ _ _ _ 76 [(0, .ref mo)] [.ref mrd, .ref mo] [(mo, .inr (5, [.int (zI 0), .ref mw, .int (zI 0), .ref mg, .ref ma, .ref mb, .int (zI 0), .ref mlo, .ref mhi, .int (zI 0), .ref mwe, .ref mru, .null])), aL cL mw 160 (fun _ => zL 0), aI cI mg 100 (fun _ => zI 0), aL cL ma 800 (fun _ => zL 0), aL cL mb 800 (fun _ => zL 0), aI cI mlo 30 (fun _ => zI 0), aI cI mhi 30 (fun _ => zI 0), aL cL mwe 20 (fun _ => zL 0), aL cL mru 8 (fun _ => zL 0), aL cL mrd 8 (fun _ => zL 0)]
  refine z_putF (ws' := [oM mo 0 mw 0 mg ma mb 0 mlo mhi 0 mwe mru mrd, aL cL mw 160 (fun _ => zL 0), aI cI mg 100 (fun _ => zI 0), aL cL ma 800 (fun _ => zL 0), aL cL mb 800 (fun _ => zL 0), aI cI mlo 30 (fun _ => zI 0), aI cI mhi 30 (fun _ => zI 0), aL cL mwe 20 (fun _ => zL 0), aL cL mru 8 (fun _ => zL 0), aL cL mrd 8 (fun _ => zL 0)]) S hK la_M ty_M tyok_M nm_M 0 rfl rfl 12 (by decide) k_M_35 rfl hnm rfl (ty := .array .long) (by decide +kernel) rfl rfl (Nat.le_of_ble_eq_true rfl) rfl d_M_init_76 ?_
  refine z_aload_n S d_M_init_79 0 rfl ?_
  refine z_get S hK la_M 0 rfl rfl 12 (by decide) k_M_35 rfl d_M_init_80 ?_
  refine z_iconst S d_M_init_83 ?_
  refine z_lconst (z := 1) S d_M_init_84 rfl ?_
  refine z_last (f' := rsA 1) (ws' := [oM mo 0 mw 0 mg ma mb 0 mlo mhi 0 mwe mru mrd, aL cL mw 160 (fun _ => zL 0), aI cI mg 100 (fun _ => zI 0), aL cL ma 800 (fun _ => zL 0), aL cL mb 800 (fun _ => zL 0), aI cI mlo 30 (fun _ => zI 0), aI cI mhi 30 (fun _ => zI 0), aL cL mwe 20 (fun _ => zL 0), aL cL mru 8 (fun _ => zL 0), aL cL mrd 8 (rsA 1)]) S hK 9 1 rfl rfl 0 rfl (by omega) (by decide) (rsA_1) rfl d_M_init_85 ?_
  refine z_ws (ws' := [oM mo 0 mw 0 mg ma mb 0 mlo mhi 0 mwe mru mrd, aL cL mw 160 (fun _ => zL 0), aI cI mg 100 (fun _ => zI 0), aL cL ma 800 (fun _ => zL 0), aL cL mb 800 (fun _ => zL 0), aI cI mlo 30 (fun _ => zI 0), aI cI mhi 30 (fun _ => zI 0), aL cL mwe 20 (fun _ => zL 0), aL cL mru 8 (fun _ => zL 0), aL cL mrd 8 (rsA 1)]) [0, 1, 2, 3, 4, 5, 6, 7, 8, 9] (by decide) rfl rfl ?_
  refine z_wq (ws' := [oM mo 0 mw 0 mg ma mb 0 mlo mhi 0 mwe mru mrd, aL cL mw 160 (wkA (fun _ => 0)), aI cI mg 100 (sgA (fun _ => 0)), aL cL ma 800 (moA (fun _ => 0)), aL cL mb 800 (moA (fun _ => 0)), aI cI mlo 30 (eA (fun _ => 0)), aI cI mhi 30 (eA (fun _ => 0)), aL cL mwe 20 (wA (fun _ => 0)), aL cL mru 8 (rsA 0), aL cL mrd 8 (rsA 1)]) (by rw [← wkA_00, ← moA_00, ← rsA_00]; rfl) ?_
  exact z_vret (w := [oM mo 0 mw 0 mg ma mb 0 mlo mhi 0 mwe mru mrd, aL cL mw 160 (wkA (fun _ => 0)), aI cI mg 100 (sgA (fun _ => 0)), aL cL ma 800 (moA (fun _ => 0)), aL cL mb 800 (moA (fun _ => 0)), aI cI mlo 30 (eA (fun _ => 0)), aI cI mhi 30 (eA (fun _ => 0)), aL cL mwe 20 (wA (fun _ => 0)), aL cL mru 8 (rsA 0), aL cL mrd 8 (rsA 1)]) S hr hlo hAe d_M_init_86 [0, 1, 2, 3, 4, 5, 6, 7, 8, 9] (by decide) rfl rfl ⟨Nat.le_refl _, Nat.le_refl _⟩ (⟨mw, mg, ma, mb, mlo, mhi, mwe, mru, mrd, rfl⟩)
