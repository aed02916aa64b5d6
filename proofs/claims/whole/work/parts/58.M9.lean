set_option maxHeartbeats 4000000 in
set_option maxRecDepth 100000 in
theorem s_M_value (l : Launch) (dC : Nat → ClassId) (dI : Nat → Nat → Nat) (cI cL : ClassId) (qT : Nat) (mo : Nat) (mw : Nat) (nv : Nat) (ma : Nat) (mb : Nat) (ns : Nat) (mlo : Nat) (mhi : Nat) (nw : Nat) (mwe : Nat) (mru : Nat) (mrd : Nat) (th : Int) (mg : Nat) (rr : Nat → Nat) (sg : Nat → Int) (up : Nat → Nat) (dn : Nat → Nat) (x0 : Int) (y0 : Int) (hnv : nv < 100) (hx : -9223372036854775808 ≤ x0 ∧ x0 < 9223372036854775808) (hy : -9223372036854775808 ≤ y0 ∧ y0 < 9223372036854775808) (h0 : ¬ y0 = 0) : Ct l y_M_value (Cond.code y_M_value c_M_value 5 (some .int) :: zB) { frames := 5, cells := 0, slots := 0, locals := 128 } (dC, dI) zcl [(cI, .int), (cL, .long)] (zG cI cL qT) [.ref mo, .long (zL x0), .long (zL y0)] [oM mo th mw (nv : Int) mg ma mb (ns : Int) mlo mhi (nw : Int) mwe mru mrd, aL cL mw 160 (wkA rr), aI cI mg 100 (sgA sg), aL cL ma 800 (moA up), aL cL mb 800 (moA dn)] (fun rv wv => ∃ rr2 : Nat → Nat, rv = .int (zI (kpR nv (lwX (Int.natAbs x0) (Int.natAbs y0)) (lwZ (Int.natAbs x0) (Int.natAbs y0)))) ∧ wv = [oM mo 0 mw ((kpC nv (lwX (Int.natAbs x0) (Int.natAbs y0)) (lwZ (Int.natAbs x0) (Int.natAbs y0)) : Nat) : Int) mg ma mb (ns : Int) mlo mhi (nw : Int) mwe mru mrd, aL cL mw 160 (wkA rr2), aI cI mg 100 (sgA (kpS sg nv (cmpZ x0 0 * cmpZ y0 0) (lwX (Int.natAbs x0) (Int.natAbs y0)) (lwZ (Int.natAbs x0) (Int.natAbs y0)))), aL cL ma 800 (moA (kpU up nv (lwX (Int.natAbs x0) (Int.natAbs y0)) (lwX (Int.natAbs x0) (Int.natAbs y0)) (lwZ (Int.natAbs x0) (Int.natAbs y0)))), aL cL mb 800 (moA (kpU dn nv (lwZ (Int.natAbs x0) (Int.natAbs y0)) (lwX (Int.natAbs x0) (Int.natAbs y0)) (lwZ (Int.natAbs x0) (Int.natAbs y0))))]) 0 0 := by
  refine Cm.ofZ (cc := c_M_value) (maxL := 5) (ret := (some .int)) (by decide) rfl (Nat.le_of_ble_eq_true rfl) rfl ?_
  intro p e s m below meth c A S hr hlo hnm hK hg hA hAe
  have hGok := zG_ok cI cL qT
  show ZZ _ _ _ _ _ _ _ _ _ _ _ _ _ _ _ _ _ _ 0 [(0, .ref mo), (1, .long (zL x0)), (3, .long (zL y0))] [] [oM mo th mw (nv : Int) mg ma mb (ns : Int) mlo mhi (nw : Int) mwe mru mrd, aL cL mw 160 (wkA rr), aI cI mg 100 (sgA sg), aL cL ma 800 (moA up), aL cL mb 800 (moA dn)]
  have hDp : 0 < Int.natAbs y0 := by omega
  refine z_aload_n S d_M_value_0 0 rfl ?_
  refine z_aload_n S d_M_value_1 0 rfl ?_
  refine z_get S hK la_M 0 rfl rfl 2 (by decide) k_M_42 rfl d_M_value_2 ?_
  refine z_bipush S d_M_value_5 rfl ?_
  refine z_icmp_ge (tgt := 14) S d_M_value_7 (by decide) (by omega) (by omega) (fun c1 => ?_) (fun c1 => ?_)
  · skip
    omega
  · skip
    refine z_iconst S d_M_value_10 ?_
    refine z_goto (tgt := 15) S d_M_value_11 (by decide) ?_
    refine z_lload_n S d_M_value_15 2 rfl ?_
    refine z_lconst (z := 0) S d_M_value_16 rfl ?_
    refine z_lcmp_eq (tgt := 25) S d_M_value_17 d_M_value_18 (by decide) (by omega) (by omega) (fun c2 => ?_) (fun c2 => ?_)
    · skip
      exact absurd c2 (h0)
    · skip
      refine z_iconst S d_M_value_21 ?_
      refine z_goto (tgt := 26) S d_M_value_22 (by decide) ?_
      refine z_iconst S d_M_value_26 ?_
      refine z_callVa (As := [.int (zI 1), .int (zI 1), .int (zI 1)]) (st := []) (wc := [oM mo th mw (nv : Int) mg ma mb (ns : Int) mlo mhi (nw : Int) mwe mru mrd]) (wr := [aL cL mw 160 (wkA rr), aI cI mg 100 (sgA sg), aL cL ma 800 (moA up), aL cL mb 800 (moA dn)]) S hGok hK hg hA (s_M_goes l dC dI cI cL qT mo mw nv ma mb ns mlo mhi nw mwe mru mrd th mg 1 1 1 (by omega) (by omega) (by omega)) (zcwV S (List.mem_cons_of_mem _ k_M_118) mV_M_goes k_M_118 hd_M_goes rfl rfl ⟨Nat.le_of_ble_eq_true rfl, Nat.le_of_ble_eq_true rfl⟩) rfl (Nat.le_of_ble_eq_true rfl) d_M_value_27 ⟨Nat.le_of_ble_eq_true rfl, Nat.le_of_ble_eq_true rfl⟩ rfl [0] [1, 2, 3, 4] 0 rfl rfl rfl (by decide) rfl rfl rfl (by decide) (by decide) (fun x w hp => ?_)
      obtain ⟨rfl, rfl⟩ := hp
      show ZZ _ _ _ _ _ _ _ _ _ _ _ _ _ _ _ _ _ _ 30 [(0, .ref mo), (1, .long (zL x0)), (3, .long (zL y0))] [.int (zI (b2 (gth 1 1 1 = 0)))] [aL cL mw 160 (wkA rr), aI cI mg 100 (sgA sg), aL cL ma 800 (moA up), aL cL mb 800 (moA dn), oM mo (gth 1 1 1) mw (nv : Int) mg ma mb (ns : Int) mlo mhi (nw : Int) mwe mru mrd]
      refine z_toi (a := 1) rfl ?_
      refine z_wq (ws' := [aL cL mw 160 (wkA rr), aI cI mg 100 (sgA sg), aL cL ma 800 (moA up), aL cL mb 800 (moA dn), oM mo 0 mw (nv : Int) mg ma mb (ns : Int) mlo mhi (nw : Int) mwe mru mrd]) rfl ?_
      refine z_if_ne (tgt := 35) S d_M_value_30 (by decide) (by omega) (fun c3 => ?_) (fun c3 => ?_)
      · skip
        refine z_aload_n S d_M_value_35 0 rfl ?_
        refine z_iconst S d_M_value_36 ?_
        refine z_lload_n S d_M_value_37 1 rfl ?_
        refine z_lconst (z := 0) S d_M_value_38 rfl ?_
        refine z_lcmp_ge (tgt := 48) S d_M_value_39 d_M_value_40 (by decide) (by omega) (by omega) (fun c4 => ?_) (fun c4 => ?_)
        · skip
          refine z_lload_n S d_M_value_48 1 rfl ?_
          refine z_tol (a := ((Int.natAbs x0 : Nat) : Int)) (zL_c (by omega)) ?_
          refine z_callVv (As := [.int (zI 0), .long (zL ((Int.natAbs x0 : Nat) : Int))]) (st := []) (wc := [oM mo 0 mw (nv : Int) mg ma mb (ns : Int) mlo mhi (nw : Int) mwe mru mrd, aL cL mw 160 (wkA rr)]) (wr := [aI cI mg 100 (sgA sg), aL cL ma 800 (moA up), aL cL mb 800 (moA dn)]) S hGok hK hg hA (s_M_set l dC dI cI cL qT mo mw nv ma mb ns mlo mhi nw mwe mru mrd 0 mg rr 0 (Int.natAbs x0) (by omega) (by omega)) (zcwV S (List.mem_cons_of_mem _ k_M_91) mV_M_set k_M_91 hd_M_set rfl rfl ⟨Nat.le_of_ble_eq_true rfl, Nat.le_of_ble_eq_true rfl⟩) rfl (Nat.le_of_ble_eq_true rfl) d_M_value_49 ⟨Nat.le_of_ble_eq_true rfl, Nat.le_of_ble_eq_true rfl⟩ rfl [4, 0] [1, 2, 3] 4 rfl rfl rfl (by decide) rfl rfl rfl (by decide) (by decide) (fun w hp => ?_)
          subst hp
          show ZZ _ _ _ _ _ _ _ _ _ _ _ _ _ _ _ _ _ _ 52 [(0, .ref mo), (1, .long (zL x0)), (3, .long (zL y0))] [] [aI cI mg 100 (sgA sg), aL cL ma 800 (moA up), aL cL mb 800 (moA dn), oM mo 0 mw (nv : Int) mg ma mb (ns : Int) mlo mhi (nw : Int) mwe mru mrd, aL cL mw 160 (wkA (un rr 0 (Int.natAbs x0)))]
          obtain ⟨ra, hra, a0⟩ : ∃ ra : Nat → Nat, ra = (un rr 0 (Int.natAbs x0)) ∧ ra 0 = Int.natAbs x0 := ⟨(un rr 0 (Int.natAbs x0)), rfl, rfl⟩
          refine z_wq (ws' := [aI cI mg 100 (sgA sg), aL cL ma 800 (moA up), aL cL mb 800 (moA dn), oM mo 0 mw (nv : Int) mg ma mb (ns : Int) mlo mhi (nw : Int) mwe mru mrd, aL cL mw 160 (wkA ra)]) (by rw [hra]) ?_
          refine z_aload_n S d_M_value_52 0 rfl ?_
          refine z_iconst S d_M_value_53 ?_
          refine z_lload_n S d_M_value_54 2 rfl ?_
          refine z_lconst (z := 0) S d_M_value_55 rfl ?_
          refine z_lcmp_ge (tgt := 65) S d_M_value_56 d_M_value_57 (by decide) (by omega) (by omega) (fun c5 => ?_) (fun c5 => ?_)
          · skip
            refine z_lload_n S d_M_value_65 2 rfl ?_
            refine z_tol (a := ((Int.natAbs y0 : Nat) : Int)) (zL_c (by omega)) ?_
            refine z_callVv (As := [.int (zI 1), .long (zL ((Int.natAbs y0 : Nat) : Int))]) (st := []) (wc := [oM mo 0 mw (nv : Int) mg ma mb (ns : Int) mlo mhi (nw : Int) mwe mru mrd, aL cL mw 160 (wkA ra)]) (wr := [aI cI mg 100 (sgA sg), aL cL ma 800 (moA up), aL cL mb 800 (moA dn)]) S hGok hK hg hA (s_M_set l dC dI cI cL qT mo mw nv ma mb ns mlo mhi nw mwe mru mrd 0 mg ra 1 (Int.natAbs y0) (by omega) (by omega)) (zcwV S (List.mem_cons_of_mem _ k_M_91) mV_M_set k_M_91 hd_M_set rfl rfl ⟨Nat.le_of_ble_eq_true rfl, Nat.le_of_ble_eq_true rfl⟩) rfl (Nat.le_of_ble_eq_true rfl) d_M_value_66 ⟨Nat.le_of_ble_eq_true rfl, Nat.le_of_ble_eq_true rfl⟩ rfl [3, 4] [0, 1, 2] 3 rfl rfl rfl (by decide) rfl rfl rfl (by decide) (by decide) (fun w hp => ?_)
            subst hp
            show ZZ _ _ _ _ _ _ _ _ _ _ _ _ _ _ _ _ _ _ 69 [(0, .ref mo), (1, .long (zL x0)), (3, .long (zL y0))] [] [aI cI mg 100 (sgA sg), aL cL ma 800 (moA up), aL cL mb 800 (moA dn), oM mo 0 mw (nv : Int) mg ma mb (ns : Int) mlo mhi (nw : Int) mwe mru mrd, aL cL mw 160 (wkA (un ra 1 (Int.natAbs y0)))]
            obtain ⟨rb, hrb, sk0, sk1⟩ : ∃ rb : Nat → Nat, rb = (un ra 1 (Int.natAbs y0)) ∧ rb 0 = Int.natAbs x0 ∧ rb 1 = Int.natAbs y0 := ⟨(un ra 1 (Int.natAbs y0)), rfl, a0, rfl⟩
            refine z_wq (ws' := [aI cI mg 100 (sgA sg), aL cL ma 800 (moA up), aL cL mb 800 (moA dn), oM mo 0 mw (nv : Int) mg ma mb (ns : Int) mlo mhi (nw : Int) mwe mru mrd, aL cL mw 160 (wkA rb)]) (by rw [hrb]) ?_
            refine z_aload_n S d_M_value_69 0 rfl ?_
            refine z_lload_n S d_M_value_70 1 rfl ?_
            refine z_lconst (z := 0) S d_M_value_71 rfl ?_
            refine z_lcmp_ge (tgt := 80) S d_M_value_72 d_M_value_73 (by decide) (by omega) (by omega) (fun c6 => ?_) (fun c6 => ?_)
            · skip
              refine z_iconst S d_M_value_80 ?_
              refine z_lload_n S d_M_value_81 2 rfl ?_
              refine z_lconst (z := 0) S d_M_value_82 rfl ?_
              refine z_lcmp_ge (tgt := 91) S d_M_value_83 d_M_value_84 (by decide) (by omega) (by omega) (fun c7 => ?_) (fun c7 => ?_)
              · skip
                refine z_iconst S d_M_value_91 ?_
                refine z_imul S d_M_value_92 ?_
                refine z_toi (a := 1) rfl ?_
                refine z_callVa (As := [.int (zI 1)]) (st := []) (wc := [oM mo 0 mw (nv : Int) mg ma mb (ns : Int) mlo mhi (nw : Int) mwe mru mrd, aL cL mw 160 (wkA rb), aI cI mg 100 (sgA sg), aL cL ma 800 (moA up), aL cL mb 800 (moA dn)]) (wr := []) S hGok hK hg hA (s_M_keep l dC dI cI cL qT mo mw nv ma mb ns mlo mhi nw mwe mru mrd 0 mg rb sg up dn 1 (by omega) (by rw [sk0]; omega) (by rw [sk1]; omega) (by rw [sk1]; exact hDp) (by omega)) (zcwV S (List.mem_cons_of_mem _ k_M_122) mV_M_keep k_M_122 hd_M_keep rfl rfl ⟨Nat.le_of_ble_eq_true rfl, Nat.le_of_ble_eq_true rfl⟩) rfl (Nat.le_of_ble_eq_true rfl) d_M_value_93 ⟨Nat.le_of_ble_eq_true rfl, Nat.le_of_ble_eq_true rfl⟩ rfl [3, 4, 0, 1, 2] [] 3 rfl rfl rfl (by decide) rfl rfl rfl (by decide) (by decide) (fun x w hp => ?_)
                obtain ⟨rk, rfl, rfl⟩ := hp
                show ZZ _ _ _ _ _ _ _ _ _ _ _ _ _ _ _ _ _ _ 96 [(0, .ref mo), (1, .long (zL x0)), (3, .long (zL y0))] [.int (zI (kpR nv (lwX (rb 0) (rb 1)) (lwZ (rb 0) (rb 1))))] [oM mo 0 mw ((kpC nv (lwX (rb 0) (rb 1)) (lwZ (rb 0) (rb 1)) : Nat) : Int) mg ma mb (ns : Int) mlo mhi (nw : Int) mwe mru mrd, aL cL mw 160 (wkA rk), aI cI mg 100 (sgA (kpS sg nv (zs (lwX (rb 0) (rb 1)) 1) (lwX (rb 0) (rb 1)) (lwZ (rb 0) (rb 1)))), aL cL ma 800 (moA (kpU up nv (lwX (rb 0) (rb 1)) (lwX (rb 0) (rb 1)) (lwZ (rb 0) (rb 1)))), aL cL mb 800 (moA (kpU dn nv (lwZ (rb 0) (rb 1)) (lwX (rb 0) (rb 1)) (lwZ (rb 0) (rb 1))))]
                have hS : zs (lwX (Int.natAbs x0) (Int.natAbs y0)) 1 = cmpZ x0 0 * cmpZ y0 0 := by
                  rw [zs_lw hDp]
                  unfold zs cmpZ
                  split <;> split <;> (try split) <;> (try split) <;> (try split) <;> (try split) <;> omega
                exact z_iret (w := [oM mo 0 mw ((kpC nv (lwX (rb 0) (rb 1)) (lwZ (rb 0) (rb 1)) : Nat) : Int) mg ma mb (ns : Int) mlo mhi (nw : Int) mwe mru mrd, aL cL mw 160 (wkA rk), aI cI mg 100 (sgA (kpS sg nv (zs (lwX (rb 0) (rb 1)) 1) (lwX (rb 0) (rb 1)) (lwZ (rb 0) (rb 1)))), aL cL ma 800 (moA (kpU up nv (lwX (rb 0) (rb 1)) (lwX (rb 0) (rb 1)) (lwZ (rb 0) (rb 1)))), aL cL mb 800 (moA (kpU dn nv (lwZ (rb 0) (rb 1)) (lwX (rb 0) (rb 1)) (lwZ (rb 0) (rb 1))))]) S hr hlo hAe d_M_value_96 [0, 1, 2, 3, 4] (by decide) rfl rfl ⟨Nat.le_refl _, Nat.le_refl _⟩ (⟨rk, by rw [sk0, sk1], by rw [sk0, sk1, hS]⟩)
              · skip
                refine z_iconst S d_M_value_87 ?_
                refine z_goto (tgt := 92) S d_M_value_88 (by decide) ?_
                refine z_imul S d_M_value_92 ?_
                refine z_toi (a := (-1)) rfl ?_
                refine z_callVa (As := [.int (zI (-1))]) (st := []) (wc := [oM mo 0 mw (nv : Int) mg ma mb (ns : Int) mlo mhi (nw : Int) mwe mru mrd, aL cL mw 160 (wkA rb), aI cI mg 100 (sgA sg), aL cL ma 800 (moA up), aL cL mb 800 (moA dn)]) (wr := []) S hGok hK hg hA (s_M_keep l dC dI cI cL qT mo mw nv ma mb ns mlo mhi nw mwe mru mrd 0 mg rb sg up dn (-1) (by omega) (by rw [sk0]; omega) (by rw [sk1]; omega) (by rw [sk1]; exact hDp) (by omega)) (zcwV S (List.mem_cons_of_mem _ k_M_122) mV_M_keep k_M_122 hd_M_keep rfl rfl ⟨Nat.le_of_ble_eq_true rfl, Nat.le_of_ble_eq_true rfl⟩) rfl (Nat.le_of_ble_eq_true rfl) d_M_value_93 ⟨Nat.le_of_ble_eq_true rfl, Nat.le_of_ble_eq_true rfl⟩ rfl [3, 4, 0, 1, 2] [] 3 rfl rfl rfl (by decide) rfl rfl rfl (by decide) (by decide) (fun x w hp => ?_)
                obtain ⟨rk, rfl, rfl⟩ := hp
                show ZZ _ _ _ _ _ _ _ _ _ _ _ _ _ _ _ _ _ _ 96 [(0, .ref mo), (1, .long (zL x0)), (3, .long (zL y0))] [.int (zI (kpR nv (lwX (rb 0) (rb 1)) (lwZ (rb 0) (rb 1))))] [oM mo 0 mw ((kpC nv (lwX (rb 0) (rb 1)) (lwZ (rb 0) (rb 1)) : Nat) : Int) mg ma mb (ns : Int) mlo mhi (nw : Int) mwe mru mrd, aL cL mw 160 (wkA rk), aI cI mg 100 (sgA (kpS sg nv (zs (lwX (rb 0) (rb 1)) (-1)) (lwX (rb 0) (rb 1)) (lwZ (rb 0) (rb 1)))), aL cL ma 800 (moA (kpU up nv (lwX (rb 0) (rb 1)) (lwX (rb 0) (rb 1)) (lwZ (rb 0) (rb 1)))), aL cL mb 800 (moA (kpU dn nv (lwZ (rb 0) (rb 1)) (lwX (rb 0) (rb 1)) (lwZ (rb 0) (rb 1))))]
                have hS : zs (lwX (Int.natAbs x0) (Int.natAbs y0)) (-1) = cmpZ x0 0 * cmpZ y0 0 := by
                  rw [zs_lw hDp]
                  unfold zs cmpZ
                  split <;> split <;> (try split) <;> (try split) <;> (try split) <;> (try split) <;> omega
                exact z_iret (w := [oM mo 0 mw ((kpC nv (lwX (rb 0) (rb 1)) (lwZ (rb 0) (rb 1)) : Nat) : Int) mg ma mb (ns : Int) mlo mhi (nw : Int) mwe mru mrd, aL cL mw 160 (wkA rk), aI cI mg 100 (sgA (kpS sg nv (zs (lwX (rb 0) (rb 1)) (-1)) (lwX (rb 0) (rb 1)) (lwZ (rb 0) (rb 1)))), aL cL ma 800 (moA (kpU up nv (lwX (rb 0) (rb 1)) (lwX (rb 0) (rb 1)) (lwZ (rb 0) (rb 1)))), aL cL mb 800 (moA (kpU dn nv (lwZ (rb 0) (rb 1)) (lwX (rb 0) (rb 1)) (lwZ (rb 0) (rb 1))))]) S hr hlo hAe d_M_value_96 [0, 1, 2, 3, 4] (by decide) rfl rfl ⟨Nat.le_refl _, Nat.le_refl _⟩ (⟨rk, by rw [sk0, sk1], by rw [sk0, sk1, hS]⟩)
            · skip
              refine z_iconst S d_M_value_76 ?_
              refine z_goto (tgt := 81) S d_M_value_77 (by decide) ?_
              refine z_lload_n S d_M_value_81 2 rfl ?_
              refine z_lconst (z := 0) S d_M_value_82 rfl ?_
              refine z_lcmp_ge (tgt := 91) S d_M_value_83 d_M_value_84 (by decide) (by omega) (by omega) (fun c8 => ?_) (fun c8 => ?_)
              · skip
                refine z_iconst S d_M_value_91 ?_
                refine z_imul S d_M_value_92 ?_
                refine z_toi (a := (-1)) rfl ?_
                refine z_callVa (As := [.int (zI (-1))]) (st := []) (wc := [oM mo 0 mw (nv : Int) mg ma mb (ns : Int) mlo mhi (nw : Int) mwe mru mrd, aL cL mw 160 (wkA rb), aI cI mg 100 (sgA sg), aL cL ma 800 (moA up), aL cL mb 800 (moA dn)]) (wr := []) S hGok hK hg hA (s_M_keep l dC dI cI cL qT mo mw nv ma mb ns mlo mhi nw mwe mru mrd 0 mg rb sg up dn (-1) (by omega) (by rw [sk0]; omega) (by rw [sk1]; omega) (by rw [sk1]; exact hDp) (by omega)) (zcwV S (List.mem_cons_of_mem _ k_M_122) mV_M_keep k_M_122 hd_M_keep rfl rfl ⟨Nat.le_of_ble_eq_true rfl, Nat.le_of_ble_eq_true rfl⟩) rfl (Nat.le_of_ble_eq_true rfl) d_M_value_93 ⟨Nat.le_of_ble_eq_true rfl, Nat.le_of_ble_eq_true rfl⟩ rfl [3, 4, 0, 1, 2] [] 3 rfl rfl rfl (by decide) rfl rfl rfl (by decide) (by decide) (fun x w hp => ?_)
                obtain ⟨rk, rfl, rfl⟩ := hp
                show ZZ _ _ _ _ _ _ _ _ _ _ _ _ _ _ _ _ _ _ 96 [(0, .ref mo), (1, .long (zL x0)), (3, .long (zL y0))] [.int (zI (kpR nv (lwX (rb 0) (rb 1)) (lwZ (rb 0) (rb 1))))] [oM mo 0 mw ((kpC nv (lwX (rb 0) (rb 1)) (lwZ (rb 0) (rb 1)) : Nat) : Int) mg ma mb (ns : Int) mlo mhi (nw : Int) mwe mru mrd, aL cL mw 160 (wkA rk), aI cI mg 100 (sgA (kpS sg nv (zs (lwX (rb 0) (rb 1)) (-1)) (lwX (rb 0) (rb 1)) (lwZ (rb 0) (rb 1)))), aL cL ma 800 (moA (kpU up nv (lwX (rb 0) (rb 1)) (lwX (rb 0) (rb 1)) (lwZ (rb 0) (rb 1)))), aL cL mb 800 (moA (kpU dn nv (lwZ (rb 0) (rb 1)) (lwX (rb 0) (rb 1)) (lwZ (rb 0) (rb 1))))]
                have hS : zs (lwX (Int.natAbs x0) (Int.natAbs y0)) (-1) = cmpZ x0 0 * cmpZ y0 0 := by
                  rw [zs_lw hDp]
                  unfold zs cmpZ
                  split <;> split <;> (try split) <;> (try split) <;> (try split) <;> (try split) <;> omega
                exact z_iret (w := [oM mo 0 mw ((kpC nv (lwX (rb 0) (rb 1)) (lwZ (rb 0) (rb 1)) : Nat) : Int) mg ma mb (ns : Int) mlo mhi (nw : Int) mwe mru mrd, aL cL mw 160 (wkA rk), aI cI mg 100 (sgA (kpS sg nv (zs (lwX (rb 0) (rb 1)) (-1)) (lwX (rb 0) (rb 1)) (lwZ (rb 0) (rb 1)))), aL cL ma 800 (moA (kpU up nv (lwX (rb 0) (rb 1)) (lwX (rb 0) (rb 1)) (lwZ (rb 0) (rb 1)))), aL cL mb 800 (moA (kpU dn nv (lwZ (rb 0) (rb 1)) (lwX (rb 0) (rb 1)) (lwZ (rb 0) (rb 1))))]) S hr hlo hAe d_M_value_96 [0, 1, 2, 3, 4] (by decide) rfl rfl ⟨Nat.le_refl _, Nat.le_refl _⟩ (⟨rk, by rw [sk0, sk1], by rw [sk0, sk1, hS]⟩)
              · skip
                refine z_iconst S d_M_value_87 ?_
                refine z_goto (tgt := 92) S d_M_value_88 (by decide) ?_
                refine z_imul S d_M_value_92 ?_
                refine z_toi (a := 1) rfl ?_
                refine z_callVa (As := [.int (zI 1)]) (st := []) (wc := [oM mo 0 mw (nv : Int) mg ma mb (ns : Int) mlo mhi (nw : Int) mwe mru mrd, aL cL mw 160 (wkA rb), aI cI mg 100 (sgA sg), aL cL ma 800 (moA up), aL cL mb 800 (moA dn)]) (wr := []) S hGok hK hg hA (s_M_keep l dC dI cI cL qT mo mw nv ma mb ns mlo mhi nw mwe mru mrd 0 mg rb sg up dn 1 (by omega) (by rw [sk0]; omega) (by rw [sk1]; omega) (by rw [sk1]; exact hDp) (by omega)) (zcwV S (List.mem_cons_of_mem _ k_M_122) mV_M_keep k_M_122 hd_M_keep rfl rfl ⟨Nat.le_of_ble_eq_true rfl, Nat.le_of_ble_eq_true rfl⟩) rfl (Nat.le_of_ble_eq_true rfl) d_M_value_93 ⟨Nat.le_of_ble_eq_true rfl, Nat.le_of_ble_eq_true rfl⟩ rfl [3, 4, 0, 1, 2] [] 3 rfl rfl rfl (by decide) rfl rfl rfl (by decide) (by decide) (fun x w hp => ?_)
                obtain ⟨rk, rfl, rfl⟩ := hp
                show ZZ _ _ _ _ _ _ _ _ _ _ _ _ _ _ _ _ _ _ 96 [(0, .ref mo), (1, .long (zL x0)), (3, .long (zL y0))] [.int (zI (kpR nv (lwX (rb 0) (rb 1)) (lwZ (rb 0) (rb 1))))] [oM mo 0 mw ((kpC nv (lwX (rb 0) (rb 1)) (lwZ (rb 0) (rb 1)) : Nat) : Int) mg ma mb (ns : Int) mlo mhi (nw : Int) mwe mru mrd, aL cL mw 160 (wkA rk), aI cI mg 100 (sgA (kpS sg nv (zs (lwX (rb 0) (rb 1)) 1) (lwX (rb 0) (rb 1)) (lwZ (rb 0) (rb 1)))), aL cL ma 800 (moA (kpU up nv (lwX (rb 0) (rb 1)) (lwX (rb 0) (rb 1)) (lwZ (rb 0) (rb 1)))), aL cL mb 800 (moA (kpU dn nv (lwZ (rb 0) (rb 1)) (lwX (rb 0) (rb 1)) (lwZ (rb 0) (rb 1))))]
                have hS : zs (lwX (Int.natAbs x0) (Int.natAbs y0)) 1 = cmpZ x0 0 * cmpZ y0 0 := by
                  rw [zs_lw hDp]
                  unfold zs cmpZ
                  split <;> split <;> (try split) <;> (try split) <;> (try split) <;> (try split) <;> omega
                exact z_iret (w := [oM mo 0 mw ((kpC nv (lwX (rb 0) (rb 1)) (lwZ (rb 0) (rb 1)) : Nat) : Int) mg ma mb (ns : Int) mlo mhi (nw : Int) mwe mru mrd, aL cL mw 160 (wkA rk), aI cI mg 100 (sgA (kpS sg nv (zs (lwX (rb 0) (rb 1)) 1) (lwX (rb 0) (rb 1)) (lwZ (rb 0) (rb 1)))), aL cL ma 800 (moA (kpU up nv (lwX (rb 0) (rb 1)) (lwX (rb 0) (rb 1)) (lwZ (rb 0) (rb 1)))), aL cL mb 800 (moA (kpU dn nv (lwZ (rb 0) (rb 1)) (lwX (rb 0) (rb 1)) (lwZ (rb 0) (rb 1))))]) S hr hlo hAe d_M_value_96 [0, 1, 2, 3, 4] (by decide) rfl rfl ⟨Nat.le_refl _, Nat.le_refl _⟩ (⟨rk, by rw [sk0, sk1], by rw [sk0, sk1, hS]⟩)
          · skip
            refine z_lload_n S d_M_value_60 2 rfl ?_
            refine z_lneg S d_M_value_61 ?_
            refine z_goto (tgt := 66) S d_M_value_62 (by decide) ?_
            by_cases hm66 : y0 = -9223372036854775808
            · skip
              refine z_tol (a := (-9223372036854775808)) (by rw [hm66]; rfl) ?_
              refine z_callVv (As := [.int (zI 1), .long (zL (-9223372036854775808))]) (st := []) (wc := [oM mo 0 mw (nv : Int) mg ma mb (ns : Int) mlo mhi (nw : Int) mwe mru mrd, aL cL mw 160 (wkA ra)]) (wr := [aI cI mg 100 (sgA sg), aL cL ma 800 (moA up), aL cL mb 800 (moA dn)]) S hGok hK hg hA (s_M_setMin l dC dI cI cL qT mo mw nv ma mb ns mlo mhi nw mwe mru mrd 0 mg ra 1 (by omega)) (zcwV S (List.mem_cons_of_mem _ k_M_91) mV_M_set k_M_91 hd_M_set rfl rfl ⟨Nat.le_of_ble_eq_true rfl, Nat.le_of_ble_eq_true rfl⟩) rfl (Nat.le_of_ble_eq_true rfl) d_M_value_66 ⟨Nat.le_of_ble_eq_true rfl, Nat.le_of_ble_eq_true rfl⟩ rfl [3, 4] [0, 1, 2] 3 rfl rfl rfl (by decide) rfl rfl rfl (by decide) (by decide) (fun w hp => ?_)
              subst hp
              show ZZ _ _ _ _ _ _ _ _ _ _ _ _ _ _ _ _ _ _ 69 [(0, .ref mo), (1, .long (zL x0)), (3, .long (zL y0))] [] [aI cI mg 100 (sgA sg), aL cL ma 800 (moA up), aL cL mb 800 (moA dn), oM mo 0 mw (nv : Int) mg ma mb (ns : Int) mlo mhi (nw : Int) mwe mru mrd, aL cL mw 160 (wkA (un ra 1 9223372036854775808))]
              obtain ⟨rb, hrb, sk0, sk1⟩ : ∃ rb : Nat → Nat, rb = (un ra 1 9223372036854775808) ∧ rb 0 = Int.natAbs x0 ∧ rb 1 = Int.natAbs y0 := ⟨(un ra 1 9223372036854775808), rfl, a0, (show 9223372036854775808 = Int.natAbs y0 by omega)⟩
              refine z_wq (ws' := [aI cI mg 100 (sgA sg), aL cL ma 800 (moA up), aL cL mb 800 (moA dn), oM mo 0 mw (nv : Int) mg ma mb (ns : Int) mlo mhi (nw : Int) mwe mru mrd, aL cL mw 160 (wkA rb)]) (by rw [hrb]) ?_
              refine z_aload_n S d_M_value_69 0 rfl ?_
              refine z_lload_n S d_M_value_70 1 rfl ?_
              refine z_lconst (z := 0) S d_M_value_71 rfl ?_
              refine z_lcmp_ge (tgt := 80) S d_M_value_72 d_M_value_73 (by decide) (by omega) (by omega) (fun c9 => ?_) (fun c9 => ?_)
              · skip
                refine z_iconst S d_M_value_80 ?_
                refine z_lload_n S d_M_value_81 2 rfl ?_
                refine z_lconst (z := 0) S d_M_value_82 rfl ?_
                refine z_lcmp_ge (tgt := 91) S d_M_value_83 d_M_value_84 (by decide) (by omega) (by omega) (fun c10 => ?_) (fun c10 => ?_)
                · skip
                  refine z_iconst S d_M_value_91 ?_
                  refine z_imul S d_M_value_92 ?_
                  refine z_toi (a := 1) rfl ?_
                  refine z_callVa (As := [.int (zI 1)]) (st := []) (wc := [oM mo 0 mw (nv : Int) mg ma mb (ns : Int) mlo mhi (nw : Int) mwe mru mrd, aL cL mw 160 (wkA rb), aI cI mg 100 (sgA sg), aL cL ma 800 (moA up), aL cL mb 800 (moA dn)]) (wr := []) S hGok hK hg hA (s_M_keep l dC dI cI cL qT mo mw nv ma mb ns mlo mhi nw mwe mru mrd 0 mg rb sg up dn 1 (by omega) (by rw [sk0]; omega) (by rw [sk1]; omega) (by rw [sk1]; exact hDp) (by omega)) (zcwV S (List.mem_cons_of_mem _ k_M_122) mV_M_keep k_M_122 hd_M_keep rfl rfl ⟨Nat.le_of_ble_eq_true rfl, Nat.le_of_ble_eq_true rfl⟩) rfl (Nat.le_of_ble_eq_true rfl) d_M_value_93 ⟨Nat.le_of_ble_eq_true rfl, Nat.le_of_ble_eq_true rfl⟩ rfl [3, 4, 0, 1, 2] [] 3 rfl rfl rfl (by decide) rfl rfl rfl (by decide) (by decide) (fun x w hp => ?_)
                  obtain ⟨rk, rfl, rfl⟩ := hp
                  show ZZ _ _ _ _ _ _ _ _ _ _ _ _ _ _ _ _ _ _ 96 [(0, .ref mo), (1, .long (zL x0)), (3, .long (zL y0))] [.int (zI (kpR nv (lwX (rb 0) (rb 1)) (lwZ (rb 0) (rb 1))))] [oM mo 0 mw ((kpC nv (lwX (rb 0) (rb 1)) (lwZ (rb 0) (rb 1)) : Nat) : Int) mg ma mb (ns : Int) mlo mhi (nw : Int) mwe mru mrd, aL cL mw 160 (wkA rk), aI cI mg 100 (sgA (kpS sg nv (zs (lwX (rb 0) (rb 1)) 1) (lwX (rb 0) (rb 1)) (lwZ (rb 0) (rb 1)))), aL cL ma 800 (moA (kpU up nv (lwX (rb 0) (rb 1)) (lwX (rb 0) (rb 1)) (lwZ (rb 0) (rb 1)))), aL cL mb 800 (moA (kpU dn nv (lwZ (rb 0) (rb 1)) (lwX (rb 0) (rb 1)) (lwZ (rb 0) (rb 1))))]
                  have hS : zs (lwX (Int.natAbs x0) (Int.natAbs y0)) 1 = cmpZ x0 0 * cmpZ y0 0 := by
                    rw [zs_lw hDp]
                    unfold zs cmpZ
                    split <;> split <;> (try split) <;> (try split) <;> (try split) <;> (try split) <;> omega
                  exact z_iret (w := [oM mo 0 mw ((kpC nv (lwX (rb 0) (rb 1)) (lwZ (rb 0) (rb 1)) : Nat) : Int) mg ma mb (ns : Int) mlo mhi (nw : Int) mwe mru mrd, aL cL mw 160 (wkA rk), aI cI mg 100 (sgA (kpS sg nv (zs (lwX (rb 0) (rb 1)) 1) (lwX (rb 0) (rb 1)) (lwZ (rb 0) (rb 1)))), aL cL ma 800 (moA (kpU up nv (lwX (rb 0) (rb 1)) (lwX (rb 0) (rb 1)) (lwZ (rb 0) (rb 1)))), aL cL mb 800 (moA (kpU dn nv (lwZ (rb 0) (rb 1)) (lwX (rb 0) (rb 1)) (lwZ (rb 0) (rb 1))))]) S hr hlo hAe d_M_value_96 [0, 1, 2, 3, 4] (by decide) rfl rfl ⟨Nat.le_refl _, Nat.le_refl _⟩ (⟨rk, by rw [sk0, sk1], by rw [sk0, sk1, hS]⟩)
                · skip
                  refine z_iconst S d_M_value_87 ?_
                  refine z_goto (tgt := 92) S d_M_value_88 (by decide) ?_
                  refine z_imul S d_M_value_92 ?_
                  refine z_toi (a := (-1)) rfl ?_
                  refine z_callVa (As := [.int (zI (-1))]) (st := []) (wc := [oM mo 0 mw (nv : Int) mg ma mb (ns : Int) mlo mhi (nw : Int) mwe mru mrd, aL cL mw 160 (wkA rb), aI cI mg 100 (sgA sg), aL cL ma 800 (moA up), aL cL mb 800 (moA dn)]) (wr := []) S hGok hK hg hA (s_M_keep l dC dI cI cL qT mo mw nv ma mb ns mlo mhi nw mwe mru mrd 0 mg rb sg up dn (-1) (by omega) (by rw [sk0]; omega) (by rw [sk1]; omega) (by rw [sk1]; exact hDp) (by omega)) (zcwV S (List.mem_cons_of_mem _ k_M_122) mV_M_keep k_M_122 hd_M_keep rfl rfl ⟨Nat.le_of_ble_eq_true rfl, Nat.le_of_ble_eq_true rfl⟩) rfl (Nat.le_of_ble_eq_true rfl) d_M_value_93 ⟨Nat.le_of_ble_eq_true rfl, Nat.le_of_ble_eq_true rfl⟩ rfl [3, 4, 0, 1, 2] [] 3 rfl rfl rfl (by decide) rfl rfl rfl (by decide) (by decide) (fun x w hp => ?_)
                  obtain ⟨rk, rfl, rfl⟩ := hp
                  show ZZ _ _ _ _ _ _ _ _ _ _ _ _ _ _ _ _ _ _ 96 [(0, .ref mo), (1, .long (zL x0)), (3, .long (zL y0))] [.int (zI (kpR nv (lwX (rb 0) (rb 1)) (lwZ (rb 0) (rb 1))))] [oM mo 0 mw ((kpC nv (lwX (rb 0) (rb 1)) (lwZ (rb 0) (rb 1)) : Nat) : Int) mg ma mb (ns : Int) mlo mhi (nw : Int) mwe mru mrd, aL cL mw 160 (wkA rk), aI cI mg 100 (sgA (kpS sg nv (zs (lwX (rb 0) (rb 1)) (-1)) (lwX (rb 0) (rb 1)) (lwZ (rb 0) (rb 1)))), aL cL ma 800 (moA (kpU up nv (lwX (rb 0) (rb 1)) (lwX (rb 0) (rb 1)) (lwZ (rb 0) (rb 1)))), aL cL mb 800 (moA (kpU dn nv (lwZ (rb 0) (rb 1)) (lwX (rb 0) (rb 1)) (lwZ (rb 0) (rb 1))))]
                  have hS : zs (lwX (Int.natAbs x0) (Int.natAbs y0)) (-1) = cmpZ x0 0 * cmpZ y0 0 := by
                    rw [zs_lw hDp]
                    unfold zs cmpZ
                    split <;> split <;> (try split) <;> (try split) <;> (try split) <;> (try split) <;> omega
                  exact z_iret (w := [oM mo 0 mw ((kpC nv (lwX (rb 0) (rb 1)) (lwZ (rb 0) (rb 1)) : Nat) : Int) mg ma mb (ns : Int) mlo mhi (nw : Int) mwe mru mrd, aL cL mw 160 (wkA rk), aI cI mg 100 (sgA (kpS sg nv (zs (lwX (rb 0) (rb 1)) (-1)) (lwX (rb 0) (rb 1)) (lwZ (rb 0) (rb 1)))), aL cL ma 800 (moA (kpU up nv (lwX (rb 0) (rb 1)) (lwX (rb 0) (rb 1)) (lwZ (rb 0) (rb 1)))), aL cL mb 800 (moA (kpU dn nv (lwZ (rb 0) (rb 1)) (lwX (rb 0) (rb 1)) (lwZ (rb 0) (rb 1))))]) S hr hlo hAe d_M_value_96 [0, 1, 2, 3, 4] (by decide) rfl rfl ⟨Nat.le_refl _, Nat.le_refl _⟩ (⟨rk, by rw [sk0, sk1], by rw [sk0, sk1, hS]⟩)
              · skip
                refine z_iconst S d_M_value_76 ?_
                refine z_goto (tgt := 81) S d_M_value_77 (by decide) ?_
                refine z_lload_n S d_M_value_81 2 rfl ?_
                refine z_lconst (z := 0) S d_M_value_82 rfl ?_
                refine z_lcmp_ge (tgt := 91) S d_M_value_83 d_M_value_84 (by decide) (by omega) (by omega) (fun c11 => ?_) (fun c11 => ?_)
                · skip
                  refine z_iconst S d_M_value_91 ?_
                  refine z_imul S d_M_value_92 ?_
                  refine z_toi (a := (-1)) rfl ?_
                  refine z_callVa (As := [.int (zI (-1))]) (st := []) (wc := [oM mo 0 mw (nv : Int) mg ma mb (ns : Int) mlo mhi (nw : Int) mwe mru mrd, aL cL mw 160 (wkA rb), aI cI mg 100 (sgA sg), aL cL ma 800 (moA up), aL cL mb 800 (moA dn)]) (wr := []) S hGok hK hg hA (s_M_keep l dC dI cI cL qT mo mw nv ma mb ns mlo mhi nw mwe mru mrd 0 mg rb sg up dn (-1) (by omega) (by rw [sk0]; omega) (by rw [sk1]; omega) (by rw [sk1]; exact hDp) (by omega)) (zcwV S (List.mem_cons_of_mem _ k_M_122) mV_M_keep k_M_122 hd_M_keep rfl rfl ⟨Nat.le_of_ble_eq_true rfl, Nat.le_of_ble_eq_true rfl⟩) rfl (Nat.le_of_ble_eq_true rfl) d_M_value_93 ⟨Nat.le_of_ble_eq_true rfl, Nat.le_of_ble_eq_true rfl⟩ rfl [3, 4, 0, 1, 2] [] 3 rfl rfl rfl (by decide) rfl rfl rfl (by decide) (by decide) (fun x w hp => ?_)
                  obtain ⟨rk, rfl, rfl⟩ := hp
                  show ZZ _ _ _ _ _ _ _ _ _ _ _ _ _ _ _ _ _ _ 96 [(0, .ref mo), (1, .long (zL x0)), (3, .long (zL y0))] [.int (zI (kpR nv (lwX (rb 0) (rb 1)) (lwZ (rb 0) (rb 1))))] [oM mo 0 mw ((kpC nv (lwX (rb 0) (rb 1)) (lwZ (rb 0) (rb 1)) : Nat) : Int) mg ma mb (ns : Int) mlo mhi (nw : Int) mwe mru mrd, aL cL mw 160 (wkA rk), aI cI mg 100 (sgA (kpS sg nv (zs (lwX (rb 0) (rb 1)) (-1)) (lwX (rb 0) (rb 1)) (lwZ (rb 0) (rb 1)))), aL cL ma 800 (moA (kpU up nv (lwX (rb 0) (rb 1)) (lwX (rb 0) (rb 1)) (lwZ (rb 0) (rb 1)))), aL cL mb 800 (moA (kpU dn nv (lwZ (rb 0) (rb 1)) (lwX (rb 0) (rb 1)) (lwZ (rb 0) (rb 1))))]
                  have hS : zs (lwX (Int.natAbs x0) (Int.natAbs y0)) (-1) = cmpZ x0 0 * cmpZ y0 0 := by
                    rw [zs_lw hDp]
                    unfold zs cmpZ
                    split <;> split <;> (try split) <;> (try split) <;> (try split) <;> (try split) <;> omega
                  exact z_iret (w := [oM mo 0 mw ((kpC nv (lwX (rb 0) (rb 1)) (lwZ (rb 0) (rb 1)) : Nat) : Int) mg ma mb (ns : Int) mlo mhi (nw : Int) mwe mru mrd, aL cL mw 160 (wkA rk), aI cI mg 100 (sgA (kpS sg nv (zs (lwX (rb 0) (rb 1)) (-1)) (lwX (rb 0) (rb 1)) (lwZ (rb 0) (rb 1)))), aL cL ma 800 (moA (kpU up nv (lwX (rb 0) (rb 1)) (lwX (rb 0) (rb 1)) (lwZ (rb 0) (rb 1)))), aL cL mb 800 (moA (kpU dn nv (lwZ (rb 0) (rb 1)) (lwX (rb 0) (rb 1)) (lwZ (rb 0) (rb 1))))]) S hr hlo hAe d_M_value_96 [0, 1, 2, 3, 4] (by decide) rfl rfl ⟨Nat.le_refl _, Nat.le_refl _⟩ (⟨rk, by rw [sk0, sk1], by rw [sk0, sk1, hS]⟩)
                · skip
                  refine z_iconst S d_M_value_87 ?_
                  refine z_goto (tgt := 92) S d_M_value_88 (by decide) ?_
                  refine z_imul S d_M_value_92 ?_
                  refine z_toi (a := 1) rfl ?_
                  refine z_callVa (As := [.int (zI 1)]) (st := []) (wc := [oM mo 0 mw (nv : Int) mg ma mb (ns : Int) mlo mhi (nw : Int) mwe mru mrd, aL cL mw 160 (wkA rb), aI cI mg 100 (sgA sg), aL cL ma 800 (moA up), aL cL mb 800 (moA dn)]) (wr := []) S hGok hK hg hA (s_M_keep l dC dI cI cL qT mo mw nv ma mb ns mlo mhi nw mwe mru mrd 0 mg rb sg up dn 1 (by omega) (by rw [sk0]; omega) (by rw [sk1]; omega) (by rw [sk1]; exact hDp) (by omega)) (zcwV S (List.mem_cons_of_mem _ k_M_122) mV_M_keep k_M_122 hd_M_keep rfl rfl ⟨Nat.le_of_ble_eq_true rfl, Nat.le_of_ble_eq_true rfl⟩) rfl (Nat.le_of_ble_eq_true rfl) d_M_value_93 ⟨Nat.le_of_ble_eq_true rfl, Nat.le_of_ble_eq_true rfl⟩ rfl [3, 4, 0, 1, 2] [] 3 rfl rfl rfl (by decide) rfl rfl rfl (by decide) (by decide) (fun x w hp => ?_)
                  obtain ⟨rk, rfl, rfl⟩ := hp
                  show ZZ _ _ _ _ _ _ _ _ _ _ _ _ _ _ _ _ _ _ 96 [(0, .ref mo), (1, .long (zL x0)), (3, .long (zL y0))] [.int (zI (kpR nv (lwX (rb 0) (rb 1)) (lwZ (rb 0) (rb 1))))] [oM mo 0 mw ((kpC nv (lwX (rb 0) (rb 1)) (lwZ (rb 0) (rb 1)) : Nat) : Int) mg ma mb (ns : Int) mlo mhi (nw : Int) mwe mru mrd, aL cL mw 160 (wkA rk), aI cI mg 100 (sgA (kpS sg nv (zs (lwX (rb 0) (rb 1)) 1) (lwX (rb 0) (rb 1)) (lwZ (rb 0) (rb 1)))), aL cL ma 800 (moA (kpU up nv (lwX (rb 0) (rb 1)) (lwX (rb 0) (rb 1)) (lwZ (rb 0) (rb 1)))), aL cL mb 800 (moA (kpU dn nv (lwZ (rb 0) (rb 1)) (lwX (rb 0) (rb 1)) (lwZ (rb 0) (rb 1))))]
                  have hS : zs (lwX (Int.natAbs x0) (Int.natAbs y0)) 1 = cmpZ x0 0 * cmpZ y0 0 := by
                    rw [zs_lw hDp]
                    unfold zs cmpZ
                    split <;> split <;> (try split) <;> (try split) <;> (try split) <;> (try split) <;> omega
                  exact z_iret (w := [oM mo 0 mw ((kpC nv (lwX (rb 0) (rb 1)) (lwZ (rb 0) (rb 1)) : Nat) : Int) mg ma mb (ns : Int) mlo mhi (nw : Int) mwe mru mrd, aL cL mw 160 (wkA rk), aI cI mg 100 (sgA (kpS sg nv (zs (lwX (rb 0) (rb 1)) 1) (lwX (rb 0) (rb 1)) (lwZ (rb 0) (rb 1)))), aL cL ma 800 (moA (kpU up nv (lwX (rb 0) (rb 1)) (lwX (rb 0) (rb 1)) (lwZ (rb 0) (rb 1)))), aL cL mb 800 (moA (kpU dn nv (lwZ (rb 0) (rb 1)) (lwX (rb 0) (rb 1)) (lwZ (rb 0) (rb 1))))]) S hr hlo hAe d_M_value_96 [0, 1, 2, 3, 4] (by decide) rfl rfl ⟨Nat.le_refl _, Nat.le_refl _⟩ (⟨rk, by rw [sk0, sk1], by rw [sk0, sk1, hS]⟩)
            · skip
              refine z_tol (a := ((Int.natAbs y0 : Nat) : Int)) (zL_c (by omega)) ?_
              refine z_callVv (As := [.int (zI 1), .long (zL ((Int.natAbs y0 : Nat) : Int))]) (st := []) (wc := [oM mo 0 mw (nv : Int) mg ma mb (ns : Int) mlo mhi (nw : Int) mwe mru mrd, aL cL mw 160 (wkA ra)]) (wr := [aI cI mg 100 (sgA sg), aL cL ma 800 (moA up), aL cL mb 800 (moA dn)]) S hGok hK hg hA (s_M_set l dC dI cI cL qT mo mw nv ma mb ns mlo mhi nw mwe mru mrd 0 mg ra 1 (Int.natAbs y0) (by omega) (by omega)) (zcwV S (List.mem_cons_of_mem _ k_M_91) mV_M_set k_M_91 hd_M_set rfl rfl ⟨Nat.le_of_ble_eq_true rfl, Nat.le_of_ble_eq_true rfl⟩) rfl (Nat.le_of_ble_eq_true rfl) d_M_value_66 ⟨Nat.le_of_ble_eq_true rfl, Nat.le_of_ble_eq_true rfl⟩ rfl [3, 4] [0, 1, 2] 3 rfl rfl rfl (by decide) rfl rfl rfl (by decide) (by decide) (fun w hp => ?_)
              subst hp
              show ZZ _ _ _ _ _ _ _ _ _ _ _ _ _ _ _ _ _ _ 69 [(0, .ref mo), (1, .long (zL x0)), (3, .long (zL y0))] [] [aI cI mg 100 (sgA sg), aL cL ma 800 (moA up), aL cL mb 800 (moA dn), oM mo 0 mw (nv : Int) mg ma mb (ns : Int) mlo mhi (nw : Int) mwe mru mrd, aL cL mw 160 (wkA (un ra 1 (Int.natAbs y0)))]
              obtain ⟨rb, hrb, sk0, sk1⟩ : ∃ rb : Nat → Nat, rb = (un ra 1 (Int.natAbs y0)) ∧ rb 0 = Int.natAbs x0 ∧ rb 1 = Int.natAbs y0 := ⟨(un ra 1 (Int.natAbs y0)), rfl, a0, rfl⟩
              refine z_wq (ws' := [aI cI mg 100 (sgA sg), aL cL ma 800 (moA up), aL cL mb 800 (moA dn), oM mo 0 mw (nv : Int) mg ma mb (ns : Int) mlo mhi (nw : Int) mwe mru mrd, aL cL mw 160 (wkA rb)]) (by rw [hrb]) ?_
              refine z_aload_n S d_M_value_69 0 rfl ?_
              refine z_lload_n S d_M_value_70 1 rfl ?_
              refine z_lconst (z := 0) S d_M_value_71 rfl ?_
              refine z_lcmp_ge (tgt := 80) S d_M_value_72 d_M_value_73 (by decide) (by omega) (by omega) (fun c12 => ?_) (fun c12 => ?_)
              · skip
                refine z_iconst S d_M_value_80 ?_
                refine z_lload_n S d_M_value_81 2 rfl ?_
                refine z_lconst (z := 0) S d_M_value_82 rfl ?_
                refine z_lcmp_ge (tgt := 91) S d_M_value_83 d_M_value_84 (by decide) (by omega) (by omega) (fun c13 => ?_) (fun c13 => ?_)
                · skip
                  refine z_iconst S d_M_value_91 ?_
                  refine z_imul S d_M_value_92 ?_
                  refine z_toi (a := 1) rfl ?_
                  refine z_callVa (As := [.int (zI 1)]) (st := []) (wc := [oM mo 0 mw (nv : Int) mg ma mb (ns : Int) mlo mhi (nw : Int) mwe mru mrd, aL cL mw 160 (wkA rb), aI cI mg 100 (sgA sg), aL cL ma 800 (moA up), aL cL mb 800 (moA dn)]) (wr := []) S hGok hK hg hA (s_M_keep l dC dI cI cL qT mo mw nv ma mb ns mlo mhi nw mwe mru mrd 0 mg rb sg up dn 1 (by omega) (by rw [sk0]; omega) (by rw [sk1]; omega) (by rw [sk1]; exact hDp) (by omega)) (zcwV S (List.mem_cons_of_mem _ k_M_122) mV_M_keep k_M_122 hd_M_keep rfl rfl ⟨Nat.le_of_ble_eq_true rfl, Nat.le_of_ble_eq_true rfl⟩) rfl (Nat.le_of_ble_eq_true rfl) d_M_value_93 ⟨Nat.le_of_ble_eq_true rfl, Nat.le_of_ble_eq_true rfl⟩ rfl [3, 4, 0, 1, 2] [] 3 rfl rfl rfl (by decide) rfl rfl rfl (by decide) (by decide) (fun x w hp => ?_)
                  obtain ⟨rk, rfl, rfl⟩ := hp
                  show ZZ _ _ _ _ _ _ _ _ _ _ _ _ _ _ _ _ _ _ 96 [(0, .ref mo), (1, .long (zL x0)), (3, .long (zL y0))] [.int (zI (kpR nv (lwX (rb 0) (rb 1)) (lwZ (rb 0) (rb 1))))] [oM mo 0 mw ((kpC nv (lwX (rb 0) (rb 1)) (lwZ (rb 0) (rb 1)) : Nat) : Int) mg ma mb (ns : Int) mlo mhi (nw : Int) mwe mru mrd, aL cL mw 160 (wkA rk), aI cI mg 100 (sgA (kpS sg nv (zs (lwX (rb 0) (rb 1)) 1) (lwX (rb 0) (rb 1)) (lwZ (rb 0) (rb 1)))), aL cL ma 800 (moA (kpU up nv (lwX (rb 0) (rb 1)) (lwX (rb 0) (rb 1)) (lwZ (rb 0) (rb 1)))), aL cL mb 800 (moA (kpU dn nv (lwZ (rb 0) (rb 1)) (lwX (rb 0) (rb 1)) (lwZ (rb 0) (rb 1))))]
                  have hS : zs (lwX (Int.natAbs x0) (Int.natAbs y0)) 1 = cmpZ x0 0 * cmpZ y0 0 := by
                    rw [zs_lw hDp]
                    unfold zs cmpZ
                    split <;> split <;> (try split) <;> (try split) <;> (try split) <;> (try split) <;> omega
                  exact z_iret (w := [oM mo 0 mw ((kpC nv (lwX (rb 0) (rb 1)) (lwZ (rb 0) (rb 1)) : Nat) : Int) mg ma mb (ns : Int) mlo mhi (nw : Int) mwe mru mrd, aL cL mw 160 (wkA rk), aI cI mg 100 (sgA (kpS sg nv (zs (lwX (rb 0) (rb 1)) 1) (lwX (rb 0) (rb 1)) (lwZ (rb 0) (rb 1)))), aL cL ma 800 (moA (kpU up nv (lwX (rb 0) (rb 1)) (lwX (rb 0) (rb 1)) (lwZ (rb 0) (rb 1)))), aL cL mb 800 (moA (kpU dn nv (lwZ (rb 0) (rb 1)) (lwX (rb 0) (rb 1)) (lwZ (rb 0) (rb 1))))]) S hr hlo hAe d_M_value_96 [0, 1, 2, 3, 4] (by decide) rfl rfl ⟨Nat.le_refl _, Nat.le_refl _⟩ (⟨rk, by rw [sk0, sk1], by rw [sk0, sk1, hS]⟩)
                · skip
                  refine z_iconst S d_M_value_87 ?_
                  refine z_goto (tgt := 92) S d_M_value_88 (by decide) ?_
                  refine z_imul S d_M_value_92 ?_
                  refine z_toi (a := (-1)) rfl ?_
                  refine z_callVa (As := [.int (zI (-1))]) (st := []) (wc := [oM mo 0 mw (nv : Int) mg ma mb (ns : Int) mlo mhi (nw : Int) mwe mru mrd, aL cL mw 160 (wkA rb), aI cI mg 100 (sgA sg), aL cL ma 800 (moA up), aL cL mb 800 (moA dn)]) (wr := []) S hGok hK hg hA (s_M_keep l dC dI cI cL qT mo mw nv ma mb ns mlo mhi nw mwe mru mrd 0 mg rb sg up dn (-1) (by omega) (by rw [sk0]; omega) (by rw [sk1]; omega) (by rw [sk1]; exact hDp) (by omega)) (zcwV S (List.mem_cons_of_mem _ k_M_122) mV_M_keep k_M_122 hd_M_keep rfl rfl ⟨Nat.le_of_ble_eq_true rfl, Nat.le_of_ble_eq_true rfl⟩) rfl (Nat.le_of_ble_eq_true rfl) d_M_value_93 ⟨Nat.le_of_ble_eq_true rfl, Nat.le_of_ble_eq_true rfl⟩ rfl [3, 4, 0, 1, 2] [] 3 rfl rfl rfl (by decide) rfl rfl rfl (by decide) (by decide) (fun x w hp => ?_)
                  obtain ⟨rk, rfl, rfl⟩ := hp
                  show ZZ _ _ _ _ _ _ _ _ _ _ _ _ _ _ _ _ _ _ 96 [(0, .ref mo), (1, .long (zL x0)), (3, .long (zL y0))] [.int (zI (kpR nv (lwX (rb 0) (rb 1)) (lwZ (rb 0) (rb 1))))] [oM mo 0 mw ((kpC nv (lwX (rb 0) (rb 1)) (lwZ (rb 0) (rb 1)) : Nat) : Int) mg ma mb (ns : Int) mlo mhi (nw : Int) mwe mru mrd, aL cL mw 160 (wkA rk), aI cI mg 100 (sgA (kpS sg nv (zs (lwX (rb 0) (rb 1)) (-1)) (lwX (rb 0) (rb 1)) (lwZ (rb 0) (rb 1)))), aL cL ma 800 (moA (kpU up nv (lwX (rb 0) (rb 1)) (lwX (rb 0) (rb 1)) (lwZ (rb 0) (rb 1)))), aL cL mb 800 (moA (kpU dn nv (lwZ (rb 0) (rb 1)) (lwX (rb 0) (rb 1)) (lwZ (rb 0) (rb 1))))]
                  have hS : zs (lwX (Int.natAbs x0) (Int.natAbs y0)) (-1) = cmpZ x0 0 * cmpZ y0 0 := by
                    rw [zs_lw hDp]
                    unfold zs cmpZ
                    split <;> split <;> (try split) <;> (try split) <;> (try split) <;> (try split) <;> omega
                  exact z_iret (w := [oM mo 0 mw ((kpC nv (lwX (rb 0) (rb 1)) (lwZ (rb 0) (rb 1)) : Nat) : Int) mg ma mb (ns : Int) mlo mhi (nw : Int) mwe mru mrd, aL cL mw 160 (wkA rk), aI cI mg 100 (sgA (kpS sg nv (zs (lwX (rb 0) (rb 1)) (-1)) (lwX (rb 0) (rb 1)) (lwZ (rb 0) (rb 1)))), aL cL ma 800 (moA (kpU up nv (lwX (rb 0) (rb 1)) (lwX (rb 0) (rb 1)) (lwZ (rb 0) (rb 1)))), aL cL mb 800 (moA (kpU dn nv (lwZ (rb 0) (rb 1)) (lwX (rb 0) (rb 1)) (lwZ (rb 0) (rb 1))))]) S hr hlo hAe d_M_value_96 [0, 1, 2, 3, 4] (by decide) rfl rfl ⟨Nat.le_refl _, Nat.le_refl _⟩ (⟨rk, by rw [sk0, sk1], by rw [sk0, sk1, hS]⟩)
              · skip
                refine z_iconst S d_M_value_76 ?_
                refine z_goto (tgt := 81) S d_M_value_77 (by decide) ?_
                refine z_lload_n S d_M_value_81 2 rfl ?_
                refine z_lconst (z := 0) S d_M_value_82 rfl ?_
                refine z_lcmp_ge (tgt := 91) S d_M_value_83 d_M_value_84 (by decide) (by omega) (by omega) (fun c14 => ?_) (fun c14 => ?_)
                · skip
                  refine z_iconst S d_M_value_91 ?_
                  refine z_imul S d_M_value_92 ?_
                  refine z_toi (a := (-1)) rfl ?_
                  refine z_callVa (As := [.int (zI (-1))]) (st := []) (wc := [oM mo 0 mw (nv : Int) mg ma mb (ns : Int) mlo mhi (nw : Int) mwe mru mrd, aL cL mw 160 (wkA rb), aI cI mg 100 (sgA sg), aL cL ma 800 (moA up), aL cL mb 800 (moA dn)]) (wr := []) S hGok hK hg hA (s_M_keep l dC dI cI cL qT mo mw nv ma mb ns mlo mhi nw mwe mru mrd 0 mg rb sg up dn (-1) (by omega) (by rw [sk0]; omega) (by rw [sk1]; omega) (by rw [sk1]; exact hDp) (by omega)) (zcwV S (List.mem_cons_of_mem _ k_M_122) mV_M_keep k_M_122 hd_M_keep rfl rfl ⟨Nat.le_of_ble_eq_true rfl, Nat.le_of_ble_eq_true rfl⟩) rfl (Nat.le_of_ble_eq_true rfl) d_M_value_93 ⟨Nat.le_of_ble_eq_true rfl, Nat.le_of_ble_eq_true rfl⟩ rfl [3, 4, 0, 1, 2] [] 3 rfl rfl rfl (by decide) rfl rfl rfl (by decide) (by decide) (fun x w hp => ?_)
                  obtain ⟨rk, rfl, rfl⟩ := hp
                  show ZZ _ _ _ _ _ _ _ _ _ _ _ _ _ _ _ _ _ _ 96 [(0, .ref mo), (1, .long (zL x0)), (3, .long (zL y0))] [.int (zI (kpR nv (lwX (rb 0) (rb 1)) (lwZ (rb 0) (rb 1))))] [oM mo 0 mw ((kpC nv (lwX (rb 0) (rb 1)) (lwZ (rb 0) (rb 1)) : Nat) : Int) mg ma mb (ns : Int) mlo mhi (nw : Int) mwe mru mrd, aL cL mw 160 (wkA rk), aI cI mg 100 (sgA (kpS sg nv (zs (lwX (rb 0) (rb 1)) (-1)) (lwX (rb 0) (rb 1)) (lwZ (rb 0) (rb 1)))), aL cL ma 800 (moA (kpU up nv (lwX (rb 0) (rb 1)) (lwX (rb 0) (rb 1)) (lwZ (rb 0) (rb 1)))), aL cL mb 800 (moA (kpU dn nv (lwZ (rb 0) (rb 1)) (lwX (rb 0) (rb 1)) (lwZ (rb 0) (rb 1))))]
                  have hS : zs (lwX (Int.natAbs x0) (Int.natAbs y0)) (-1) = cmpZ x0 0 * cmpZ y0 0 := by
                    rw [zs_lw hDp]
                    unfold zs cmpZ
                    split <;> split <;> (try split) <;> (try split) <;> (try split) <;> (try split) <;> omega
                  exact z_iret (w := [oM mo 0 mw ((kpC nv (lwX (rb 0) (rb 1)) (lwZ (rb 0) (rb 1)) : Nat) : Int) mg ma mb (ns : Int) mlo mhi (nw : Int) mwe mru mrd, aL cL mw 160 (wkA rk), aI cI mg 100 (sgA (kpS sg nv (zs (lwX (rb 0) (rb 1)) (-1)) (lwX (rb 0) (rb 1)) (lwZ (rb 0) (rb 1)))), aL cL ma 800 (moA (kpU up nv (lwX (rb 0) (rb 1)) (lwX (rb 0) (rb 1)) (lwZ (rb 0) (rb 1)))), aL cL mb 800 (moA (kpU dn nv (lwZ (rb 0) (rb 1)) (lwX (rb 0) (rb 1)) (lwZ (rb 0) (rb 1))))]) S hr hlo hAe d_M_value_96 [0, 1, 2, 3, 4] (by decide) rfl rfl ⟨Nat.le_refl _, Nat.le_refl _⟩ (⟨rk, by rw [sk0, sk1], by rw [sk0, sk1, hS]⟩)
                · skip
                  refine z_iconst S d_M_value_87 ?_
                  refine z_goto (tgt := 92) S d_M_value_88 (by decide) ?_
                  refine z_imul S d_M_value_92 ?_
                  refine z_toi (a := 1) rfl ?_
                  refine z_callVa (As := [.int (zI 1)]) (st := []) (wc := [oM mo 0 mw (nv : Int) mg ma mb (ns : Int) mlo mhi (nw : Int) mwe mru mrd, aL cL mw 160 (wkA rb), aI cI mg 100 (sgA sg), aL cL ma 800 (moA up), aL cL mb 800 (moA dn)]) (wr := []) S hGok hK hg hA (s_M_keep l dC dI cI cL qT mo mw nv ma mb ns mlo mhi nw mwe mru mrd 0 mg rb sg up dn 1 (by omega) (by rw [sk0]; omega) (by rw [sk1]; omega) (by rw [sk1]; exact hDp) (by omega)) (zcwV S (List.mem_cons_of_mem _ k_M_122) mV_M_keep k_M_122 hd_M_keep rfl rfl ⟨Nat.le_of_ble_eq_true rfl, Nat.le_of_ble_eq_true rfl⟩) rfl (Nat.le_of_ble_eq_true rfl) d_M_value_93 ⟨Nat.le_of_ble_eq_true rfl, Nat.le_of_ble_eq_true rfl⟩ rfl [3, 4, 0, 1, 2] [] 3 rfl rfl rfl (by decide) rfl rfl rfl (by decide) (by decide) (fun x w hp => ?_)
                  obtain ⟨rk, rfl, rfl⟩ := hp
                  show ZZ _ _ _ _ _ _ _ _ _ _ _ _ _ _ _ _ _ _ 96 [(0, .ref mo), (1, .long (zL x0)), (3, .long (zL y0))] [.int (zI (kpR nv (lwX (rb 0) (rb 1)) (lwZ (rb 0) (rb 1))))] [oM mo 0 mw ((kpC nv (lwX (rb 0) (rb 1)) (lwZ (rb 0) (rb 1)) : Nat) : Int) mg ma mb (ns : Int) mlo mhi (nw : Int) mwe mru mrd, aL cL mw 160 (wkA rk), aI cI mg 100 (sgA (kpS sg nv (zs (lwX (rb 0) (rb 1)) 1) (lwX (rb 0) (rb 1)) (lwZ (rb 0) (rb 1)))), aL cL ma 800 (moA (kpU up nv (lwX (rb 0) (rb 1)) (lwX (rb 0) (rb 1)) (lwZ (rb 0) (rb 1)))), aL cL mb 800 (moA (kpU dn nv (lwZ (rb 0) (rb 1)) (lwX (rb 0) (rb 1)) (lwZ (rb 0) (rb 1))))]
                  have hS : zs (lwX (Int.natAbs x0) (Int.natAbs y0)) 1 = cmpZ x0 0 * cmpZ y0 0 := by
                    rw [zs_lw hDp]
                    unfold zs cmpZ
                    split <;> split <;> (try split) <;> (try split) <;> (try split) <;> (try split) <;> omega
                  exact z_iret (w := [oM mo 0 mw ((kpC nv (lwX (rb 0) (rb 1)) (lwZ (rb 0) (rb 1)) : Nat) : Int) mg ma mb (ns : Int) mlo mhi (nw : Int) mwe mru mrd, aL cL mw 160 (wkA rk), aI cI mg 100 (sgA (kpS sg nv (zs (lwX (rb 0) (rb 1)) 1) (lwX (rb 0) (rb 1)) (lwZ (rb 0) (rb 1)))), aL cL ma 800 (moA (kpU up nv (lwX (rb 0) (rb 1)) (lwX (rb 0) (rb 1)) (lwZ (rb 0) (rb 1)))), aL cL mb 800 (moA (kpU dn nv (lwZ (rb 0) (rb 1)) (lwX (rb 0) (rb 1)) (lwZ (rb 0) (rb 1))))]) S hr hlo hAe d_M_value_96 [0, 1, 2, 3, 4] (by decide) rfl rfl ⟨Nat.le_refl _, Nat.le_refl _⟩ (⟨rk, by rw [sk0, sk1], by rw [sk0, sk1, hS]⟩)
        · skip
          refine z_lload_n S d_M_value_43 1 rfl ?_
          refine z_lneg S d_M_value_44 ?_
          refine z_goto (tgt := 49) S d_M_value_45 (by decide) ?_
          by_cases hm49 : x0 = -9223372036854775808
          · skip
            refine z_tol (a := (-9223372036854775808)) (by rw [hm49]; rfl) ?_
            refine z_callVv (As := [.int (zI 0), .long (zL (-9223372036854775808))]) (st := []) (wc := [oM mo 0 mw (nv : Int) mg ma mb (ns : Int) mlo mhi (nw : Int) mwe mru mrd, aL cL mw 160 (wkA rr)]) (wr := [aI cI mg 100 (sgA sg), aL cL ma 800 (moA up), aL cL mb 800 (moA dn)]) S hGok hK hg hA (s_M_setMin l dC dI cI cL qT mo mw nv ma mb ns mlo mhi nw mwe mru mrd 0 mg rr 0 (by omega)) (zcwV S (List.mem_cons_of_mem _ k_M_91) mV_M_set k_M_91 hd_M_set rfl rfl ⟨Nat.le_of_ble_eq_true rfl, Nat.le_of_ble_eq_true rfl⟩) rfl (Nat.le_of_ble_eq_true rfl) d_M_value_49 ⟨Nat.le_of_ble_eq_true rfl, Nat.le_of_ble_eq_true rfl⟩ rfl [4, 0] [1, 2, 3] 4 rfl rfl rfl (by decide) rfl rfl rfl (by decide) (by decide) (fun w hp => ?_)
            subst hp
            show ZZ _ _ _ _ _ _ _ _ _ _ _ _ _ _ _ _ _ _ 52 [(0, .ref mo), (1, .long (zL x0)), (3, .long (zL y0))] [] [aI cI mg 100 (sgA sg), aL cL ma 800 (moA up), aL cL mb 800 (moA dn), oM mo 0 mw (nv : Int) mg ma mb (ns : Int) mlo mhi (nw : Int) mwe mru mrd, aL cL mw 160 (wkA (un rr 0 9223372036854775808))]
            obtain ⟨ra, hra, a0⟩ : ∃ ra : Nat → Nat, ra = (un rr 0 9223372036854775808) ∧ ra 0 = Int.natAbs x0 := ⟨(un rr 0 9223372036854775808), rfl, (show 9223372036854775808 = Int.natAbs x0 by omega)⟩
            refine z_wq (ws' := [aI cI mg 100 (sgA sg), aL cL ma 800 (moA up), aL cL mb 800 (moA dn), oM mo 0 mw (nv : Int) mg ma mb (ns : Int) mlo mhi (nw : Int) mwe mru mrd, aL cL mw 160 (wkA ra)]) (by rw [hra]) ?_
            refine z_aload_n S d_M_value_52 0 rfl ?_
            refine z_iconst S d_M_value_53 ?_
            refine z_lload_n S d_M_value_54 2 rfl ?_
            refine z_lconst (z := 0) S d_M_value_55 rfl ?_
            refine z_lcmp_ge (tgt := 65) S d_M_value_56 d_M_value_57 (by decide) (by omega) (by omega) (fun c15 => ?_) (fun c15 => ?_)
            · skip
              refine z_lload_n S d_M_value_65 2 rfl ?_
              refine z_tol (a := ((Int.natAbs y0 : Nat) : Int)) (zL_c (by omega)) ?_
              refine z_callVv (As := [.int (zI 1), .long (zL ((Int.natAbs y0 : Nat) : Int))]) (st := []) (wc := [oM mo 0 mw (nv : Int) mg ma mb (ns : Int) mlo mhi (nw : Int) mwe mru mrd, aL cL mw 160 (wkA ra)]) (wr := [aI cI mg 100 (sgA sg), aL cL ma 800 (moA up), aL cL mb 800 (moA dn)]) S hGok hK hg hA (s_M_set l dC dI cI cL qT mo mw nv ma mb ns mlo mhi nw mwe mru mrd 0 mg ra 1 (Int.natAbs y0) (by omega) (by omega)) (zcwV S (List.mem_cons_of_mem _ k_M_91) mV_M_set k_M_91 hd_M_set rfl rfl ⟨Nat.le_of_ble_eq_true rfl, Nat.le_of_ble_eq_true rfl⟩) rfl (Nat.le_of_ble_eq_true rfl) d_M_value_66 ⟨Nat.le_of_ble_eq_true rfl, Nat.le_of_ble_eq_true rfl⟩ rfl [3, 4] [0, 1, 2] 3 rfl rfl rfl (by decide) rfl rfl rfl (by decide) (by decide) (fun w hp => ?_)
              subst hp
              show ZZ _ _ _ _ _ _ _ _ _ _ _ _ _ _ _ _ _ _ 69 [(0, .ref mo), (1, .long (zL x0)), (3, .long (zL y0))] [] [aI cI mg 100 (sgA sg), aL cL ma 800 (moA up), aL cL mb 800 (moA dn), oM mo 0 mw (nv : Int) mg ma mb (ns : Int) mlo mhi (nw : Int) mwe mru mrd, aL cL mw 160 (wkA (un ra 1 (Int.natAbs y0)))]
              obtain ⟨rb, hrb, sk0, sk1⟩ : ∃ rb : Nat → Nat, rb = (un ra 1 (Int.natAbs y0)) ∧ rb 0 = Int.natAbs x0 ∧ rb 1 = Int.natAbs y0 := ⟨(un ra 1 (Int.natAbs y0)), rfl, a0, rfl⟩
              refine z_wq (ws' := [aI cI mg 100 (sgA sg), aL cL ma 800 (moA up), aL cL mb 800 (moA dn), oM mo 0 mw (nv : Int) mg ma mb (ns : Int) mlo mhi (nw : Int) mwe mru mrd, aL cL mw 160 (wkA rb)]) (by rw [hrb]) ?_
              refine z_aload_n S d_M_value_69 0 rfl ?_
              refine z_lload_n S d_M_value_70 1 rfl ?_
              refine z_lconst (z := 0) S d_M_value_71 rfl ?_
              refine z_lcmp_ge (tgt := 80) S d_M_value_72 d_M_value_73 (by decide) (by omega) (by omega) (fun c16 => ?_) (fun c16 => ?_)
              · skip
                refine z_iconst S d_M_value_80 ?_
                refine z_lload_n S d_M_value_81 2 rfl ?_
                refine z_lconst (z := 0) S d_M_value_82 rfl ?_
                refine z_lcmp_ge (tgt := 91) S d_M_value_83 d_M_value_84 (by decide) (by omega) (by omega) (fun c17 => ?_) (fun c17 => ?_)
                · skip
                  refine z_iconst S d_M_value_91 ?_
                  refine z_imul S d_M_value_92 ?_
                  refine z_toi (a := 1) rfl ?_
                  refine z_callVa (As := [.int (zI 1)]) (st := []) (wc := [oM mo 0 mw (nv : Int) mg ma mb (ns : Int) mlo mhi (nw : Int) mwe mru mrd, aL cL mw 160 (wkA rb), aI cI mg 100 (sgA sg), aL cL ma 800 (moA up), aL cL mb 800 (moA dn)]) (wr := []) S hGok hK hg hA (s_M_keep l dC dI cI cL qT mo mw nv ma mb ns mlo mhi nw mwe mru mrd 0 mg rb sg up dn 1 (by omega) (by rw [sk0]; omega) (by rw [sk1]; omega) (by rw [sk1]; exact hDp) (by omega)) (zcwV S (List.mem_cons_of_mem _ k_M_122) mV_M_keep k_M_122 hd_M_keep rfl rfl ⟨Nat.le_of_ble_eq_true rfl, Nat.le_of_ble_eq_true rfl⟩) rfl (Nat.le_of_ble_eq_true rfl) d_M_value_93 ⟨Nat.le_of_ble_eq_true rfl, Nat.le_of_ble_eq_true rfl⟩ rfl [3, 4, 0, 1, 2] [] 3 rfl rfl rfl (by decide) rfl rfl rfl (by decide) (by decide) (fun x w hp => ?_)
                  obtain ⟨rk, rfl, rfl⟩ := hp
                  show ZZ _ _ _ _ _ _ _ _ _ _ _ _ _ _ _ _ _ _ 96 [(0, .ref mo), (1, .long (zL x0)), (3, .long (zL y0))] [.int (zI (kpR nv (lwX (rb 0) (rb 1)) (lwZ (rb 0) (rb 1))))] [oM mo 0 mw ((kpC nv (lwX (rb 0) (rb 1)) (lwZ (rb 0) (rb 1)) : Nat) : Int) mg ma mb (ns : Int) mlo mhi (nw : Int) mwe mru mrd, aL cL mw 160 (wkA rk), aI cI mg 100 (sgA (kpS sg nv (zs (lwX (rb 0) (rb 1)) 1) (lwX (rb 0) (rb 1)) (lwZ (rb 0) (rb 1)))), aL cL ma 800 (moA (kpU up nv (lwX (rb 0) (rb 1)) (lwX (rb 0) (rb 1)) (lwZ (rb 0) (rb 1)))), aL cL mb 800 (moA (kpU dn nv (lwZ (rb 0) (rb 1)) (lwX (rb 0) (rb 1)) (lwZ (rb 0) (rb 1))))]
                  have hS : zs (lwX (Int.natAbs x0) (Int.natAbs y0)) 1 = cmpZ x0 0 * cmpZ y0 0 := by
                    rw [zs_lw hDp]
                    unfold zs cmpZ
                    split <;> split <;> (try split) <;> (try split) <;> (try split) <;> (try split) <;> omega
                  exact z_iret (w := [oM mo 0 mw ((kpC nv (lwX (rb 0) (rb 1)) (lwZ (rb 0) (rb 1)) : Nat) : Int) mg ma mb (ns : Int) mlo mhi (nw : Int) mwe mru mrd, aL cL mw 160 (wkA rk), aI cI mg 100 (sgA (kpS sg nv (zs (lwX (rb 0) (rb 1)) 1) (lwX (rb 0) (rb 1)) (lwZ (rb 0) (rb 1)))), aL cL ma 800 (moA (kpU up nv (lwX (rb 0) (rb 1)) (lwX (rb 0) (rb 1)) (lwZ (rb 0) (rb 1)))), aL cL mb 800 (moA (kpU dn nv (lwZ (rb 0) (rb 1)) (lwX (rb 0) (rb 1)) (lwZ (rb 0) (rb 1))))]) S hr hlo hAe d_M_value_96 [0, 1, 2, 3, 4] (by decide) rfl rfl ⟨Nat.le_refl _, Nat.le_refl _⟩ (⟨rk, by rw [sk0, sk1], by rw [sk0, sk1, hS]⟩)
                · skip
                  refine z_iconst S d_M_value_87 ?_
                  refine z_goto (tgt := 92) S d_M_value_88 (by decide) ?_
                  refine z_imul S d_M_value_92 ?_
                  refine z_toi (a := (-1)) rfl ?_
                  refine z_callVa (As := [.int (zI (-1))]) (st := []) (wc := [oM mo 0 mw (nv : Int) mg ma mb (ns : Int) mlo mhi (nw : Int) mwe mru mrd, aL cL mw 160 (wkA rb), aI cI mg 100 (sgA sg), aL cL ma 800 (moA up), aL cL mb 800 (moA dn)]) (wr := []) S hGok hK hg hA (s_M_keep l dC dI cI cL qT mo mw nv ma mb ns mlo mhi nw mwe mru mrd 0 mg rb sg up dn (-1) (by omega) (by rw [sk0]; omega) (by rw [sk1]; omega) (by rw [sk1]; exact hDp) (by omega)) (zcwV S (List.mem_cons_of_mem _ k_M_122) mV_M_keep k_M_122 hd_M_keep rfl rfl ⟨Nat.le_of_ble_eq_true rfl, Nat.le_of_ble_eq_true rfl⟩) rfl (Nat.le_of_ble_eq_true rfl) d_M_value_93 ⟨Nat.le_of_ble_eq_true rfl, Nat.le_of_ble_eq_true rfl⟩ rfl [3, 4, 0, 1, 2] [] 3 rfl rfl rfl (by decide) rfl rfl rfl (by decide) (by decide) (fun x w hp => ?_)
                  obtain ⟨rk, rfl, rfl⟩ := hp
                  show ZZ _ _ _ _ _ _ _ _ _ _ _ _ _ _ _ _ _ _ 96 [(0, .ref mo), (1, .long (zL x0)), (3, .long (zL y0))] [.int (zI (kpR nv (lwX (rb 0) (rb 1)) (lwZ (rb 0) (rb 1))))] [oM mo 0 mw ((kpC nv (lwX (rb 0) (rb 1)) (lwZ (rb 0) (rb 1)) : Nat) : Int) mg ma mb (ns : Int) mlo mhi (nw : Int) mwe mru mrd, aL cL mw 160 (wkA rk), aI cI mg 100 (sgA (kpS sg nv (zs (lwX (rb 0) (rb 1)) (-1)) (lwX (rb 0) (rb 1)) (lwZ (rb 0) (rb 1)))), aL cL ma 800 (moA (kpU up nv (lwX (rb 0) (rb 1)) (lwX (rb 0) (rb 1)) (lwZ (rb 0) (rb 1)))), aL cL mb 800 (moA (kpU dn nv (lwZ (rb 0) (rb 1)) (lwX (rb 0) (rb 1)) (lwZ (rb 0) (rb 1))))]
                  have hS : zs (lwX (Int.natAbs x0) (Int.natAbs y0)) (-1) = cmpZ x0 0 * cmpZ y0 0 := by
                    rw [zs_lw hDp]
                    unfold zs cmpZ
                    split <;> split <;> (try split) <;> (try split) <;> (try split) <;> (try split) <;> omega
                  exact z_iret (w := [oM mo 0 mw ((kpC nv (lwX (rb 0) (rb 1)) (lwZ (rb 0) (rb 1)) : Nat) : Int) mg ma mb (ns : Int) mlo mhi (nw : Int) mwe mru mrd, aL cL mw 160 (wkA rk), aI cI mg 100 (sgA (kpS sg nv (zs (lwX (rb 0) (rb 1)) (-1)) (lwX (rb 0) (rb 1)) (lwZ (rb 0) (rb 1)))), aL cL ma 800 (moA (kpU up nv (lwX (rb 0) (rb 1)) (lwX (rb 0) (rb 1)) (lwZ (rb 0) (rb 1)))), aL cL mb 800 (moA (kpU dn nv (lwZ (rb 0) (rb 1)) (lwX (rb 0) (rb 1)) (lwZ (rb 0) (rb 1))))]) S hr hlo hAe d_M_value_96 [0, 1, 2, 3, 4] (by decide) rfl rfl ⟨Nat.le_refl _, Nat.le_refl _⟩ (⟨rk, by rw [sk0, sk1], by rw [sk0, sk1, hS]⟩)
              · skip
                refine z_iconst S d_M_value_76 ?_
                refine z_goto (tgt := 81) S d_M_value_77 (by decide) ?_
                refine z_lload_n S d_M_value_81 2 rfl ?_
                refine z_lconst (z := 0) S d_M_value_82 rfl ?_
                refine z_lcmp_ge (tgt := 91) S d_M_value_83 d_M_value_84 (by decide) (by omega) (by omega) (fun c18 => ?_) (fun c18 => ?_)
                · skip
                  refine z_iconst S d_M_value_91 ?_
                  refine z_imul S d_M_value_92 ?_
                  refine z_toi (a := (-1)) rfl ?_
                  refine z_callVa (As := [.int (zI (-1))]) (st := []) (wc := [oM mo 0 mw (nv : Int) mg ma mb (ns : Int) mlo mhi (nw : Int) mwe mru mrd, aL cL mw 160 (wkA rb), aI cI mg 100 (sgA sg), aL cL ma 800 (moA up), aL cL mb 800 (moA dn)]) (wr := []) S hGok hK hg hA (s_M_keep l dC dI cI cL qT mo mw nv ma mb ns mlo mhi nw mwe mru mrd 0 mg rb sg up dn (-1) (by omega) (by rw [sk0]; omega) (by rw [sk1]; omega) (by rw [sk1]; exact hDp) (by omega)) (zcwV S (List.mem_cons_of_mem _ k_M_122) mV_M_keep k_M_122 hd_M_keep rfl rfl ⟨Nat.le_of_ble_eq_true rfl, Nat.le_of_ble_eq_true rfl⟩) rfl (Nat.le_of_ble_eq_true rfl) d_M_value_93 ⟨Nat.le_of_ble_eq_true rfl, Nat.le_of_ble_eq_true rfl⟩ rfl [3, 4, 0, 1, 2] [] 3 rfl rfl rfl (by decide) rfl rfl rfl (by decide) (by decide) (fun x w hp => ?_)
                  obtain ⟨rk, rfl, rfl⟩ := hp
                  show ZZ _ _ _ _ _ _ _ _ _ _ _ _ _ _ _ _ _ _ 96 [(0, .ref mo), (1, .long (zL x0)), (3, .long (zL y0))] [.int (zI (kpR nv (lwX (rb 0) (rb 1)) (lwZ (rb 0) (rb 1))))] [oM mo 0 mw ((kpC nv (lwX (rb 0) (rb 1)) (lwZ (rb 0) (rb 1)) : Nat) : Int) mg ma mb (ns : Int) mlo mhi (nw : Int) mwe mru mrd, aL cL mw 160 (wkA rk), aI cI mg 100 (sgA (kpS sg nv (zs (lwX (rb 0) (rb 1)) (-1)) (lwX (rb 0) (rb 1)) (lwZ (rb 0) (rb 1)))), aL cL ma 800 (moA (kpU up nv (lwX (rb 0) (rb 1)) (lwX (rb 0) (rb 1)) (lwZ (rb 0) (rb 1)))), aL cL mb 800 (moA (kpU dn nv (lwZ (rb 0) (rb 1)) (lwX (rb 0) (rb 1)) (lwZ (rb 0) (rb 1))))]
                  have hS : zs (lwX (Int.natAbs x0) (Int.natAbs y0)) (-1) = cmpZ x0 0 * cmpZ y0 0 := by
                    rw [zs_lw hDp]
                    unfold zs cmpZ
                    split <;> split <;> (try split) <;> (try split) <;> (try split) <;> (try split) <;> omega
                  exact z_iret (w := [oM mo 0 mw ((kpC nv (lwX (rb 0) (rb 1)) (lwZ (rb 0) (rb 1)) : Nat) : Int) mg ma mb (ns : Int) mlo mhi (nw : Int) mwe mru mrd, aL cL mw 160 (wkA rk), aI cI mg 100 (sgA (kpS sg nv (zs (lwX (rb 0) (rb 1)) (-1)) (lwX (rb 0) (rb 1)) (lwZ (rb 0) (rb 1)))), aL cL ma 800 (moA (kpU up nv (lwX (rb 0) (rb 1)) (lwX (rb 0) (rb 1)) (lwZ (rb 0) (rb 1)))), aL cL mb 800 (moA (kpU dn nv (lwZ (rb 0) (rb 1)) (lwX (rb 0) (rb 1)) (lwZ (rb 0) (rb 1))))]) S hr hlo hAe d_M_value_96 [0, 1, 2, 3, 4] (by decide) rfl rfl ⟨Nat.le_refl _, Nat.le_refl _⟩ (⟨rk, by rw [sk0, sk1], by rw [sk0, sk1, hS]⟩)
                · skip
                  refine z_iconst S d_M_value_87 ?_
                  refine z_goto (tgt := 92) S d_M_value_88 (by decide) ?_
                  refine z_imul S d_M_value_92 ?_
                  refine z_toi (a := 1) rfl ?_
                  refine z_callVa (As := [.int (zI 1)]) (st := []) (wc := [oM mo 0 mw (nv : Int) mg ma mb (ns : Int) mlo mhi (nw : Int) mwe mru mrd, aL cL mw 160 (wkA rb), aI cI mg 100 (sgA sg), aL cL ma 800 (moA up), aL cL mb 800 (moA dn)]) (wr := []) S hGok hK hg hA (s_M_keep l dC dI cI cL qT mo mw nv ma mb ns mlo mhi nw mwe mru mrd 0 mg rb sg up dn 1 (by omega) (by rw [sk0]; omega) (by rw [sk1]; omega) (by rw [sk1]; exact hDp) (by omega)) (zcwV S (List.mem_cons_of_mem _ k_M_122) mV_M_keep k_M_122 hd_M_keep rfl rfl ⟨Nat.le_of_ble_eq_true rfl, Nat.le_of_ble_eq_true rfl⟩) rfl (Nat.le_of_ble_eq_true rfl) d_M_value_93 ⟨Nat.le_of_ble_eq_true rfl, Nat.le_of_ble_eq_true rfl⟩ rfl [3, 4, 0, 1, 2] [] 3 rfl rfl rfl (by decide) rfl rfl rfl (by decide) (by decide) (fun x w hp => ?_)
                  obtain ⟨rk, rfl, rfl⟩ := hp
                  show ZZ _ _ _ _ _ _ _ _ _ _ _ _ _ _ _ _ _ _ 96 [(0, .ref mo), (1, .long (zL x0)), (3, .long (zL y0))] [.int (zI (kpR nv (lwX (rb 0) (rb 1)) (lwZ (rb 0) (rb 1))))] [oM mo 0 mw ((kpC nv (lwX (rb 0) (rb 1)) (lwZ (rb 0) (rb 1)) : Nat) : Int) mg ma mb (ns : Int) mlo mhi (nw : Int) mwe mru mrd, aL cL mw 160 (wkA rk), aI cI mg 100 (sgA (kpS sg nv (zs (lwX (rb 0) (rb 1)) 1) (lwX (rb 0) (rb 1)) (lwZ (rb 0) (rb 1)))), aL cL ma 800 (moA (kpU up nv (lwX (rb 0) (rb 1)) (lwX (rb 0) (rb 1)) (lwZ (rb 0) (rb 1)))), aL cL mb 800 (moA (kpU dn nv (lwZ (rb 0) (rb 1)) (lwX (rb 0) (rb 1)) (lwZ (rb 0) (rb 1))))]
                  have hS : zs (lwX (Int.natAbs x0) (Int.natAbs y0)) 1 = cmpZ x0 0 * cmpZ y0 0 := by
                    rw [zs_lw hDp]
                    unfold zs cmpZ
                    split <;> split <;> (try split) <;> (try split) <;> (try split) <;> (try split) <;> omega
                  exact z_iret (w := [oM mo 0 mw ((kpC nv (lwX (rb 0) (rb 1)) (lwZ (rb 0) (rb 1)) : Nat) : Int) mg ma mb (ns : Int) mlo mhi (nw : Int) mwe mru mrd, aL cL mw 160 (wkA rk), aI cI mg 100 (sgA (kpS sg nv (zs (lwX (rb 0) (rb 1)) 1) (lwX (rb 0) (rb 1)) (lwZ (rb 0) (rb 1)))), aL cL ma 800 (moA (kpU up nv (lwX (rb 0) (rb 1)) (lwX (rb 0) (rb 1)) (lwZ (rb 0) (rb 1)))), aL cL mb 800 (moA (kpU dn nv (lwZ (rb 0) (rb 1)) (lwX (rb 0) (rb 1)) (lwZ (rb 0) (rb 1))))]) S hr hlo hAe d_M_value_96 [0, 1, 2, 3, 4] (by decide) rfl rfl ⟨Nat.le_refl _, Nat.le_refl _⟩ (⟨rk, by rw [sk0, sk1], by rw [sk0, sk1, hS]⟩)
            · skip
              refine z_lload_n S d_M_value_60 2 rfl ?_
              refine z_lneg S d_M_value_61 ?_
              refine z_goto (tgt := 66) S d_M_value_62 (by decide) ?_
              by_cases hm66 : y0 = -9223372036854775808
              · skip
                refine z_tol (a := (-9223372036854775808)) (by rw [hm66]; rfl) ?_
                refine z_callVv (As := [.int (zI 1), .long (zL (-9223372036854775808))]) (st := []) (wc := [oM mo 0 mw (nv : Int) mg ma mb (ns : Int) mlo mhi (nw : Int) mwe mru mrd, aL cL mw 160 (wkA ra)]) (wr := [aI cI mg 100 (sgA sg), aL cL ma 800 (moA up), aL cL mb 800 (moA dn)]) S hGok hK hg hA (s_M_setMin l dC dI cI cL qT mo mw nv ma mb ns mlo mhi nw mwe mru mrd 0 mg ra 1 (by omega)) (zcwV S (List.mem_cons_of_mem _ k_M_91) mV_M_set k_M_91 hd_M_set rfl rfl ⟨Nat.le_of_ble_eq_true rfl, Nat.le_of_ble_eq_true rfl⟩) rfl (Nat.le_of_ble_eq_true rfl) d_M_value_66 ⟨Nat.le_of_ble_eq_true rfl, Nat.le_of_ble_eq_true rfl⟩ rfl [3, 4] [0, 1, 2] 3 rfl rfl rfl (by decide) rfl rfl rfl (by decide) (by decide) (fun w hp => ?_)
                subst hp
                show ZZ _ _ _ _ _ _ _ _ _ _ _ _ _ _ _ _ _ _ 69 [(0, .ref mo), (1, .long (zL x0)), (3, .long (zL y0))] [] [aI cI mg 100 (sgA sg), aL cL ma 800 (moA up), aL cL mb 800 (moA dn), oM mo 0 mw (nv : Int) mg ma mb (ns : Int) mlo mhi (nw : Int) mwe mru mrd, aL cL mw 160 (wkA (un ra 1 9223372036854775808))]
                obtain ⟨rb, hrb, sk0, sk1⟩ : ∃ rb : Nat → Nat, rb = (un ra 1 9223372036854775808) ∧ rb 0 = Int.natAbs x0 ∧ rb 1 = Int.natAbs y0 := ⟨(un ra 1 9223372036854775808), rfl, a0, (show 9223372036854775808 = Int.natAbs y0 by omega)⟩
                refine z_wq (ws' := [aI cI mg 100 (sgA sg), aL cL ma 800 (moA up), aL cL mb 800 (moA dn), oM mo 0 mw (nv : Int) mg ma mb (ns : Int) mlo mhi (nw : Int) mwe mru mrd, aL cL mw 160 (wkA rb)]) (by rw [hrb]) ?_
                refine z_aload_n S d_M_value_69 0 rfl ?_
                refine z_lload_n S d_M_value_70 1 rfl ?_
                refine z_lconst (z := 0) S d_M_value_71 rfl ?_
                refine z_lcmp_ge (tgt := 80) S d_M_value_72 d_M_value_73 (by decide) (by omega) (by omega) (fun c19 => ?_) (fun c19 => ?_)
                · skip
                  refine z_iconst S d_M_value_80 ?_
                  refine z_lload_n S d_M_value_81 2 rfl ?_
                  refine z_lconst (z := 0) S d_M_value_82 rfl ?_
                  refine z_lcmp_ge (tgt := 91) S d_M_value_83 d_M_value_84 (by decide) (by omega) (by omega) (fun c20 => ?_) (fun c20 => ?_)
                  · skip
                    refine z_iconst S d_M_value_91 ?_
                    refine z_imul S d_M_value_92 ?_
                    refine z_toi (a := 1) rfl ?_
                    refine z_callVa (As := [.int (zI 1)]) (st := []) (wc := [oM mo 0 mw (nv : Int) mg ma mb (ns : Int) mlo mhi (nw : Int) mwe mru mrd, aL cL mw 160 (wkA rb), aI cI mg 100 (sgA sg), aL cL ma 800 (moA up), aL cL mb 800 (moA dn)]) (wr := []) S hGok hK hg hA (s_M_keep l dC dI cI cL qT mo mw nv ma mb ns mlo mhi nw mwe mru mrd 0 mg rb sg up dn 1 (by omega) (by rw [sk0]; omega) (by rw [sk1]; omega) (by rw [sk1]; exact hDp) (by omega)) (zcwV S (List.mem_cons_of_mem _ k_M_122) mV_M_keep k_M_122 hd_M_keep rfl rfl ⟨Nat.le_of_ble_eq_true rfl, Nat.le_of_ble_eq_true rfl⟩) rfl (Nat.le_of_ble_eq_true rfl) d_M_value_93 ⟨Nat.le_of_ble_eq_true rfl, Nat.le_of_ble_eq_true rfl⟩ rfl [3, 4, 0, 1, 2] [] 3 rfl rfl rfl (by decide) rfl rfl rfl (by decide) (by decide) (fun x w hp => ?_)
                    obtain ⟨rk, rfl, rfl⟩ := hp
                    show ZZ _ _ _ _ _ _ _ _ _ _ _ _ _ _ _ _ _ _ 96 [(0, .ref mo), (1, .long (zL x0)), (3, .long (zL y0))] [.int (zI (kpR nv (lwX (rb 0) (rb 1)) (lwZ (rb 0) (rb 1))))] [oM mo 0 mw ((kpC nv (lwX (rb 0) (rb 1)) (lwZ (rb 0) (rb 1)) : Nat) : Int) mg ma mb (ns : Int) mlo mhi (nw : Int) mwe mru mrd, aL cL mw 160 (wkA rk), aI cI mg 100 (sgA (kpS sg nv (zs (lwX (rb 0) (rb 1)) 1) (lwX (rb 0) (rb 1)) (lwZ (rb 0) (rb 1)))), aL cL ma 800 (moA (kpU up nv (lwX (rb 0) (rb 1)) (lwX (rb 0) (rb 1)) (lwZ (rb 0) (rb 1)))), aL cL mb 800 (moA (kpU dn nv (lwZ (rb 0) (rb 1)) (lwX (rb 0) (rb 1)) (lwZ (rb 0) (rb 1))))]
                    have hS : zs (lwX (Int.natAbs x0) (Int.natAbs y0)) 1 = cmpZ x0 0 * cmpZ y0 0 := by
                      rw [zs_lw hDp]
                      unfold zs cmpZ
                      split <;> split <;> (try split) <;> (try split) <;> (try split) <;> (try split) <;> omega
                    exact z_iret (w := [oM mo 0 mw ((kpC nv (lwX (rb 0) (rb 1)) (lwZ (rb 0) (rb 1)) : Nat) : Int) mg ma mb (ns : Int) mlo mhi (nw : Int) mwe mru mrd, aL cL mw 160 (wkA rk), aI cI mg 100 (sgA (kpS sg nv (zs (lwX (rb 0) (rb 1)) 1) (lwX (rb 0) (rb 1)) (lwZ (rb 0) (rb 1)))), aL cL ma 800 (moA (kpU up nv (lwX (rb 0) (rb 1)) (lwX (rb 0) (rb 1)) (lwZ (rb 0) (rb 1)))), aL cL mb 800 (moA (kpU dn nv (lwZ (rb 0) (rb 1)) (lwX (rb 0) (rb 1)) (lwZ (rb 0) (rb 1))))]) S hr hlo hAe d_M_value_96 [0, 1, 2, 3, 4] (by decide) rfl rfl ⟨Nat.le_refl _, Nat.le_refl _⟩ (⟨rk, by rw [sk0, sk1], by rw [sk0, sk1, hS]⟩)
                  · skip
                    refine z_iconst S d_M_value_87 ?_
                    refine z_goto (tgt := 92) S d_M_value_88 (by decide) ?_
                    refine z_imul S d_M_value_92 ?_
                    refine z_toi (a := (-1)) rfl ?_
                    refine z_callVa (As := [.int (zI (-1))]) (st := []) (wc := [oM mo 0 mw (nv : Int) mg ma mb (ns : Int) mlo mhi (nw : Int) mwe mru mrd, aL cL mw 160 (wkA rb), aI cI mg 100 (sgA sg), aL cL ma 800 (moA up), aL cL mb 800 (moA dn)]) (wr := []) S hGok hK hg hA (s_M_keep l dC dI cI cL qT mo mw nv ma mb ns mlo mhi nw mwe mru mrd 0 mg rb sg up dn (-1) (by omega) (by rw [sk0]; omega) (by rw [sk1]; omega) (by rw [sk1]; exact hDp) (by omega)) (zcwV S (List.mem_cons_of_mem _ k_M_122) mV_M_keep k_M_122 hd_M_keep rfl rfl ⟨Nat.le_of_ble_eq_true rfl, Nat.le_of_ble_eq_true rfl⟩) rfl (Nat.le_of_ble_eq_true rfl) d_M_value_93 ⟨Nat.le_of_ble_eq_true rfl, Nat.le_of_ble_eq_true rfl⟩ rfl [3, 4, 0, 1, 2] [] 3 rfl rfl rfl (by decide) rfl rfl rfl (by decide) (by decide) (fun x w hp => ?_)
                    obtain ⟨rk, rfl, rfl⟩ := hp
                    show ZZ _ _ _ _ _ _ _ _ _ _ _ _ _ _ _ _ _ _ 96 [(0, .ref mo), (1, .long (zL x0)), (3, .long (zL y0))] [.int (zI (kpR nv (lwX (rb 0) (rb 1)) (lwZ (rb 0) (rb 1))))] [oM mo 0 mw ((kpC nv (lwX (rb 0) (rb 1)) (lwZ (rb 0) (rb 1)) : Nat) : Int) mg ma mb (ns : Int) mlo mhi (nw : Int) mwe mru mrd, aL cL mw 160 (wkA rk), aI cI mg 100 (sgA (kpS sg nv (zs (lwX (rb 0) (rb 1)) (-1)) (lwX (rb 0) (rb 1)) (lwZ (rb 0) (rb 1)))), aL cL ma 800 (moA (kpU up nv (lwX (rb 0) (rb 1)) (lwX (rb 0) (rb 1)) (lwZ (rb 0) (rb 1)))), aL cL mb 800 (moA (kpU dn nv (lwZ (rb 0) (rb 1)) (lwX (rb 0) (rb 1)) (lwZ (rb 0) (rb 1))))]
                    have hS : zs (lwX (Int.natAbs x0) (Int.natAbs y0)) (-1) = cmpZ x0 0 * cmpZ y0 0 := by
                      rw [zs_lw hDp]
                      unfold zs cmpZ
                      split <;> split <;> (try split) <;> (try split) <;> (try split) <;> (try split) <;> omega
                    exact z_iret (w := [oM mo 0 mw ((kpC nv (lwX (rb 0) (rb 1)) (lwZ (rb 0) (rb 1)) : Nat) : Int) mg ma mb (ns : Int) mlo mhi (nw : Int) mwe mru mrd, aL cL mw 160 (wkA rk), aI cI mg 100 (sgA (kpS sg nv (zs (lwX (rb 0) (rb 1)) (-1)) (lwX (rb 0) (rb 1)) (lwZ (rb 0) (rb 1)))), aL cL ma 800 (moA (kpU up nv (lwX (rb 0) (rb 1)) (lwX (rb 0) (rb 1)) (lwZ (rb 0) (rb 1)))), aL cL mb 800 (moA (kpU dn nv (lwZ (rb 0) (rb 1)) (lwX (rb 0) (rb 1)) (lwZ (rb 0) (rb 1))))]) S hr hlo hAe d_M_value_96 [0, 1, 2, 3, 4] (by decide) rfl rfl ⟨Nat.le_refl _, Nat.le_refl _⟩ (⟨rk, by rw [sk0, sk1], by rw [sk0, sk1, hS]⟩)
                · skip
                  refine z_iconst S d_M_value_76 ?_
                  refine z_goto (tgt := 81) S d_M_value_77 (by decide) ?_
                  refine z_lload_n S d_M_value_81 2 rfl ?_
                  refine z_lconst (z := 0) S d_M_value_82 rfl ?_
                  refine z_lcmp_ge (tgt := 91) S d_M_value_83 d_M_value_84 (by decide) (by omega) (by omega) (fun c21 => ?_) (fun c21 => ?_)
                  · skip
                    refine z_iconst S d_M_value_91 ?_
                    refine z_imul S d_M_value_92 ?_
                    refine z_toi (a := (-1)) rfl ?_
                    refine z_callVa (As := [.int (zI (-1))]) (st := []) (wc := [oM mo 0 mw (nv : Int) mg ma mb (ns : Int) mlo mhi (nw : Int) mwe mru mrd, aL cL mw 160 (wkA rb), aI cI mg 100 (sgA sg), aL cL ma 800 (moA up), aL cL mb 800 (moA dn)]) (wr := []) S hGok hK hg hA (s_M_keep l dC dI cI cL qT mo mw nv ma mb ns mlo mhi nw mwe mru mrd 0 mg rb sg up dn (-1) (by omega) (by rw [sk0]; omega) (by rw [sk1]; omega) (by rw [sk1]; exact hDp) (by omega)) (zcwV S (List.mem_cons_of_mem _ k_M_122) mV_M_keep k_M_122 hd_M_keep rfl rfl ⟨Nat.le_of_ble_eq_true rfl, Nat.le_of_ble_eq_true rfl⟩) rfl (Nat.le_of_ble_eq_true rfl) d_M_value_93 ⟨Nat.le_of_ble_eq_true rfl, Nat.le_of_ble_eq_true rfl⟩ rfl [3, 4, 0, 1, 2] [] 3 rfl rfl rfl (by decide) rfl rfl rfl (by decide) (by decide) (fun x w hp => ?_)
                    obtain ⟨rk, rfl, rfl⟩ := hp
                    show ZZ _ _ _ _ _ _ _ _ _ _ _ _ _ _ _ _ _ _ 96 [(0, .ref mo), (1, .long (zL x0)), (3, .long (zL y0))] [.int (zI (kpR nv (lwX (rb 0) (rb 1)) (lwZ (rb 0) (rb 1))))] [oM mo 0 mw ((kpC nv (lwX (rb 0) (rb 1)) (lwZ (rb 0) (rb 1)) : Nat) : Int) mg ma mb (ns : Int) mlo mhi (nw : Int) mwe mru mrd, aL cL mw 160 (wkA rk), aI cI mg 100 (sgA (kpS sg nv (zs (lwX (rb 0) (rb 1)) (-1)) (lwX (rb 0) (rb 1)) (lwZ (rb 0) (rb 1)))), aL cL ma 800 (moA (kpU up nv (lwX (rb 0) (rb 1)) (lwX (rb 0) (rb 1)) (lwZ (rb 0) (rb 1)))), aL cL mb 800 (moA (kpU dn nv (lwZ (rb 0) (rb 1)) (lwX (rb 0) (rb 1)) (lwZ (rb 0) (rb 1))))]
                    have hS : zs (lwX (Int.natAbs x0) (Int.natAbs y0)) (-1) = cmpZ x0 0 * cmpZ y0 0 := by
                      rw [zs_lw hDp]
                      unfold zs cmpZ
                      split <;> split <;> (try split) <;> (try split) <;> (try split) <;> (try split) <;> omega
                    exact z_iret (w := [oM mo 0 mw ((kpC nv (lwX (rb 0) (rb 1)) (lwZ (rb 0) (rb 1)) : Nat) : Int) mg ma mb (ns : Int) mlo mhi (nw : Int) mwe mru mrd, aL cL mw 160 (wkA rk), aI cI mg 100 (sgA (kpS sg nv (zs (lwX (rb 0) (rb 1)) (-1)) (lwX (rb 0) (rb 1)) (lwZ (rb 0) (rb 1)))), aL cL ma 800 (moA (kpU up nv (lwX (rb 0) (rb 1)) (lwX (rb 0) (rb 1)) (lwZ (rb 0) (rb 1)))), aL cL mb 800 (moA (kpU dn nv (lwZ (rb 0) (rb 1)) (lwX (rb 0) (rb 1)) (lwZ (rb 0) (rb 1))))]) S hr hlo hAe d_M_value_96 [0, 1, 2, 3, 4] (by decide) rfl rfl ⟨Nat.le_refl _, Nat.le_refl _⟩ (⟨rk, by rw [sk0, sk1], by rw [sk0, sk1, hS]⟩)
                  · skip
                    refine z_iconst S d_M_value_87 ?_
                    refine z_goto (tgt := 92) S d_M_value_88 (by decide) ?_
                    refine z_imul S d_M_value_92 ?_
                    refine z_toi (a := 1) rfl ?_
                    refine z_callVa (As := [.int (zI 1)]) (st := []) (wc := [oM mo 0 mw (nv : Int) mg ma mb (ns : Int) mlo mhi (nw : Int) mwe mru mrd, aL cL mw 160 (wkA rb), aI cI mg 100 (sgA sg), aL cL ma 800 (moA up), aL cL mb 800 (moA dn)]) (wr := []) S hGok hK hg hA (s_M_keep l dC dI cI cL qT mo mw nv ma mb ns mlo mhi nw mwe mru mrd 0 mg rb sg up dn 1 (by omega) (by rw [sk0]; omega) (by rw [sk1]; omega) (by rw [sk1]; exact hDp) (by omega)) (zcwV S (List.mem_cons_of_mem _ k_M_122) mV_M_keep k_M_122 hd_M_keep rfl rfl ⟨Nat.le_of_ble_eq_true rfl, Nat.le_of_ble_eq_true rfl⟩) rfl (Nat.le_of_ble_eq_true rfl) d_M_value_93 ⟨Nat.le_of_ble_eq_true rfl, Nat.le_of_ble_eq_true rfl⟩ rfl [3, 4, 0, 1, 2] [] 3 rfl rfl rfl (by decide) rfl rfl rfl (by decide) (by decide) (fun x w hp => ?_)
                    obtain ⟨rk, rfl, rfl⟩ := hp
                    show ZZ _ _ _ _ _ _ _ _ _ _ _ _ _ _ _ _ _ _ 96 [(0, .ref mo), (1, .long (zL x0)), (3, .long (zL y0))] [.int (zI (kpR nv (lwX (rb 0) (rb 1)) (lwZ (rb 0) (rb 1))))] [oM mo 0 mw ((kpC nv (lwX (rb 0) (rb 1)) (lwZ (rb 0) (rb 1)) : Nat) : Int) mg ma mb (ns : Int) mlo mhi (nw : Int) mwe mru mrd, aL cL mw 160 (wkA rk), aI cI mg 100 (sgA (kpS sg nv (zs (lwX (rb 0) (rb 1)) 1) (lwX (rb 0) (rb 1)) (lwZ (rb 0) (rb 1)))), aL cL ma 800 (moA (kpU up nv (lwX (rb 0) (rb 1)) (lwX (rb 0) (rb 1)) (lwZ (rb 0) (rb 1)))), aL cL mb 800 (moA (kpU dn nv (lwZ (rb 0) (rb 1)) (lwX (rb 0) (rb 1)) (lwZ (rb 0) (rb 1))))]
                    have hS : zs (lwX (Int.natAbs x0) (Int.natAbs y0)) 1 = cmpZ x0 0 * cmpZ y0 0 := by
                      rw [zs_lw hDp]
                      unfold zs cmpZ
                      split <;> split <;> (try split) <;> (try split) <;> (try split) <;> (try split) <;> omega
                    exact z_iret (w := [oM mo 0 mw ((kpC nv (lwX (rb 0) (rb 1)) (lwZ (rb 0) (rb 1)) : Nat) : Int) mg ma mb (ns : Int) mlo mhi (nw : Int) mwe mru mrd, aL cL mw 160 (wkA rk), aI cI mg 100 (sgA (kpS sg nv (zs (lwX (rb 0) (rb 1)) 1) (lwX (rb 0) (rb 1)) (lwZ (rb 0) (rb 1)))), aL cL ma 800 (moA (kpU up nv (lwX (rb 0) (rb 1)) (lwX (rb 0) (rb 1)) (lwZ (rb 0) (rb 1)))), aL cL mb 800 (moA (kpU dn nv (lwZ (rb 0) (rb 1)) (lwX (rb 0) (rb 1)) (lwZ (rb 0) (rb 1))))]) S hr hlo hAe d_M_value_96 [0, 1, 2, 3, 4] (by decide) rfl rfl ⟨Nat.le_refl _, Nat.le_refl _⟩ (⟨rk, by rw [sk0, sk1], by rw [sk0, sk1, hS]⟩)
              · skip
                refine z_tol (a := ((Int.natAbs y0 : Nat) : Int)) (zL_c (by omega)) ?_
                refine z_callVv (As := [.int (zI 1), .long (zL ((Int.natAbs y0 : Nat) : Int))]) (st := []) (wc := [oM mo 0 mw (nv : Int) mg ma mb (ns : Int) mlo mhi (nw : Int) mwe mru mrd, aL cL mw 160 (wkA ra)]) (wr := [aI cI mg 100 (sgA sg), aL cL ma 800 (moA up), aL cL mb 800 (moA dn)]) S hGok hK hg hA (s_M_set l dC dI cI cL qT mo mw nv ma mb ns mlo mhi nw mwe mru mrd 0 mg ra 1 (Int.natAbs y0) (by omega) (by omega)) (zcwV S (List.mem_cons_of_mem _ k_M_91) mV_M_set k_M_91 hd_M_set rfl rfl ⟨Nat.le_of_ble_eq_true rfl, Nat.le_of_ble_eq_true rfl⟩) rfl (Nat.le_of_ble_eq_true rfl) d_M_value_66 ⟨Nat.le_of_ble_eq_true rfl, Nat.le_of_ble_eq_true rfl⟩ rfl [3, 4] [0, 1, 2] 3 rfl rfl rfl (by decide) rfl rfl rfl (by decide) (by decide) (fun w hp => ?_)
                subst hp
                show ZZ _ _ _ _ _ _ _ _ _ _ _ _ _ _ _ _ _ _ 69 [(0, .ref mo), (1, .long (zL x0)), (3, .long (zL y0))] [] [aI cI mg 100 (sgA sg), aL cL ma 800 (moA up), aL cL mb 800 (moA dn), oM mo 0 mw (nv : Int) mg ma mb (ns : Int) mlo mhi (nw : Int) mwe mru mrd, aL cL mw 160 (wkA (un ra 1 (Int.natAbs y0)))]
                obtain ⟨rb, hrb, sk0, sk1⟩ : ∃ rb : Nat → Nat, rb = (un ra 1 (Int.natAbs y0)) ∧ rb 0 = Int.natAbs x0 ∧ rb 1 = Int.natAbs y0 := ⟨(un ra 1 (Int.natAbs y0)), rfl, a0, rfl⟩
                refine z_wq (ws' := [aI cI mg 100 (sgA sg), aL cL ma 800 (moA up), aL cL mb 800 (moA dn), oM mo 0 mw (nv : Int) mg ma mb (ns : Int) mlo mhi (nw : Int) mwe mru mrd, aL cL mw 160 (wkA rb)]) (by rw [hrb]) ?_
                refine z_aload_n S d_M_value_69 0 rfl ?_
                refine z_lload_n S d_M_value_70 1 rfl ?_
                refine z_lconst (z := 0) S d_M_value_71 rfl ?_
                refine z_lcmp_ge (tgt := 80) S d_M_value_72 d_M_value_73 (by decide) (by omega) (by omega) (fun c22 => ?_) (fun c22 => ?_)
                · skip
                  refine z_iconst S d_M_value_80 ?_
                  refine z_lload_n S d_M_value_81 2 rfl ?_
                  refine z_lconst (z := 0) S d_M_value_82 rfl ?_
                  refine z_lcmp_ge (tgt := 91) S d_M_value_83 d_M_value_84 (by decide) (by omega) (by omega) (fun c23 => ?_) (fun c23 => ?_)
                  · skip
                    refine z_iconst S d_M_value_91 ?_
                    refine z_imul S d_M_value_92 ?_
                    refine z_toi (a := 1) rfl ?_
                    refine z_callVa (As := [.int (zI 1)]) (st := []) (wc := [oM mo 0 mw (nv : Int) mg ma mb (ns : Int) mlo mhi (nw : Int) mwe mru mrd, aL cL mw 160 (wkA rb), aI cI mg 100 (sgA sg), aL cL ma 800 (moA up), aL cL mb 800 (moA dn)]) (wr := []) S hGok hK hg hA (s_M_keep l dC dI cI cL qT mo mw nv ma mb ns mlo mhi nw mwe mru mrd 0 mg rb sg up dn 1 (by omega) (by rw [sk0]; omega) (by rw [sk1]; omega) (by rw [sk1]; exact hDp) (by omega)) (zcwV S (List.mem_cons_of_mem _ k_M_122) mV_M_keep k_M_122 hd_M_keep rfl rfl ⟨Nat.le_of_ble_eq_true rfl, Nat.le_of_ble_eq_true rfl⟩) rfl (Nat.le_of_ble_eq_true rfl) d_M_value_93 ⟨Nat.le_of_ble_eq_true rfl, Nat.le_of_ble_eq_true rfl⟩ rfl [3, 4, 0, 1, 2] [] 3 rfl rfl rfl (by decide) rfl rfl rfl (by decide) (by decide) (fun x w hp => ?_)
                    obtain ⟨rk, rfl, rfl⟩ := hp
                    show ZZ _ _ _ _ _ _ _ _ _ _ _ _ _ _ _ _ _ _ 96 [(0, .ref mo), (1, .long (zL x0)), (3, .long (zL y0))] [.int (zI (kpR nv (lwX (rb 0) (rb 1)) (lwZ (rb 0) (rb 1))))] [oM mo 0 mw ((kpC nv (lwX (rb 0) (rb 1)) (lwZ (rb 0) (rb 1)) : Nat) : Int) mg ma mb (ns : Int) mlo mhi (nw : Int) mwe mru mrd, aL cL mw 160 (wkA rk), aI cI mg 100 (sgA (kpS sg nv (zs (lwX (rb 0) (rb 1)) 1) (lwX (rb 0) (rb 1)) (lwZ (rb 0) (rb 1)))), aL cL ma 800 (moA (kpU up nv (lwX (rb 0) (rb 1)) (lwX (rb 0) (rb 1)) (lwZ (rb 0) (rb 1)))), aL cL mb 800 (moA (kpU dn nv (lwZ (rb 0) (rb 1)) (lwX (rb 0) (rb 1)) (lwZ (rb 0) (rb 1))))]
                    have hS : zs (lwX (Int.natAbs x0) (Int.natAbs y0)) 1 = cmpZ x0 0 * cmpZ y0 0 := by
                      rw [zs_lw hDp]
                      unfold zs cmpZ
                      split <;> split <;> (try split) <;> (try split) <;> (try split) <;> (try split) <;> omega
                    exact z_iret (w := [oM mo 0 mw ((kpC nv (lwX (rb 0) (rb 1)) (lwZ (rb 0) (rb 1)) : Nat) : Int) mg ma mb (ns : Int) mlo mhi (nw : Int) mwe mru mrd, aL cL mw 160 (wkA rk), aI cI mg 100 (sgA (kpS sg nv (zs (lwX (rb 0) (rb 1)) 1) (lwX (rb 0) (rb 1)) (lwZ (rb 0) (rb 1)))), aL cL ma 800 (moA (kpU up nv (lwX (rb 0) (rb 1)) (lwX (rb 0) (rb 1)) (lwZ (rb 0) (rb 1)))), aL cL mb 800 (moA (kpU dn nv (lwZ (rb 0) (rb 1)) (lwX (rb 0) (rb 1)) (lwZ (rb 0) (rb 1))))]) S hr hlo hAe d_M_value_96 [0, 1, 2, 3, 4] (by decide) rfl rfl ⟨Nat.le_refl _, Nat.le_refl _⟩ (⟨rk, by rw [sk0, sk1], by rw [sk0, sk1, hS]⟩)
                  · skip
                    refine z_iconst S d_M_value_87 ?_
                    refine z_goto (tgt := 92) S d_M_value_88 (by decide) ?_
                    refine z_imul S d_M_value_92 ?_
                    refine z_toi (a := (-1)) rfl ?_
                    refine z_callVa (As := [.int (zI (-1))]) (st := []) (wc := [oM mo 0 mw (nv : Int) mg ma mb (ns : Int) mlo mhi (nw : Int) mwe mru mrd, aL cL mw 160 (wkA rb), aI cI mg 100 (sgA sg), aL cL ma 800 (moA up), aL cL mb 800 (moA dn)]) (wr := []) S hGok hK hg hA (s_M_keep l dC dI cI cL qT mo mw nv ma mb ns mlo mhi nw mwe mru mrd 0 mg rb sg up dn (-1) (by omega) (by rw [sk0]; omega) (by rw [sk1]; omega) (by rw [sk1]; exact hDp) (by omega)) (zcwV S (List.mem_cons_of_mem _ k_M_122) mV_M_keep k_M_122 hd_M_keep rfl rfl ⟨Nat.le_of_ble_eq_true rfl, Nat.le_of_ble_eq_true rfl⟩) rfl (Nat.le_of_ble_eq_true rfl) d_M_value_93 ⟨Nat.le_of_ble_eq_true rfl, Nat.le_of_ble_eq_true rfl⟩ rfl [3, 4, 0, 1, 2] [] 3 rfl rfl rfl (by decide) rfl rfl rfl (by decide) (by decide) (fun x w hp => ?_)
                    obtain ⟨rk, rfl, rfl⟩ := hp
                    show ZZ _ _ _ _ _ _ _ _ _ _ _ _ _ _ _ _ _ _ 96 [(0, .ref mo), (1, .long (zL x0)), (3, .long (zL y0))] [.int (zI (kpR nv (lwX (rb 0) (rb 1)) (lwZ (rb 0) (rb 1))))] [oM mo 0 mw ((kpC nv (lwX (rb 0) (rb 1)) (lwZ (rb 0) (rb 1)) : Nat) : Int) mg ma mb (ns : Int) mlo mhi (nw : Int) mwe mru mrd, aL cL mw 160 (wkA rk), aI cI mg 100 (sgA (kpS sg nv (zs (lwX (rb 0) (rb 1)) (-1)) (lwX (rb 0) (rb 1)) (lwZ (rb 0) (rb 1)))), aL cL ma 800 (moA (kpU up nv (lwX (rb 0) (rb 1)) (lwX (rb 0) (rb 1)) (lwZ (rb 0) (rb 1)))), aL cL mb 800 (moA (kpU dn nv (lwZ (rb 0) (rb 1)) (lwX (rb 0) (rb 1)) (lwZ (rb 0) (rb 1))))]
                    have hS : zs (lwX (Int.natAbs x0) (Int.natAbs y0)) (-1) = cmpZ x0 0 * cmpZ y0 0 := by
                      rw [zs_lw hDp]
                      unfold zs cmpZ
                      split <;> split <;> (try split) <;> (try split) <;> (try split) <;> (try split) <;> omega
                    exact z_iret (w := [oM mo 0 mw ((kpC nv (lwX (rb 0) (rb 1)) (lwZ (rb 0) (rb 1)) : Nat) : Int) mg ma mb (ns : Int) mlo mhi (nw : Int) mwe mru mrd, aL cL mw 160 (wkA rk), aI cI mg 100 (sgA (kpS sg nv (zs (lwX (rb 0) (rb 1)) (-1)) (lwX (rb 0) (rb 1)) (lwZ (rb 0) (rb 1)))), aL cL ma 800 (moA (kpU up nv (lwX (rb 0) (rb 1)) (lwX (rb 0) (rb 1)) (lwZ (rb 0) (rb 1)))), aL cL mb 800 (moA (kpU dn nv (lwZ (rb 0) (rb 1)) (lwX (rb 0) (rb 1)) (lwZ (rb 0) (rb 1))))]) S hr hlo hAe d_M_value_96 [0, 1, 2, 3, 4] (by decide) rfl rfl ⟨Nat.le_refl _, Nat.le_refl _⟩ (⟨rk, by rw [sk0, sk1], by rw [sk0, sk1, hS]⟩)
                · skip
                  refine z_iconst S d_M_value_76 ?_
                  refine z_goto (tgt := 81) S d_M_value_77 (by decide) ?_
                  refine z_lload_n S d_M_value_81 2 rfl ?_
                  refine z_lconst (z := 0) S d_M_value_82 rfl ?_
                  refine z_lcmp_ge (tgt := 91) S d_M_value_83 d_M_value_84 (by decide) (by omega) (by omega) (fun c24 => ?_) (fun c24 => ?_)
                  · skip
                    refine z_iconst S d_M_value_91 ?_
                    refine z_imul S d_M_value_92 ?_
                    refine z_toi (a := (-1)) rfl ?_
                    refine z_callVa (As := [.int (zI (-1))]) (st := []) (wc := [oM mo 0 mw (nv : Int) mg ma mb (ns : Int) mlo mhi (nw : Int) mwe mru mrd, aL cL mw 160 (wkA rb), aI cI mg 100 (sgA sg), aL cL ma 800 (moA up), aL cL mb 800 (moA dn)]) (wr := []) S hGok hK hg hA (s_M_keep l dC dI cI cL qT mo mw nv ma mb ns mlo mhi nw mwe mru mrd 0 mg rb sg up dn (-1) (by omega) (by rw [sk0]; omega) (by rw [sk1]; omega) (by rw [sk1]; exact hDp) (by omega)) (zcwV S (List.mem_cons_of_mem _ k_M_122) mV_M_keep k_M_122 hd_M_keep rfl rfl ⟨Nat.le_of_ble_eq_true rfl, Nat.le_of_ble_eq_true rfl⟩) rfl (Nat.le_of_ble_eq_true rfl) d_M_value_93 ⟨Nat.le_of_ble_eq_true rfl, Nat.le_of_ble_eq_true rfl⟩ rfl [3, 4, 0, 1, 2] [] 3 rfl rfl rfl (by decide) rfl rfl rfl (by decide) (by decide) (fun x w hp => ?_)
                    obtain ⟨rk, rfl, rfl⟩ := hp
                    show ZZ _ _ _ _ _ _ _ _ _ _ _ _ _ _ _ _ _ _ 96 [(0, .ref mo), (1, .long (zL x0)), (3, .long (zL y0))] [.int (zI (kpR nv (lwX (rb 0) (rb 1)) (lwZ (rb 0) (rb 1))))] [oM mo 0 mw ((kpC nv (lwX (rb 0) (rb 1)) (lwZ (rb 0) (rb 1)) : Nat) : Int) mg ma mb (ns : Int) mlo mhi (nw : Int) mwe mru mrd, aL cL mw 160 (wkA rk), aI cI mg 100 (sgA (kpS sg nv (zs (lwX (rb 0) (rb 1)) (-1)) (lwX (rb 0) (rb 1)) (lwZ (rb 0) (rb 1)))), aL cL ma 800 (moA (kpU up nv (lwX (rb 0) (rb 1)) (lwX (rb 0) (rb 1)) (lwZ (rb 0) (rb 1)))), aL cL mb 800 (moA (kpU dn nv (lwZ (rb 0) (rb 1)) (lwX (rb 0) (rb 1)) (lwZ (rb 0) (rb 1))))]
                    have hS : zs (lwX (Int.natAbs x0) (Int.natAbs y0)) (-1) = cmpZ x0 0 * cmpZ y0 0 := by
                      rw [zs_lw hDp]
                      unfold zs cmpZ
                      split <;> split <;> (try split) <;> (try split) <;> (try split) <;> (try split) <;> omega
                    exact z_iret (w := [oM mo 0 mw ((kpC nv (lwX (rb 0) (rb 1)) (lwZ (rb 0) (rb 1)) : Nat) : Int) mg ma mb (ns : Int) mlo mhi (nw : Int) mwe mru mrd, aL cL mw 160 (wkA rk), aI cI mg 100 (sgA (kpS sg nv (zs (lwX (rb 0) (rb 1)) (-1)) (lwX (rb 0) (rb 1)) (lwZ (rb 0) (rb 1)))), aL cL ma 800 (moA (kpU up nv (lwX (rb 0) (rb 1)) (lwX (rb 0) (rb 1)) (lwZ (rb 0) (rb 1)))), aL cL mb 800 (moA (kpU dn nv (lwZ (rb 0) (rb 1)) (lwX (rb 0) (rb 1)) (lwZ (rb 0) (rb 1))))]) S hr hlo hAe d_M_value_96 [0, 1, 2, 3, 4] (by decide) rfl rfl ⟨Nat.le_refl _, Nat.le_refl _⟩ (⟨rk, by rw [sk0, sk1], by rw [sk0, sk1, hS]⟩)
                  · skip
                    refine z_iconst S d_M_value_87 ?_
                    refine z_goto (tgt := 92) S d_M_value_88 (by decide) ?_
                    refine z_imul S d_M_value_92 ?_
                    refine z_toi (a := 1) rfl ?_
                    refine z_callVa (As := [.int (zI 1)]) (st := []) (wc := [oM mo 0 mw (nv : Int) mg ma mb (ns : Int) mlo mhi (nw : Int) mwe mru mrd, aL cL mw 160 (wkA rb), aI cI mg 100 (sgA sg), aL cL ma 800 (moA up), aL cL mb 800 (moA dn)]) (wr := []) S hGok hK hg hA (s_M_keep l dC dI cI cL qT mo mw nv ma mb ns mlo mhi nw mwe mru mrd 0 mg rb sg up dn 1 (by omega) (by rw [sk0]; omega) (by rw [sk1]; omega) (by rw [sk1]; exact hDp) (by omega)) (zcwV S (List.mem_cons_of_mem _ k_M_122) mV_M_keep k_M_122 hd_M_keep rfl rfl ⟨Nat.le_of_ble_eq_true rfl, Nat.le_of_ble_eq_true rfl⟩) rfl (Nat.le_of_ble_eq_true rfl) d_M_value_93 ⟨Nat.le_of_ble_eq_true rfl, Nat.le_of_ble_eq_true rfl⟩ rfl [3, 4, 0, 1, 2] [] 3 rfl rfl rfl (by decide) rfl rfl rfl (by decide) (by decide) (fun x w hp => ?_)
                    obtain ⟨rk, rfl, rfl⟩ := hp
                    show ZZ _ _ _ _ _ _ _ _ _ _ _ _ _ _ _ _ _ _ 96 [(0, .ref mo), (1, .long (zL x0)), (3, .long (zL y0))] [.int (zI (kpR nv (lwX (rb 0) (rb 1)) (lwZ (rb 0) (rb 1))))] [oM mo 0 mw ((kpC nv (lwX (rb 0) (rb 1)) (lwZ (rb 0) (rb 1)) : Nat) : Int) mg ma mb (ns : Int) mlo mhi (nw : Int) mwe mru mrd, aL cL mw 160 (wkA rk), aI cI mg 100 (sgA (kpS sg nv (zs (lwX (rb 0) (rb 1)) 1) (lwX (rb 0) (rb 1)) (lwZ (rb 0) (rb 1)))), aL cL ma 800 (moA (kpU up nv (lwX (rb 0) (rb 1)) (lwX (rb 0) (rb 1)) (lwZ (rb 0) (rb 1)))), aL cL mb 800 (moA (kpU dn nv (lwZ (rb 0) (rb 1)) (lwX (rb 0) (rb 1)) (lwZ (rb 0) (rb 1))))]
                    have hS : zs (lwX (Int.natAbs x0) (Int.natAbs y0)) 1 = cmpZ x0 0 * cmpZ y0 0 := by
                      rw [zs_lw hDp]
                      unfold zs cmpZ
                      split <;> split <;> (try split) <;> (try split) <;> (try split) <;> (try split) <;> omega
                    exact z_iret (w := [oM mo 0 mw ((kpC nv (lwX (rb 0) (rb 1)) (lwZ (rb 0) (rb 1)) : Nat) : Int) mg ma mb (ns : Int) mlo mhi (nw : Int) mwe mru mrd, aL cL mw 160 (wkA rk), aI cI mg 100 (sgA (kpS sg nv (zs (lwX (rb 0) (rb 1)) 1) (lwX (rb 0) (rb 1)) (lwZ (rb 0) (rb 1)))), aL cL ma 800 (moA (kpU up nv (lwX (rb 0) (rb 1)) (lwX (rb 0) (rb 1)) (lwZ (rb 0) (rb 1)))), aL cL mb 800 (moA (kpU dn nv (lwZ (rb 0) (rb 1)) (lwX (rb 0) (rb 1)) (lwZ (rb 0) (rb 1))))]) S hr hlo hAe d_M_value_96 [0, 1, 2, 3, 4] (by decide) rfl rfl ⟨Nat.le_refl _, Nat.le_refl _⟩ (⟨rk, by rw [sk0, sk1], by rw [sk0, sk1, hS]⟩)
          · skip
            refine z_tol (a := ((Int.natAbs x0 : Nat) : Int)) (zL_c (by omega)) ?_
            refine z_callVv (As := [.int (zI 0), .long (zL ((Int.natAbs x0 : Nat) : Int))]) (st := []) (wc := [oM mo 0 mw (nv : Int) mg ma mb (ns : Int) mlo mhi (nw : Int) mwe mru mrd, aL cL mw 160 (wkA rr)]) (wr := [aI cI mg 100 (sgA sg), aL cL ma 800 (moA up), aL cL mb 800 (moA dn)]) S hGok hK hg hA (s_M_set l dC dI cI cL qT mo mw nv ma mb ns mlo mhi nw mwe mru mrd 0 mg rr 0 (Int.natAbs x0) (by omega) (by omega)) (zcwV S (List.mem_cons_of_mem _ k_M_91) mV_M_set k_M_91 hd_M_set rfl rfl ⟨Nat.le_of_ble_eq_true rfl, Nat.le_of_ble_eq_true rfl⟩) rfl (Nat.le_of_ble_eq_true rfl) d_M_value_49 ⟨Nat.le_of_ble_eq_true rfl, Nat.le_of_ble_eq_true rfl⟩ rfl [4, 0] [1, 2, 3] 4 rfl rfl rfl (by decide) rfl rfl rfl (by decide) (by decide) (fun w hp => ?_)
            subst hp
            show ZZ _ _ _ _ _ _ _ _ _ _ _ _ _ _ _ _ _ _ 52 [(0, .ref mo), (1, .long (zL x0)), (3, .long (zL y0))] [] [aI cI mg 100 (sgA sg), aL cL ma 800 (moA up), aL cL mb 800 (moA dn), oM mo 0 mw (nv : Int) mg ma mb (ns : Int) mlo mhi (nw : Int) mwe mru mrd, aL cL mw 160 (wkA (un rr 0 (Int.natAbs x0)))]
            obtain ⟨ra, hra, a0⟩ : ∃ ra : Nat → Nat, ra = (un rr 0 (Int.natAbs x0)) ∧ ra 0 = Int.natAbs x0 := ⟨(un rr 0 (Int.natAbs x0)), rfl, rfl⟩
            refine z_wq (ws' := [aI cI mg 100 (sgA sg), aL cL ma 800 (moA up), aL cL mb 800 (moA dn), oM mo 0 mw (nv : Int) mg ma mb (ns : Int) mlo mhi (nw : Int) mwe mru mrd, aL cL mw 160 (wkA ra)]) (by rw [hra]) ?_
            refine z_aload_n S d_M_value_52 0 rfl ?_
            refine z_iconst S d_M_value_53 ?_
            refine z_lload_n S d_M_value_54 2 rfl ?_
            refine z_lconst (z := 0) S d_M_value_55 rfl ?_
            refine z_lcmp_ge (tgt := 65) S d_M_value_56 d_M_value_57 (by decide) (by omega) (by omega) (fun c25 => ?_) (fun c25 => ?_)
            · skip
              refine z_lload_n S d_M_value_65 2 rfl ?_
              refine z_tol (a := ((Int.natAbs y0 : Nat) : Int)) (zL_c (by omega)) ?_
              refine z_callVv (As := [.int (zI 1), .long (zL ((Int.natAbs y0 : Nat) : Int))]) (st := []) (wc := [oM mo 0 mw (nv : Int) mg ma mb (ns : Int) mlo mhi (nw : Int) mwe mru mrd, aL cL mw 160 (wkA ra)]) (wr := [aI cI mg 100 (sgA sg), aL cL ma 800 (moA up), aL cL mb 800 (moA dn)]) S hGok hK hg hA (s_M_set l dC dI cI cL qT mo mw nv ma mb ns mlo mhi nw mwe mru mrd 0 mg ra 1 (Int.natAbs y0) (by omega) (by omega)) (zcwV S (List.mem_cons_of_mem _ k_M_91) mV_M_set k_M_91 hd_M_set rfl rfl ⟨Nat.le_of_ble_eq_true rfl, Nat.le_of_ble_eq_true rfl⟩) rfl (Nat.le_of_ble_eq_true rfl) d_M_value_66 ⟨Nat.le_of_ble_eq_true rfl, Nat.le_of_ble_eq_true rfl⟩ rfl [3, 4] [0, 1, 2] 3 rfl rfl rfl (by decide) rfl rfl rfl (by decide) (by decide) (fun w hp => ?_)
              subst hp
              show ZZ _ _ _ _ _ _ _ _ _ _ _ _ _ _ _ _ _ _ 69 [(0, .ref mo), (1, .long (zL x0)), (3, .long (zL y0))] [] [aI cI mg 100 (sgA sg), aL cL ma 800 (moA up), aL cL mb 800 (moA dn), oM mo 0 mw (nv : Int) mg ma mb (ns : Int) mlo mhi (nw : Int) mwe mru mrd, aL cL mw 160 (wkA (un ra 1 (Int.natAbs y0)))]
              obtain ⟨rb, hrb, sk0, sk1⟩ : ∃ rb : Nat → Nat, rb = (un ra 1 (Int.natAbs y0)) ∧ rb 0 = Int.natAbs x0 ∧ rb 1 = Int.natAbs y0 := ⟨(un ra 1 (Int.natAbs y0)), rfl, a0, rfl⟩
              refine z_wq (ws' := [aI cI mg 100 (sgA sg), aL cL ma 800 (moA up), aL cL mb 800 (moA dn), oM mo 0 mw (nv : Int) mg ma mb (ns : Int) mlo mhi (nw : Int) mwe mru mrd, aL cL mw 160 (wkA rb)]) (by rw [hrb]) ?_
              refine z_aload_n S d_M_value_69 0 rfl ?_
              refine z_lload_n S d_M_value_70 1 rfl ?_
              refine z_lconst (z := 0) S d_M_value_71 rfl ?_
              refine z_lcmp_ge (tgt := 80) S d_M_value_72 d_M_value_73 (by decide) (by omega) (by omega) (fun c26 => ?_) (fun c26 => ?_)
              · skip
                refine z_iconst S d_M_value_80 ?_
                refine z_lload_n S d_M_value_81 2 rfl ?_
                refine z_lconst (z := 0) S d_M_value_82 rfl ?_
                refine z_lcmp_ge (tgt := 91) S d_M_value_83 d_M_value_84 (by decide) (by omega) (by omega) (fun c27 => ?_) (fun c27 => ?_)
                · skip
                  refine z_iconst S d_M_value_91 ?_
                  refine z_imul S d_M_value_92 ?_
                  refine z_toi (a := 1) rfl ?_
                  refine z_callVa (As := [.int (zI 1)]) (st := []) (wc := [oM mo 0 mw (nv : Int) mg ma mb (ns : Int) mlo mhi (nw : Int) mwe mru mrd, aL cL mw 160 (wkA rb), aI cI mg 100 (sgA sg), aL cL ma 800 (moA up), aL cL mb 800 (moA dn)]) (wr := []) S hGok hK hg hA (s_M_keep l dC dI cI cL qT mo mw nv ma mb ns mlo mhi nw mwe mru mrd 0 mg rb sg up dn 1 (by omega) (by rw [sk0]; omega) (by rw [sk1]; omega) (by rw [sk1]; exact hDp) (by omega)) (zcwV S (List.mem_cons_of_mem _ k_M_122) mV_M_keep k_M_122 hd_M_keep rfl rfl ⟨Nat.le_of_ble_eq_true rfl, Nat.le_of_ble_eq_true rfl⟩) rfl (Nat.le_of_ble_eq_true rfl) d_M_value_93 ⟨Nat.le_of_ble_eq_true rfl, Nat.le_of_ble_eq_true rfl⟩ rfl [3, 4, 0, 1, 2] [] 3 rfl rfl rfl (by decide) rfl rfl rfl (by decide) (by decide) (fun x w hp => ?_)
                  obtain ⟨rk, rfl, rfl⟩ := hp
                  show ZZ _ _ _ _ _ _ _ _ _ _ _ _ _ _ _ _ _ _ 96 [(0, .ref mo), (1, .long (zL x0)), (3, .long (zL y0))] [.int (zI (kpR nv (lwX (rb 0) (rb 1)) (lwZ (rb 0) (rb 1))))] [oM mo 0 mw ((kpC nv (lwX (rb 0) (rb 1)) (lwZ (rb 0) (rb 1)) : Nat) : Int) mg ma mb (ns : Int) mlo mhi (nw : Int) mwe mru mrd, aL cL mw 160 (wkA rk), aI cI mg 100 (sgA (kpS sg nv (zs (lwX (rb 0) (rb 1)) 1) (lwX (rb 0) (rb 1)) (lwZ (rb 0) (rb 1)))), aL cL ma 800 (moA (kpU up nv (lwX (rb 0) (rb 1)) (lwX (rb 0) (rb 1)) (lwZ (rb 0) (rb 1)))), aL cL mb 800 (moA (kpU dn nv (lwZ (rb 0) (rb 1)) (lwX (rb 0) (rb 1)) (lwZ (rb 0) (rb 1))))]
                  have hS : zs (lwX (Int.natAbs x0) (Int.natAbs y0)) 1 = cmpZ x0 0 * cmpZ y0 0 := by
                    rw [zs_lw hDp]
                    unfold zs cmpZ
                    split <;> split <;> (try split) <;> (try split) <;> (try split) <;> (try split) <;> omega
                  exact z_iret (w := [oM mo 0 mw ((kpC nv (lwX (rb 0) (rb 1)) (lwZ (rb 0) (rb 1)) : Nat) : Int) mg ma mb (ns : Int) mlo mhi (nw : Int) mwe mru mrd, aL cL mw 160 (wkA rk), aI cI mg 100 (sgA (kpS sg nv (zs (lwX (rb 0) (rb 1)) 1) (lwX (rb 0) (rb 1)) (lwZ (rb 0) (rb 1)))), aL cL ma 800 (moA (kpU up nv (lwX (rb 0) (rb 1)) (lwX (rb 0) (rb 1)) (lwZ (rb 0) (rb 1)))), aL cL mb 800 (moA (kpU dn nv (lwZ (rb 0) (rb 1)) (lwX (rb 0) (rb 1)) (lwZ (rb 0) (rb 1))))]) S hr hlo hAe d_M_value_96 [0, 1, 2, 3, 4] (by decide) rfl rfl ⟨Nat.le_refl _, Nat.le_refl _⟩ (⟨rk, by rw [sk0, sk1], by rw [sk0, sk1, hS]⟩)
                · skip
                  refine z_iconst S d_M_value_87 ?_
                  refine z_goto (tgt := 92) S d_M_value_88 (by decide) ?_
                  refine z_imul S d_M_value_92 ?_
                  refine z_toi (a := (-1)) rfl ?_
                  refine z_callVa (As := [.int (zI (-1))]) (st := []) (wc := [oM mo 0 mw (nv : Int) mg ma mb (ns : Int) mlo mhi (nw : Int) mwe mru mrd, aL cL mw 160 (wkA rb), aI cI mg 100 (sgA sg), aL cL ma 800 (moA up), aL cL mb 800 (moA dn)]) (wr := []) S hGok hK hg hA (s_M_keep l dC dI cI cL qT mo mw nv ma mb ns mlo mhi nw mwe mru mrd 0 mg rb sg up dn (-1) (by omega) (by rw [sk0]; omega) (by rw [sk1]; omega) (by rw [sk1]; exact hDp) (by omega)) (zcwV S (List.mem_cons_of_mem _ k_M_122) mV_M_keep k_M_122 hd_M_keep rfl rfl ⟨Nat.le_of_ble_eq_true rfl, Nat.le_of_ble_eq_true rfl⟩) rfl (Nat.le_of_ble_eq_true rfl) d_M_value_93 ⟨Nat.le_of_ble_eq_true rfl, Nat.le_of_ble_eq_true rfl⟩ rfl [3, 4, 0, 1, 2] [] 3 rfl rfl rfl (by decide) rfl rfl rfl (by decide) (by decide) (fun x w hp => ?_)
                  obtain ⟨rk, rfl, rfl⟩ := hp
                  show ZZ _ _ _ _ _ _ _ _ _ _ _ _ _ _ _ _ _ _ 96 [(0, .ref mo), (1, .long (zL x0)), (3, .long (zL y0))] [.int (zI (kpR nv (lwX (rb 0) (rb 1)) (lwZ (rb 0) (rb 1))))] [oM mo 0 mw ((kpC nv (lwX (rb 0) (rb 1)) (lwZ (rb 0) (rb 1)) : Nat) : Int) mg ma mb (ns : Int) mlo mhi (nw : Int) mwe mru mrd, aL cL mw 160 (wkA rk), aI cI mg 100 (sgA (kpS sg nv (zs (lwX (rb 0) (rb 1)) (-1)) (lwX (rb 0) (rb 1)) (lwZ (rb 0) (rb 1)))), aL cL ma 800 (moA (kpU up nv (lwX (rb 0) (rb 1)) (lwX (rb 0) (rb 1)) (lwZ (rb 0) (rb 1)))), aL cL mb 800 (moA (kpU dn nv (lwZ (rb 0) (rb 1)) (lwX (rb 0) (rb 1)) (lwZ (rb 0) (rb 1))))]
                  have hS : zs (lwX (Int.natAbs x0) (Int.natAbs y0)) (-1) = cmpZ x0 0 * cmpZ y0 0 := by
                    rw [zs_lw hDp]
                    unfold zs cmpZ
                    split <;> split <;> (try split) <;> (try split) <;> (try split) <;> (try split) <;> omega
                  exact z_iret (w := [oM mo 0 mw ((kpC nv (lwX (rb 0) (rb 1)) (lwZ (rb 0) (rb 1)) : Nat) : Int) mg ma mb (ns : Int) mlo mhi (nw : Int) mwe mru mrd, aL cL mw 160 (wkA rk), aI cI mg 100 (sgA (kpS sg nv (zs (lwX (rb 0) (rb 1)) (-1)) (lwX (rb 0) (rb 1)) (lwZ (rb 0) (rb 1)))), aL cL ma 800 (moA (kpU up nv (lwX (rb 0) (rb 1)) (lwX (rb 0) (rb 1)) (lwZ (rb 0) (rb 1)))), aL cL mb 800 (moA (kpU dn nv (lwZ (rb 0) (rb 1)) (lwX (rb 0) (rb 1)) (lwZ (rb 0) (rb 1))))]) S hr hlo hAe d_M_value_96 [0, 1, 2, 3, 4] (by decide) rfl rfl ⟨Nat.le_refl _, Nat.le_refl _⟩ (⟨rk, by rw [sk0, sk1], by rw [sk0, sk1, hS]⟩)
              · skip
                refine z_iconst S d_M_value_76 ?_
                refine z_goto (tgt := 81) S d_M_value_77 (by decide) ?_
                refine z_lload_n S d_M_value_81 2 rfl ?_
                refine z_lconst (z := 0) S d_M_value_82 rfl ?_
                refine z_lcmp_ge (tgt := 91) S d_M_value_83 d_M_value_84 (by decide) (by omega) (by omega) (fun c28 => ?_) (fun c28 => ?_)
                · skip
                  refine z_iconst S d_M_value_91 ?_
                  refine z_imul S d_M_value_92 ?_
                  refine z_toi (a := (-1)) rfl ?_
                  refine z_callVa (As := [.int (zI (-1))]) (st := []) (wc := [oM mo 0 mw (nv : Int) mg ma mb (ns : Int) mlo mhi (nw : Int) mwe mru mrd, aL cL mw 160 (wkA rb), aI cI mg 100 (sgA sg), aL cL ma 800 (moA up), aL cL mb 800 (moA dn)]) (wr := []) S hGok hK hg hA (s_M_keep l dC dI cI cL qT mo mw nv ma mb ns mlo mhi nw mwe mru mrd 0 mg rb sg up dn (-1) (by omega) (by rw [sk0]; omega) (by rw [sk1]; omega) (by rw [sk1]; exact hDp) (by omega)) (zcwV S (List.mem_cons_of_mem _ k_M_122) mV_M_keep k_M_122 hd_M_keep rfl rfl ⟨Nat.le_of_ble_eq_true rfl, Nat.le_of_ble_eq_true rfl⟩) rfl (Nat.le_of_ble_eq_true rfl) d_M_value_93 ⟨Nat.le_of_ble_eq_true rfl, Nat.le_of_ble_eq_true rfl⟩ rfl [3, 4, 0, 1, 2] [] 3 rfl rfl rfl (by decide) rfl rfl rfl (by decide) (by decide) (fun x w hp => ?_)
                  obtain ⟨rk, rfl, rfl⟩ := hp
                  show ZZ _ _ _ _ _ _ _ _ _ _ _ _ _ _ _ _ _ _ 96 [(0, .ref mo), (1, .long (zL x0)), (3, .long (zL y0))] [.int (zI (kpR nv (lwX (rb 0) (rb 1)) (lwZ (rb 0) (rb 1))))] [oM mo 0 mw ((kpC nv (lwX (rb 0) (rb 1)) (lwZ (rb 0) (rb 1)) : Nat) : Int) mg ma mb (ns : Int) mlo mhi (nw : Int) mwe mru mrd, aL cL mw 160 (wkA rk), aI cI mg 100 (sgA (kpS sg nv (zs (lwX (rb 0) (rb 1)) (-1)) (lwX (rb 0) (rb 1)) (lwZ (rb 0) (rb 1)))), aL cL ma 800 (moA (kpU up nv (lwX (rb 0) (rb 1)) (lwX (rb 0) (rb 1)) (lwZ (rb 0) (rb 1)))), aL cL mb 800 (moA (kpU dn nv (lwZ (rb 0) (rb 1)) (lwX (rb 0) (rb 1)) (lwZ (rb 0) (rb 1))))]
                  have hS : zs (lwX (Int.natAbs x0) (Int.natAbs y0)) (-1) = cmpZ x0 0 * cmpZ y0 0 := by
                    rw [zs_lw hDp]
                    unfold zs cmpZ
                    split <;> split <;> (try split) <;> (try split) <;> (try split) <;> (try split) <;> omega
                  exact z_iret (w := [oM mo 0 mw ((kpC nv (lwX (rb 0) (rb 1)) (lwZ (rb 0) (rb 1)) : Nat) : Int) mg ma mb (ns : Int) mlo mhi (nw : Int) mwe mru mrd, aL cL mw 160 (wkA rk), aI cI mg 100 (sgA (kpS sg nv (zs (lwX (rb 0) (rb 1)) (-1)) (lwX (rb 0) (rb 1)) (lwZ (rb 0) (rb 1)))), aL cL ma 800 (moA (kpU up nv (lwX (rb 0) (rb 1)) (lwX (rb 0) (rb 1)) (lwZ (rb 0) (rb 1)))), aL cL mb 800 (moA (kpU dn nv (lwZ (rb 0) (rb 1)) (lwX (rb 0) (rb 1)) (lwZ (rb 0) (rb 1))))]) S hr hlo hAe d_M_value_96 [0, 1, 2, 3, 4] (by decide) rfl rfl ⟨Nat.le_refl _, Nat.le_refl _⟩ (⟨rk, by rw [sk0, sk1], by rw [sk0, sk1, hS]⟩)
                · skip
                  refine z_iconst S d_M_value_87 ?_
                  refine z_goto (tgt := 92) S d_M_value_88 (by decide) ?_
                  refine z_imul S d_M_value_92 ?_
                  refine z_toi (a := 1) rfl ?_
                  refine z_callVa (As := [.int (zI 1)]) (st := []) (wc := [oM mo 0 mw (nv : Int) mg ma mb (ns : Int) mlo mhi (nw : Int) mwe mru mrd, aL cL mw 160 (wkA rb), aI cI mg 100 (sgA sg), aL cL ma 800 (moA up), aL cL mb 800 (moA dn)]) (wr := []) S hGok hK hg hA (s_M_keep l dC dI cI cL qT mo mw nv ma mb ns mlo mhi nw mwe mru mrd 0 mg rb sg up dn 1 (by omega) (by rw [sk0]; omega) (by rw [sk1]; omega) (by rw [sk1]; exact hDp) (by omega)) (zcwV S (List.mem_cons_of_mem _ k_M_122) mV_M_keep k_M_122 hd_M_keep rfl rfl ⟨Nat.le_of_ble_eq_true rfl, Nat.le_of_ble_eq_true rfl⟩) rfl (Nat.le_of_ble_eq_true rfl) d_M_value_93 ⟨Nat.le_of_ble_eq_true rfl, Nat.le_of_ble_eq_true rfl⟩ rfl [3, 4, 0, 1, 2] [] 3 rfl rfl rfl (by decide) rfl rfl rfl (by decide) (by decide) (fun x w hp => ?_)
                  obtain ⟨rk, rfl, rfl⟩ := hp
                  show ZZ _ _ _ _ _ _ _ _ _ _ _ _ _ _ _ _ _ _ 96 [(0, .ref mo), (1, .long (zL x0)), (3, .long (zL y0))] [.int (zI (kpR nv (lwX (rb 0) (rb 1)) (lwZ (rb 0) (rb 1))))] [oM mo 0 mw ((kpC nv (lwX (rb 0) (rb 1)) (lwZ (rb 0) (rb 1)) : Nat) : Int) mg ma mb (ns : Int) mlo mhi (nw : Int) mwe mru mrd, aL cL mw 160 (wkA rk), aI cI mg 100 (sgA (kpS sg nv (zs (lwX (rb 0) (rb 1)) 1) (lwX (rb 0) (rb 1)) (lwZ (rb 0) (rb 1)))), aL cL ma 800 (moA (kpU up nv (lwX (rb 0) (rb 1)) (lwX (rb 0) (rb 1)) (lwZ (rb 0) (rb 1)))), aL cL mb 800 (moA (kpU dn nv (lwZ (rb 0) (rb 1)) (lwX (rb 0) (rb 1)) (lwZ (rb 0) (rb 1))))]
                  have hS : zs (lwX (Int.natAbs x0) (Int.natAbs y0)) 1 = cmpZ x0 0 * cmpZ y0 0 := by
                    rw [zs_lw hDp]
                    unfold zs cmpZ
                    split <;> split <;> (try split) <;> (try split) <;> (try split) <;> (try split) <;> omega
                  exact z_iret (w := [oM mo 0 mw ((kpC nv (lwX (rb 0) (rb 1)) (lwZ (rb 0) (rb 1)) : Nat) : Int) mg ma mb (ns : Int) mlo mhi (nw : Int) mwe mru mrd, aL cL mw 160 (wkA rk), aI cI mg 100 (sgA (kpS sg nv (zs (lwX (rb 0) (rb 1)) 1) (lwX (rb 0) (rb 1)) (lwZ (rb 0) (rb 1)))), aL cL ma 800 (moA (kpU up nv (lwX (rb 0) (rb 1)) (lwX (rb 0) (rb 1)) (lwZ (rb 0) (rb 1)))), aL cL mb 800 (moA (kpU dn nv (lwZ (rb 0) (rb 1)) (lwX (rb 0) (rb 1)) (lwZ (rb 0) (rb 1))))]) S hr hlo hAe d_M_value_96 [0, 1, 2, 3, 4] (by decide) rfl rfl ⟨Nat.le_refl _, Nat.le_refl _⟩ (⟨rk, by rw [sk0, sk1], by rw [sk0, sk1, hS]⟩)
            · skip
              refine z_lload_n S d_M_value_60 2 rfl ?_
              refine z_lneg S d_M_value_61 ?_
              refine z_goto (tgt := 66) S d_M_value_62 (by decide) ?_
              by_cases hm66 : y0 = -9223372036854775808
              · skip
                refine z_tol (a := (-9223372036854775808)) (by rw [hm66]; rfl) ?_
                refine z_callVv (As := [.int (zI 1), .long (zL (-9223372036854775808))]) (st := []) (wc := [oM mo 0 mw (nv : Int) mg ma mb (ns : Int) mlo mhi (nw : Int) mwe mru mrd, aL cL mw 160 (wkA ra)]) (wr := [aI cI mg 100 (sgA sg), aL cL ma 800 (moA up), aL cL mb 800 (moA dn)]) S hGok hK hg hA (s_M_setMin l dC dI cI cL qT mo mw nv ma mb ns mlo mhi nw mwe mru mrd 0 mg ra 1 (by omega)) (zcwV S (List.mem_cons_of_mem _ k_M_91) mV_M_set k_M_91 hd_M_set rfl rfl ⟨Nat.le_of_ble_eq_true rfl, Nat.le_of_ble_eq_true rfl⟩) rfl (Nat.le_of_ble_eq_true rfl) d_M_value_66 ⟨Nat.le_of_ble_eq_true rfl, Nat.le_of_ble_eq_true rfl⟩ rfl [3, 4] [0, 1, 2] 3 rfl rfl rfl (by decide) rfl rfl rfl (by decide) (by decide) (fun w hp => ?_)
                subst hp
                show ZZ _ _ _ _ _ _ _ _ _ _ _ _ _ _ _ _ _ _ 69 [(0, .ref mo), (1, .long (zL x0)), (3, .long (zL y0))] [] [aI cI mg 100 (sgA sg), aL cL ma 800 (moA up), aL cL mb 800 (moA dn), oM mo 0 mw (nv : Int) mg ma mb (ns : Int) mlo mhi (nw : Int) mwe mru mrd, aL cL mw 160 (wkA (un ra 1 9223372036854775808))]
                obtain ⟨rb, hrb, sk0, sk1⟩ : ∃ rb : Nat → Nat, rb = (un ra 1 9223372036854775808) ∧ rb 0 = Int.natAbs x0 ∧ rb 1 = Int.natAbs y0 := ⟨(un ra 1 9223372036854775808), rfl, a0, (show 9223372036854775808 = Int.natAbs y0 by omega)⟩
                refine z_wq (ws' := [aI cI mg 100 (sgA sg), aL cL ma 800 (moA up), aL cL mb 800 (moA dn), oM mo 0 mw (nv : Int) mg ma mb (ns : Int) mlo mhi (nw : Int) mwe mru mrd, aL cL mw 160 (wkA rb)]) (by rw [hrb]) ?_
                refine z_aload_n S d_M_value_69 0 rfl ?_
                refine z_lload_n S d_M_value_70 1 rfl ?_
                refine z_lconst (z := 0) S d_M_value_71 rfl ?_
                refine z_lcmp_ge (tgt := 80) S d_M_value_72 d_M_value_73 (by decide) (by omega) (by omega) (fun c29 => ?_) (fun c29 => ?_)
                · skip
                  refine z_iconst S d_M_value_80 ?_
                  refine z_lload_n S d_M_value_81 2 rfl ?_
                  refine z_lconst (z := 0) S d_M_value_82 rfl ?_
                  refine z_lcmp_ge (tgt := 91) S d_M_value_83 d_M_value_84 (by decide) (by omega) (by omega) (fun c30 => ?_) (fun c30 => ?_)
                  · skip
                    refine z_iconst S d_M_value_91 ?_
                    refine z_imul S d_M_value_92 ?_
                    refine z_toi (a := 1) rfl ?_
                    refine z_callVa (As := [.int (zI 1)]) (st := []) (wc := [oM mo 0 mw (nv : Int) mg ma mb (ns : Int) mlo mhi (nw : Int) mwe mru mrd, aL cL mw 160 (wkA rb), aI cI mg 100 (sgA sg), aL cL ma 800 (moA up), aL cL mb 800 (moA dn)]) (wr := []) S hGok hK hg hA (s_M_keep l dC dI cI cL qT mo mw nv ma mb ns mlo mhi nw mwe mru mrd 0 mg rb sg up dn 1 (by omega) (by rw [sk0]; omega) (by rw [sk1]; omega) (by rw [sk1]; exact hDp) (by omega)) (zcwV S (List.mem_cons_of_mem _ k_M_122) mV_M_keep k_M_122 hd_M_keep rfl rfl ⟨Nat.le_of_ble_eq_true rfl, Nat.le_of_ble_eq_true rfl⟩) rfl (Nat.le_of_ble_eq_true rfl) d_M_value_93 ⟨Nat.le_of_ble_eq_true rfl, Nat.le_of_ble_eq_true rfl⟩ rfl [3, 4, 0, 1, 2] [] 3 rfl rfl rfl (by decide) rfl rfl rfl (by decide) (by decide) (fun x w hp => ?_)
                    obtain ⟨rk, rfl, rfl⟩ := hp
                    show ZZ _ _ _ _ _ _ _ _ _ _ _ _ _ _ _ _ _ _ 96 [(0, .ref mo), (1, .long (zL x0)), (3, .long (zL y0))] [.int (zI (kpR nv (lwX (rb 0) (rb 1)) (lwZ (rb 0) (rb 1))))] [oM mo 0 mw ((kpC nv (lwX (rb 0) (rb 1)) (lwZ (rb 0) (rb 1)) : Nat) : Int) mg ma mb (ns : Int) mlo mhi (nw : Int) mwe mru mrd, aL cL mw 160 (wkA rk), aI cI mg 100 (sgA (kpS sg nv (zs (lwX (rb 0) (rb 1)) 1) (lwX (rb 0) (rb 1)) (lwZ (rb 0) (rb 1)))), aL cL ma 800 (moA (kpU up nv (lwX (rb 0) (rb 1)) (lwX (rb 0) (rb 1)) (lwZ (rb 0) (rb 1)))), aL cL mb 800 (moA (kpU dn nv (lwZ (rb 0) (rb 1)) (lwX (rb 0) (rb 1)) (lwZ (rb 0) (rb 1))))]
                    have hS : zs (lwX (Int.natAbs x0) (Int.natAbs y0)) 1 = cmpZ x0 0 * cmpZ y0 0 := by
                      rw [zs_lw hDp]
                      unfold zs cmpZ
                      split <;> split <;> (try split) <;> (try split) <;> (try split) <;> (try split) <;> omega
                    exact z_iret (w := [oM mo 0 mw ((kpC nv (lwX (rb 0) (rb 1)) (lwZ (rb 0) (rb 1)) : Nat) : Int) mg ma mb (ns : Int) mlo mhi (nw : Int) mwe mru mrd, aL cL mw 160 (wkA rk), aI cI mg 100 (sgA (kpS sg nv (zs (lwX (rb 0) (rb 1)) 1) (lwX (rb 0) (rb 1)) (lwZ (rb 0) (rb 1)))), aL cL ma 800 (moA (kpU up nv (lwX (rb 0) (rb 1)) (lwX (rb 0) (rb 1)) (lwZ (rb 0) (rb 1)))), aL cL mb 800 (moA (kpU dn nv (lwZ (rb 0) (rb 1)) (lwX (rb 0) (rb 1)) (lwZ (rb 0) (rb 1))))]) S hr hlo hAe d_M_value_96 [0, 1, 2, 3, 4] (by decide) rfl rfl ⟨Nat.le_refl _, Nat.le_refl _⟩ (⟨rk, by rw [sk0, sk1], by rw [sk0, sk1, hS]⟩)
                  · skip
                    refine z_iconst S d_M_value_87 ?_
                    refine z_goto (tgt := 92) S d_M_value_88 (by decide) ?_
                    refine z_imul S d_M_value_92 ?_
                    refine z_toi (a := (-1)) rfl ?_
                    refine z_callVa (As := [.int (zI (-1))]) (st := []) (wc := [oM mo 0 mw (nv : Int) mg ma mb (ns : Int) mlo mhi (nw : Int) mwe mru mrd, aL cL mw 160 (wkA rb), aI cI mg 100 (sgA sg), aL cL ma 800 (moA up), aL cL mb 800 (moA dn)]) (wr := []) S hGok hK hg hA (s_M_keep l dC dI cI cL qT mo mw nv ma mb ns mlo mhi nw mwe mru mrd 0 mg rb sg up dn (-1) (by omega) (by rw [sk0]; omega) (by rw [sk1]; omega) (by rw [sk1]; exact hDp) (by omega)) (zcwV S (List.mem_cons_of_mem _ k_M_122) mV_M_keep k_M_122 hd_M_keep rfl rfl ⟨Nat.le_of_ble_eq_true rfl, Nat.le_of_ble_eq_true rfl⟩) rfl (Nat.le_of_ble_eq_true rfl) d_M_value_93 ⟨Nat.le_of_ble_eq_true rfl, Nat.le_of_ble_eq_true rfl⟩ rfl [3, 4, 0, 1, 2] [] 3 rfl rfl rfl (by decide) rfl rfl rfl (by decide) (by decide) (fun x w hp => ?_)
                    obtain ⟨rk, rfl, rfl⟩ := hp
                    show ZZ _ _ _ _ _ _ _ _ _ _ _ _ _ _ _ _ _ _ 96 [(0, .ref mo), (1, .long (zL x0)), (3, .long (zL y0))] [.int (zI (kpR nv (lwX (rb 0) (rb 1)) (lwZ (rb 0) (rb 1))))] [oM mo 0 mw ((kpC nv (lwX (rb 0) (rb 1)) (lwZ (rb 0) (rb 1)) : Nat) : Int) mg ma mb (ns : Int) mlo mhi (nw : Int) mwe mru mrd, aL cL mw 160 (wkA rk), aI cI mg 100 (sgA (kpS sg nv (zs (lwX (rb 0) (rb 1)) (-1)) (lwX (rb 0) (rb 1)) (lwZ (rb 0) (rb 1)))), aL cL ma 800 (moA (kpU up nv (lwX (rb 0) (rb 1)) (lwX (rb 0) (rb 1)) (lwZ (rb 0) (rb 1)))), aL cL mb 800 (moA (kpU dn nv (lwZ (rb 0) (rb 1)) (lwX (rb 0) (rb 1)) (lwZ (rb 0) (rb 1))))]
                    have hS : zs (lwX (Int.natAbs x0) (Int.natAbs y0)) (-1) = cmpZ x0 0 * cmpZ y0 0 := by
                      rw [zs_lw hDp]
                      unfold zs cmpZ
                      split <;> split <;> (try split) <;> (try split) <;> (try split) <;> (try split) <;> omega
                    exact z_iret (w := [oM mo 0 mw ((kpC nv (lwX (rb 0) (rb 1)) (lwZ (rb 0) (rb 1)) : Nat) : Int) mg ma mb (ns : Int) mlo mhi (nw : Int) mwe mru mrd, aL cL mw 160 (wkA rk), aI cI mg 100 (sgA (kpS sg nv (zs (lwX (rb 0) (rb 1)) (-1)) (lwX (rb 0) (rb 1)) (lwZ (rb 0) (rb 1)))), aL cL ma 800 (moA (kpU up nv (lwX (rb 0) (rb 1)) (lwX (rb 0) (rb 1)) (lwZ (rb 0) (rb 1)))), aL cL mb 800 (moA (kpU dn nv (lwZ (rb 0) (rb 1)) (lwX (rb 0) (rb 1)) (lwZ (rb 0) (rb 1))))]) S hr hlo hAe d_M_value_96 [0, 1, 2, 3, 4] (by decide) rfl rfl ⟨Nat.le_refl _, Nat.le_refl _⟩ (⟨rk, by rw [sk0, sk1], by rw [sk0, sk1, hS]⟩)
                · skip
                  refine z_iconst S d_M_value_76 ?_
                  refine z_goto (tgt := 81) S d_M_value_77 (by decide) ?_
                  refine z_lload_n S d_M_value_81 2 rfl ?_
                  refine z_lconst (z := 0) S d_M_value_82 rfl ?_
                  refine z_lcmp_ge (tgt := 91) S d_M_value_83 d_M_value_84 (by decide) (by omega) (by omega) (fun c31 => ?_) (fun c31 => ?_)
                  · skip
                    refine z_iconst S d_M_value_91 ?_
                    refine z_imul S d_M_value_92 ?_
                    refine z_toi (a := (-1)) rfl ?_
                    refine z_callVa (As := [.int (zI (-1))]) (st := []) (wc := [oM mo 0 mw (nv : Int) mg ma mb (ns : Int) mlo mhi (nw : Int) mwe mru mrd, aL cL mw 160 (wkA rb), aI cI mg 100 (sgA sg), aL cL ma 800 (moA up), aL cL mb 800 (moA dn)]) (wr := []) S hGok hK hg hA (s_M_keep l dC dI cI cL qT mo mw nv ma mb ns mlo mhi nw mwe mru mrd 0 mg rb sg up dn (-1) (by omega) (by rw [sk0]; omega) (by rw [sk1]; omega) (by rw [sk1]; exact hDp) (by omega)) (zcwV S (List.mem_cons_of_mem _ k_M_122) mV_M_keep k_M_122 hd_M_keep rfl rfl ⟨Nat.le_of_ble_eq_true rfl, Nat.le_of_ble_eq_true rfl⟩) rfl (Nat.le_of_ble_eq_true rfl) d_M_value_93 ⟨Nat.le_of_ble_eq_true rfl, Nat.le_of_ble_eq_true rfl⟩ rfl [3, 4, 0, 1, 2] [] 3 rfl rfl rfl (by decide) rfl rfl rfl (by decide) (by decide) (fun x w hp => ?_)
                    obtain ⟨rk, rfl, rfl⟩ := hp
                    show ZZ _ _ _ _ _ _ _ _ _ _ _ _ _ _ _ _ _ _ 96 [(0, .ref mo), (1, .long (zL x0)), (3, .long (zL y0))] [.int (zI (kpR nv (lwX (rb 0) (rb 1)) (lwZ (rb 0) (rb 1))))] [oM mo 0 mw ((kpC nv (lwX (rb 0) (rb 1)) (lwZ (rb 0) (rb 1)) : Nat) : Int) mg ma mb (ns : Int) mlo mhi (nw : Int) mwe mru mrd, aL cL mw 160 (wkA rk), aI cI mg 100 (sgA (kpS sg nv (zs (lwX (rb 0) (rb 1)) (-1)) (lwX (rb 0) (rb 1)) (lwZ (rb 0) (rb 1)))), aL cL ma 800 (moA (kpU up nv (lwX (rb 0) (rb 1)) (lwX (rb 0) (rb 1)) (lwZ (rb 0) (rb 1)))), aL cL mb 800 (moA (kpU dn nv (lwZ (rb 0) (rb 1)) (lwX (rb 0) (rb 1)) (lwZ (rb 0) (rb 1))))]
                    have hS : zs (lwX (Int.natAbs x0) (Int.natAbs y0)) (-1) = cmpZ x0 0 * cmpZ y0 0 := by
                      rw [zs_lw hDp]
                      unfold zs cmpZ
                      split <;> split <;> (try split) <;> (try split) <;> (try split) <;> (try split) <;> omega
                    exact z_iret (w := [oM mo 0 mw ((kpC nv (lwX (rb 0) (rb 1)) (lwZ (rb 0) (rb 1)) : Nat) : Int) mg ma mb (ns : Int) mlo mhi (nw : Int) mwe mru mrd, aL cL mw 160 (wkA rk), aI cI mg 100 (sgA (kpS sg nv (zs (lwX (rb 0) (rb 1)) (-1)) (lwX (rb 0) (rb 1)) (lwZ (rb 0) (rb 1)))), aL cL ma 800 (moA (kpU up nv (lwX (rb 0) (rb 1)) (lwX (rb 0) (rb 1)) (lwZ (rb 0) (rb 1)))), aL cL mb 800 (moA (kpU dn nv (lwZ (rb 0) (rb 1)) (lwX (rb 0) (rb 1)) (lwZ (rb 0) (rb 1))))]) S hr hlo hAe d_M_value_96 [0, 1, 2, 3, 4] (by decide) rfl rfl ⟨Nat.le_refl _, Nat.le_refl _⟩ (⟨rk, by rw [sk0, sk1], by rw [sk0, sk1, hS]⟩)
                  · skip
                    refine z_iconst S d_M_value_87 ?_
                    refine z_goto (tgt := 92) S d_M_value_88 (by decide) ?_
                    refine z_imul S d_M_value_92 ?_
                    refine z_toi (a := 1) rfl ?_
                    refine z_callVa (As := [.int (zI 1)]) (st := []) (wc := [oM mo 0 mw (nv : Int) mg ma mb (ns : Int) mlo mhi (nw : Int) mwe mru mrd, aL cL mw 160 (wkA rb), aI cI mg 100 (sgA sg), aL cL ma 800 (moA up), aL cL mb 800 (moA dn)]) (wr := []) S hGok hK hg hA (s_M_keep l dC dI cI cL qT mo mw nv ma mb ns mlo mhi nw mwe mru mrd 0 mg rb sg up dn 1 (by omega) (by rw [sk0]; omega) (by rw [sk1]; omega) (by rw [sk1]; exact hDp) (by omega)) (zcwV S (List.mem_cons_of_mem _ k_M_122) mV_M_keep k_M_122 hd_M_keep rfl rfl ⟨Nat.le_of_ble_eq_true rfl, Nat.le_of_ble_eq_true rfl⟩) rfl (Nat.le_of_ble_eq_true rfl) d_M_value_93 ⟨Nat.le_of_ble_eq_true rfl, Nat.le_of_ble_eq_true rfl⟩ rfl [3, 4, 0, 1, 2] [] 3 rfl rfl rfl (by decide) rfl rfl rfl (by decide) (by decide) (fun x w hp => ?_)
                    obtain ⟨rk, rfl, rfl⟩ := hp
                    show ZZ _ _ _ _ _ _ _ _ _ _ _ _ _ _ _ _ _ _ 96 [(0, .ref mo), (1, .long (zL x0)), (3, .long (zL y0))] [.int (zI (kpR nv (lwX (rb 0) (rb 1)) (lwZ (rb 0) (rb 1))))] [oM mo 0 mw ((kpC nv (lwX (rb 0) (rb 1)) (lwZ (rb 0) (rb 1)) : Nat) : Int) mg ma mb (ns : Int) mlo mhi (nw : Int) mwe mru mrd, aL cL mw 160 (wkA rk), aI cI mg 100 (sgA (kpS sg nv (zs (lwX (rb 0) (rb 1)) 1) (lwX (rb 0) (rb 1)) (lwZ (rb 0) (rb 1)))), aL cL ma 800 (moA (kpU up nv (lwX (rb 0) (rb 1)) (lwX (rb 0) (rb 1)) (lwZ (rb 0) (rb 1)))), aL cL mb 800 (moA (kpU dn nv (lwZ (rb 0) (rb 1)) (lwX (rb 0) (rb 1)) (lwZ (rb 0) (rb 1))))]
                    have hS : zs (lwX (Int.natAbs x0) (Int.natAbs y0)) 1 = cmpZ x0 0 * cmpZ y0 0 := by
                      rw [zs_lw hDp]
                      unfold zs cmpZ
                      split <;> split <;> (try split) <;> (try split) <;> (try split) <;> (try split) <;> omega
                    exact z_iret (w := [oM mo 0 mw ((kpC nv (lwX (rb 0) (rb 1)) (lwZ (rb 0) (rb 1)) : Nat) : Int) mg ma mb (ns : Int) mlo mhi (nw : Int) mwe mru mrd, aL cL mw 160 (wkA rk), aI cI mg 100 (sgA (kpS sg nv (zs (lwX (rb 0) (rb 1)) 1) (lwX (rb 0) (rb 1)) (lwZ (rb 0) (rb 1)))), aL cL ma 800 (moA (kpU up nv (lwX (rb 0) (rb 1)) (lwX (rb 0) (rb 1)) (lwZ (rb 0) (rb 1)))), aL cL mb 800 (moA (kpU dn nv (lwZ (rb 0) (rb 1)) (lwX (rb 0) (rb 1)) (lwZ (rb 0) (rb 1))))]) S hr hlo hAe d_M_value_96 [0, 1, 2, 3, 4] (by decide) rfl rfl ⟨Nat.le_refl _, Nat.le_refl _⟩ (⟨rk, by rw [sk0, sk1], by rw [sk0, sk1, hS]⟩)
              · skip
                refine z_tol (a := ((Int.natAbs y0 : Nat) : Int)) (zL_c (by omega)) ?_
                refine z_callVv (As := [.int (zI 1), .long (zL ((Int.natAbs y0 : Nat) : Int))]) (st := []) (wc := [oM mo 0 mw (nv : Int) mg ma mb (ns : Int) mlo mhi (nw : Int) mwe mru mrd, aL cL mw 160 (wkA ra)]) (wr := [aI cI mg 100 (sgA sg), aL cL ma 800 (moA up), aL cL mb 800 (moA dn)]) S hGok hK hg hA (s_M_set l dC dI cI cL qT mo mw nv ma mb ns mlo mhi nw mwe mru mrd 0 mg ra 1 (Int.natAbs y0) (by omega) (by omega)) (zcwV S (List.mem_cons_of_mem _ k_M_91) mV_M_set k_M_91 hd_M_set rfl rfl ⟨Nat.le_of_ble_eq_true rfl, Nat.le_of_ble_eq_true rfl⟩) rfl (Nat.le_of_ble_eq_true rfl) d_M_value_66 ⟨Nat.le_of_ble_eq_true rfl, Nat.le_of_ble_eq_true rfl⟩ rfl [3, 4] [0, 1, 2] 3 rfl rfl rfl (by decide) rfl rfl rfl (by decide) (by decide) (fun w hp => ?_)
                subst hp
                show ZZ _ _ _ _ _ _ _ _ _ _ _ _ _ _ _ _ _ _ 69 [(0, .ref mo), (1, .long (zL x0)), (3, .long (zL y0))] [] [aI cI mg 100 (sgA sg), aL cL ma 800 (moA up), aL cL mb 800 (moA dn), oM mo 0 mw (nv : Int) mg ma mb (ns : Int) mlo mhi (nw : Int) mwe mru mrd, aL cL mw 160 (wkA (un ra 1 (Int.natAbs y0)))]
                obtain ⟨rb, hrb, sk0, sk1⟩ : ∃ rb : Nat → Nat, rb = (un ra 1 (Int.natAbs y0)) ∧ rb 0 = Int.natAbs x0 ∧ rb 1 = Int.natAbs y0 := ⟨(un ra 1 (Int.natAbs y0)), rfl, a0, rfl⟩
                refine z_wq (ws' := [aI cI mg 100 (sgA sg), aL cL ma 800 (moA up), aL cL mb 800 (moA dn), oM mo 0 mw (nv : Int) mg ma mb (ns : Int) mlo mhi (nw : Int) mwe mru mrd, aL cL mw 160 (wkA rb)]) (by rw [hrb]) ?_
                refine z_aload_n S d_M_value_69 0 rfl ?_
                refine z_lload_n S d_M_value_70 1 rfl ?_
                refine z_lconst (z := 0) S d_M_value_71 rfl ?_
                refine z_lcmp_ge (tgt := 80) S d_M_value_72 d_M_value_73 (by decide) (by omega) (by omega) (fun c32 => ?_) (fun c32 => ?_)
                · skip
                  refine z_iconst S d_M_value_80 ?_
                  refine z_lload_n S d_M_value_81 2 rfl ?_
                  refine z_lconst (z := 0) S d_M_value_82 rfl ?_
                  refine z_lcmp_ge (tgt := 91) S d_M_value_83 d_M_value_84 (by decide) (by omega) (by omega) (fun c33 => ?_) (fun c33 => ?_)
                  · skip
                    refine z_iconst S d_M_value_91 ?_
                    refine z_imul S d_M_value_92 ?_
                    refine z_toi (a := 1) rfl ?_
                    refine z_callVa (As := [.int (zI 1)]) (st := []) (wc := [oM mo 0 mw (nv : Int) mg ma mb (ns : Int) mlo mhi (nw : Int) mwe mru mrd, aL cL mw 160 (wkA rb), aI cI mg 100 (sgA sg), aL cL ma 800 (moA up), aL cL mb 800 (moA dn)]) (wr := []) S hGok hK hg hA (s_M_keep l dC dI cI cL qT mo mw nv ma mb ns mlo mhi nw mwe mru mrd 0 mg rb sg up dn 1 (by omega) (by rw [sk0]; omega) (by rw [sk1]; omega) (by rw [sk1]; exact hDp) (by omega)) (zcwV S (List.mem_cons_of_mem _ k_M_122) mV_M_keep k_M_122 hd_M_keep rfl rfl ⟨Nat.le_of_ble_eq_true rfl, Nat.le_of_ble_eq_true rfl⟩) rfl (Nat.le_of_ble_eq_true rfl) d_M_value_93 ⟨Nat.le_of_ble_eq_true rfl, Nat.le_of_ble_eq_true rfl⟩ rfl [3, 4, 0, 1, 2] [] 3 rfl rfl rfl (by decide) rfl rfl rfl (by decide) (by decide) (fun x w hp => ?_)
                    obtain ⟨rk, rfl, rfl⟩ := hp
                    show ZZ _ _ _ _ _ _ _ _ _ _ _ _ _ _ _ _ _ _ 96 [(0, .ref mo), (1, .long (zL x0)), (3, .long (zL y0))] [.int (zI (kpR nv (lwX (rb 0) (rb 1)) (lwZ (rb 0) (rb 1))))] [oM mo 0 mw ((kpC nv (lwX (rb 0) (rb 1)) (lwZ (rb 0) (rb 1)) : Nat) : Int) mg ma mb (ns : Int) mlo mhi (nw : Int) mwe mru mrd, aL cL mw 160 (wkA rk), aI cI mg 100 (sgA (kpS sg nv (zs (lwX (rb 0) (rb 1)) 1) (lwX (rb 0) (rb 1)) (lwZ (rb 0) (rb 1)))), aL cL ma 800 (moA (kpU up nv (lwX (rb 0) (rb 1)) (lwX (rb 0) (rb 1)) (lwZ (rb 0) (rb 1)))), aL cL mb 800 (moA (kpU dn nv (lwZ (rb 0) (rb 1)) (lwX (rb 0) (rb 1)) (lwZ (rb 0) (rb 1))))]
                    have hS : zs (lwX (Int.natAbs x0) (Int.natAbs y0)) 1 = cmpZ x0 0 * cmpZ y0 0 := by
                      rw [zs_lw hDp]
                      unfold zs cmpZ
                      split <;> split <;> (try split) <;> (try split) <;> (try split) <;> (try split) <;> omega
                    exact z_iret (w := [oM mo 0 mw ((kpC nv (lwX (rb 0) (rb 1)) (lwZ (rb 0) (rb 1)) : Nat) : Int) mg ma mb (ns : Int) mlo mhi (nw : Int) mwe mru mrd, aL cL mw 160 (wkA rk), aI cI mg 100 (sgA (kpS sg nv (zs (lwX (rb 0) (rb 1)) 1) (lwX (rb 0) (rb 1)) (lwZ (rb 0) (rb 1)))), aL cL ma 800 (moA (kpU up nv (lwX (rb 0) (rb 1)) (lwX (rb 0) (rb 1)) (lwZ (rb 0) (rb 1)))), aL cL mb 800 (moA (kpU dn nv (lwZ (rb 0) (rb 1)) (lwX (rb 0) (rb 1)) (lwZ (rb 0) (rb 1))))]) S hr hlo hAe d_M_value_96 [0, 1, 2, 3, 4] (by decide) rfl rfl ⟨Nat.le_refl _, Nat.le_refl _⟩ (⟨rk, by rw [sk0, sk1], by rw [sk0, sk1, hS]⟩)
                  · skip
                    refine z_iconst S d_M_value_87 ?_
                    refine z_goto (tgt := 92) S d_M_value_88 (by decide) ?_
                    refine z_imul S d_M_value_92 ?_
                    refine z_toi (a := (-1)) rfl ?_
                    refine z_callVa (As := [.int (zI (-1))]) (st := []) (wc := [oM mo 0 mw (nv : Int) mg ma mb (ns : Int) mlo mhi (nw : Int) mwe mru mrd, aL cL mw 160 (wkA rb), aI cI mg 100 (sgA sg), aL cL ma 800 (moA up), aL cL mb 800 (moA dn)]) (wr := []) S hGok hK hg hA (s_M_keep l dC dI cI cL qT mo mw nv ma mb ns mlo mhi nw mwe mru mrd 0 mg rb sg up dn (-1) (by omega) (by rw [sk0]; omega) (by rw [sk1]; omega) (by rw [sk1]; exact hDp) (by omega)) (zcwV S (List.mem_cons_of_mem _ k_M_122) mV_M_keep k_M_122 hd_M_keep rfl rfl ⟨Nat.le_of_ble_eq_true rfl, Nat.le_of_ble_eq_true rfl⟩) rfl (Nat.le_of_ble_eq_true rfl) d_M_value_93 ⟨Nat.le_of_ble_eq_true rfl, Nat.le_of_ble_eq_true rfl⟩ rfl [3, 4, 0, 1, 2] [] 3 rfl rfl rfl (by decide) rfl rfl rfl (by decide) (by decide) (fun x w hp => ?_)
                    obtain ⟨rk, rfl, rfl⟩ := hp
                    show ZZ _ _ _ _ _ _ _ _ _ _ _ _ _ _ _ _ _ _ 96 [(0, .ref mo), (1, .long (zL x0)), (3, .long (zL y0))] [.int (zI (kpR nv (lwX (rb 0) (rb 1)) (lwZ (rb 0) (rb 1))))] [oM mo 0 mw ((kpC nv (lwX (rb 0) (rb 1)) (lwZ (rb 0) (rb 1)) : Nat) : Int) mg ma mb (ns : Int) mlo mhi (nw : Int) mwe mru mrd, aL cL mw 160 (wkA rk), aI cI mg 100 (sgA (kpS sg nv (zs (lwX (rb 0) (rb 1)) (-1)) (lwX (rb 0) (rb 1)) (lwZ (rb 0) (rb 1)))), aL cL ma 800 (moA (kpU up nv (lwX (rb 0) (rb 1)) (lwX (rb 0) (rb 1)) (lwZ (rb 0) (rb 1)))), aL cL mb 800 (moA (kpU dn nv (lwZ (rb 0) (rb 1)) (lwX (rb 0) (rb 1)) (lwZ (rb 0) (rb 1))))]
                    have hS : zs (lwX (Int.natAbs x0) (Int.natAbs y0)) (-1) = cmpZ x0 0 * cmpZ y0 0 := by
                      rw [zs_lw hDp]
                      unfold zs cmpZ
                      split <;> split <;> (try split) <;> (try split) <;> (try split) <;> (try split) <;> omega
                    exact z_iret (w := [oM mo 0 mw ((kpC nv (lwX (rb 0) (rb 1)) (lwZ (rb 0) (rb 1)) : Nat) : Int) mg ma mb (ns : Int) mlo mhi (nw : Int) mwe mru mrd, aL cL mw 160 (wkA rk), aI cI mg 100 (sgA (kpS sg nv (zs (lwX (rb 0) (rb 1)) (-1)) (lwX (rb 0) (rb 1)) (lwZ (rb 0) (rb 1)))), aL cL ma 800 (moA (kpU up nv (lwX (rb 0) (rb 1)) (lwX (rb 0) (rb 1)) (lwZ (rb 0) (rb 1)))), aL cL mb 800 (moA (kpU dn nv (lwZ (rb 0) (rb 1)) (lwX (rb 0) (rb 1)) (lwZ (rb 0) (rb 1))))]) S hr hlo hAe d_M_value_96 [0, 1, 2, 3, 4] (by decide) rfl rfl ⟨Nat.le_refl _, Nat.le_refl _⟩ (⟨rk, by rw [sk0, sk1], by rw [sk0, sk1, hS]⟩)
                · skip
                  refine z_iconst S d_M_value_76 ?_
                  refine z_goto (tgt := 81) S d_M_value_77 (by decide) ?_
                  refine z_lload_n S d_M_value_81 2 rfl ?_
                  refine z_lconst (z := 0) S d_M_value_82 rfl ?_
                  refine z_lcmp_ge (tgt := 91) S d_M_value_83 d_M_value_84 (by decide) (by omega) (by omega) (fun c34 => ?_) (fun c34 => ?_)
                  · skip
                    refine z_iconst S d_M_value_91 ?_
                    refine z_imul S d_M_value_92 ?_
                    refine z_toi (a := (-1)) rfl ?_
                    refine z_callVa (As := [.int (zI (-1))]) (st := []) (wc := [oM mo 0 mw (nv : Int) mg ma mb (ns : Int) mlo mhi (nw : Int) mwe mru mrd, aL cL mw 160 (wkA rb), aI cI mg 100 (sgA sg), aL cL ma 800 (moA up), aL cL mb 800 (moA dn)]) (wr := []) S hGok hK hg hA (s_M_keep l dC dI cI cL qT mo mw nv ma mb ns mlo mhi nw mwe mru mrd 0 mg rb sg up dn (-1) (by omega) (by rw [sk0]; omega) (by rw [sk1]; omega) (by rw [sk1]; exact hDp) (by omega)) (zcwV S (List.mem_cons_of_mem _ k_M_122) mV_M_keep k_M_122 hd_M_keep rfl rfl ⟨Nat.le_of_ble_eq_true rfl, Nat.le_of_ble_eq_true rfl⟩) rfl (Nat.le_of_ble_eq_true rfl) d_M_value_93 ⟨Nat.le_of_ble_eq_true rfl, Nat.le_of_ble_eq_true rfl⟩ rfl [3, 4, 0, 1, 2] [] 3 rfl rfl rfl (by decide) rfl rfl rfl (by decide) (by decide) (fun x w hp => ?_)
                    obtain ⟨rk, rfl, rfl⟩ := hp
                    show ZZ _ _ _ _ _ _ _ _ _ _ _ _ _ _ _ _ _ _ 96 [(0, .ref mo), (1, .long (zL x0)), (3, .long (zL y0))] [.int (zI (kpR nv (lwX (rb 0) (rb 1)) (lwZ (rb 0) (rb 1))))] [oM mo 0 mw ((kpC nv (lwX (rb 0) (rb 1)) (lwZ (rb 0) (rb 1)) : Nat) : Int) mg ma mb (ns : Int) mlo mhi (nw : Int) mwe mru mrd, aL cL mw 160 (wkA rk), aI cI mg 100 (sgA (kpS sg nv (zs (lwX (rb 0) (rb 1)) (-1)) (lwX (rb 0) (rb 1)) (lwZ (rb 0) (rb 1)))), aL cL ma 800 (moA (kpU up nv (lwX (rb 0) (rb 1)) (lwX (rb 0) (rb 1)) (lwZ (rb 0) (rb 1)))), aL cL mb 800 (moA (kpU dn nv (lwZ (rb 0) (rb 1)) (lwX (rb 0) (rb 1)) (lwZ (rb 0) (rb 1))))]
                    have hS : zs (lwX (Int.natAbs x0) (Int.natAbs y0)) (-1) = cmpZ x0 0 * cmpZ y0 0 := by
                      rw [zs_lw hDp]
                      unfold zs cmpZ
                      split <;> split <;> (try split) <;> (try split) <;> (try split) <;> (try split) <;> omega
                    exact z_iret (w := [oM mo 0 mw ((kpC nv (lwX (rb 0) (rb 1)) (lwZ (rb 0) (rb 1)) : Nat) : Int) mg ma mb (ns : Int) mlo mhi (nw : Int) mwe mru mrd, aL cL mw 160 (wkA rk), aI cI mg 100 (sgA (kpS sg nv (zs (lwX (rb 0) (rb 1)) (-1)) (lwX (rb 0) (rb 1)) (lwZ (rb 0) (rb 1)))), aL cL ma 800 (moA (kpU up nv (lwX (rb 0) (rb 1)) (lwX (rb 0) (rb 1)) (lwZ (rb 0) (rb 1)))), aL cL mb 800 (moA (kpU dn nv (lwZ (rb 0) (rb 1)) (lwX (rb 0) (rb 1)) (lwZ (rb 0) (rb 1))))]) S hr hlo hAe d_M_value_96 [0, 1, 2, 3, 4] (by decide) rfl rfl ⟨Nat.le_refl _, Nat.le_refl _⟩ (⟨rk, by rw [sk0, sk1], by rw [sk0, sk1, hS]⟩)
                  · skip
                    refine z_iconst S d_M_value_87 ?_
                    refine z_goto (tgt := 92) S d_M_value_88 (by decide) ?_
                    refine z_imul S d_M_value_92 ?_
                    refine z_toi (a := 1) rfl ?_
                    refine z_callVa (As := [.int (zI 1)]) (st := []) (wc := [oM mo 0 mw (nv : Int) mg ma mb (ns : Int) mlo mhi (nw : Int) mwe mru mrd, aL cL mw 160 (wkA rb), aI cI mg 100 (sgA sg), aL cL ma 800 (moA up), aL cL mb 800 (moA dn)]) (wr := []) S hGok hK hg hA (s_M_keep l dC dI cI cL qT mo mw nv ma mb ns mlo mhi nw mwe mru mrd 0 mg rb sg up dn 1 (by omega) (by rw [sk0]; omega) (by rw [sk1]; omega) (by rw [sk1]; exact hDp) (by omega)) (zcwV S (List.mem_cons_of_mem _ k_M_122) mV_M_keep k_M_122 hd_M_keep rfl rfl ⟨Nat.le_of_ble_eq_true rfl, Nat.le_of_ble_eq_true rfl⟩) rfl (Nat.le_of_ble_eq_true rfl) d_M_value_93 ⟨Nat.le_of_ble_eq_true rfl, Nat.le_of_ble_eq_true rfl⟩ rfl [3, 4, 0, 1, 2] [] 3 rfl rfl rfl (by decide) rfl rfl rfl (by decide) (by decide) (fun x w hp => ?_)
                    obtain ⟨rk, rfl, rfl⟩ := hp
                    show ZZ _ _ _ _ _ _ _ _ _ _ _ _ _ _ _ _ _ _ 96 [(0, .ref mo), (1, .long (zL x0)), (3, .long (zL y0))] [.int (zI (kpR nv (lwX (rb 0) (rb 1)) (lwZ (rb 0) (rb 1))))] [oM mo 0 mw ((kpC nv (lwX (rb 0) (rb 1)) (lwZ (rb 0) (rb 1)) : Nat) : Int) mg ma mb (ns : Int) mlo mhi (nw : Int) mwe mru mrd, aL cL mw 160 (wkA rk), aI cI mg 100 (sgA (kpS sg nv (zs (lwX (rb 0) (rb 1)) 1) (lwX (rb 0) (rb 1)) (lwZ (rb 0) (rb 1)))), aL cL ma 800 (moA (kpU up nv (lwX (rb 0) (rb 1)) (lwX (rb 0) (rb 1)) (lwZ (rb 0) (rb 1)))), aL cL mb 800 (moA (kpU dn nv (lwZ (rb 0) (rb 1)) (lwX (rb 0) (rb 1)) (lwZ (rb 0) (rb 1))))]
                    have hS : zs (lwX (Int.natAbs x0) (Int.natAbs y0)) 1 = cmpZ x0 0 * cmpZ y0 0 := by
                      rw [zs_lw hDp]
                      unfold zs cmpZ
                      split <;> split <;> (try split) <;> (try split) <;> (try split) <;> (try split) <;> omega
                    exact z_iret (w := [oM mo 0 mw ((kpC nv (lwX (rb 0) (rb 1)) (lwZ (rb 0) (rb 1)) : Nat) : Int) mg ma mb (ns : Int) mlo mhi (nw : Int) mwe mru mrd, aL cL mw 160 (wkA rk), aI cI mg 100 (sgA (kpS sg nv (zs (lwX (rb 0) (rb 1)) 1) (lwX (rb 0) (rb 1)) (lwZ (rb 0) (rb 1)))), aL cL ma 800 (moA (kpU up nv (lwX (rb 0) (rb 1)) (lwX (rb 0) (rb 1)) (lwZ (rb 0) (rb 1)))), aL cL mb 800 (moA (kpU dn nv (lwZ (rb 0) (rb 1)) (lwX (rb 0) (rb 1)) (lwZ (rb 0) (rb 1))))]) S hr hlo hAe d_M_value_96 [0, 1, 2, 3, 4] (by decide) rfl rfl ⟨Nat.le_refl _, Nat.le_refl _⟩ (⟨rk, by rw [sk0, sk1], by rw [sk0, sk1, hS]⟩)
      · skip
        exact absurd c3 (by omega)
set_option maxHeartbeats 4000000 in
set_option maxRecDepth 100000 in
theorem f1_M_value (l : Launch) (dC : Nat → ClassId) (dI : Nat → Nat → Nat) (cI cL : ClassId) (qT : Nat) (mo : Nat) (mw : Nat) (nv : Nat) (ma : Nat) (mb : Nat) (ns : Nat) (mlo : Nat) (mhi : Nat) (nw : Nat) (mwe : Nat) (mru : Nat) (mrd : Nat) (th : Int) (mg : Nat) (x0 : Int) (y0 : Int) (hnv : nv = 100) (hy : -9223372036854775808 ≤ y0 ∧ y0 < 9223372036854775808) : Ct l y_M_value (Cond.code y_M_value c_M_value 5 (some .int) :: zB) { frames := 5, cells := 0, slots := 0, locals := 128 } (dC, dI) zcl [(cI, .int), (cL, .long)] (zG cI cL qT) [.ref mo, .long (zL x0), .long (zL y0)] [oM mo th mw (nv : Int) mg ma mb (ns : Int) mlo mhi (nw : Int) mwe mru mrd] (fun rv wv => rv = .int (zI 0) ∧ wv = [oM mo 1 mw (nv : Int) mg ma mb (ns : Int) mlo mhi (nw : Int) mwe mru mrd]) 0 0 := by
  refine Cm.ofZ (cc := c_M_value) (maxL := 5) (ret := (some .int)) (by decide) rfl (Nat.le_of_ble_eq_true rfl) rfl ?_
  intro p e s m below meth c A S hr hlo hnm hK hg hA hAe
  have hGok := zG_ok cI cL qT
  show ZZ _ _ _ _ _ _ _ _ _ _ _ _ _ _ _ _ _ _ 0 [(0, .ref mo), (1, .long (zL x0)), (3, .long (zL y0))] [] [oM mo th mw (nv : Int) mg ma mb (ns : Int) mlo mhi (nw : Int) mwe mru mrd]
  refine z_aload_n S d_M_value_0 0 rfl ?_
  refine z_aload_n S d_M_value_1 0 rfl ?_
  refine z_get S hK la_M 0 rfl rfl 2 (by decide) k_M_42 rfl d_M_value_2 ?_
  refine z_bipush S d_M_value_5 rfl ?_
  refine z_icmp_ge (tgt := 14) S d_M_value_7 (by decide) (by omega) (by omega) (fun c1 => ?_) (fun c1 => ?_)
  · skip
    refine z_iconst S d_M_value_14 ?_
    refine z_lload_n S d_M_value_15 2 rfl ?_
    refine z_lconst (z := 0) S d_M_value_16 rfl ?_
    refine z_lcmp_eq (tgt := 25) S d_M_value_17 d_M_value_18 (by decide) (by omega) (by omega) (fun c2 => ?_) (fun c2 => ?_)
    · skip
      refine z_iconst S d_M_value_25 ?_
      refine z_iconst S d_M_value_26 ?_
      refine z_callVa (As := [.int (zI 0), .int (zI 0), .int (zI 1)]) (st := []) (wc := [oM mo th mw (nv : Int) mg ma mb (ns : Int) mlo mhi (nw : Int) mwe mru mrd]) (wr := []) S hGok hK hg hA (s_M_goes l dC dI cI cL qT mo mw nv ma mb ns mlo mhi nw mwe mru mrd th mg 0 0 1 (by omega) (by omega) (by omega)) (zcwV S (List.mem_cons_of_mem _ k_M_118) mV_M_goes k_M_118 hd_M_goes rfl rfl ⟨Nat.le_of_ble_eq_true rfl, Nat.le_of_ble_eq_true rfl⟩) rfl (Nat.le_of_ble_eq_true rfl) d_M_value_27 ⟨Nat.le_of_ble_eq_true rfl, Nat.le_of_ble_eq_true rfl⟩ rfl [0] [] 0 rfl rfl rfl (by decide) rfl rfl rfl (by decide) (by decide) (fun x w hp => ?_)
      obtain ⟨rfl, rfl⟩ := hp
      show ZZ _ _ _ _ _ _ _ _ _ _ _ _ _ _ _ _ _ _ 30 [(0, .ref mo), (1, .long (zL x0)), (3, .long (zL y0))] [.int (zI (b2 (gth 0 0 1 = 0)))] [oM mo (gth 0 0 1) mw (nv : Int) mg ma mb (ns : Int) mlo mhi (nw : Int) mwe mru mrd]
      refine z_toi (a := 0) rfl ?_
      refine z_wq (ws' := [oM mo 1 mw (nv : Int) mg ma mb (ns : Int) mlo mhi (nw : Int) mwe mru mrd]) rfl ?_
      refine z_if_ne (tgt := 35) S d_M_value_30 (by decide) (by omega) (fun c3 => ?_) (fun c3 => ?_)
      · skip
        exact absurd c3 (by omega)
      · skip
        refine z_iconst S d_M_value_33 ?_
        exact z_iret (w := [oM mo 1 mw (nv : Int) mg ma mb (ns : Int) mlo mhi (nw : Int) mwe mru mrd]) S hr hlo hAe d_M_value_34 [0] (by decide) rfl rfl ⟨Nat.le_refl _, Nat.le_refl _⟩ (⟨rfl, rfl⟩)
    · skip
      refine z_iconst S d_M_value_21 ?_
      refine z_goto (tgt := 26) S d_M_value_22 (by decide) ?_
      refine z_iconst S d_M_value_26 ?_
      refine z_callVa (As := [.int (zI 0), .int (zI 1), .int (zI 1)]) (st := []) (wc := [oM mo th mw (nv : Int) mg ma mb (ns : Int) mlo mhi (nw : Int) mwe mru mrd]) (wr := []) S hGok hK hg hA (s_M_goes l dC dI cI cL qT mo mw nv ma mb ns mlo mhi nw mwe mru mrd th mg 0 1 1 (by omega) (by omega) (by omega)) (zcwV S (List.mem_cons_of_mem _ k_M_118) mV_M_goes k_M_118 hd_M_goes rfl rfl ⟨Nat.le_of_ble_eq_true rfl, Nat.le_of_ble_eq_true rfl⟩) rfl (Nat.le_of_ble_eq_true rfl) d_M_value_27 ⟨Nat.le_of_ble_eq_true rfl, Nat.le_of_ble_eq_true rfl⟩ rfl [0] [] 0 rfl rfl rfl (by decide) rfl rfl rfl (by decide) (by decide) (fun x w hp => ?_)
      obtain ⟨rfl, rfl⟩ := hp
      show ZZ _ _ _ _ _ _ _ _ _ _ _ _ _ _ _ _ _ _ 30 [(0, .ref mo), (1, .long (zL x0)), (3, .long (zL y0))] [.int (zI (b2 (gth 0 1 1 = 0)))] [oM mo (gth 0 1 1) mw (nv : Int) mg ma mb (ns : Int) mlo mhi (nw : Int) mwe mru mrd]
      refine z_toi (a := 0) rfl ?_
      refine z_wq (ws' := [oM mo 1 mw (nv : Int) mg ma mb (ns : Int) mlo mhi (nw : Int) mwe mru mrd]) rfl ?_
      refine z_if_ne (tgt := 35) S d_M_value_30 (by decide) (by omega) (fun c4 => ?_) (fun c4 => ?_)
      · skip
        exact absurd c4 (by omega)
      · skip
        refine z_iconst S d_M_value_33 ?_
        exact z_iret (w := [oM mo 1 mw (nv : Int) mg ma mb (ns : Int) mlo mhi (nw : Int) mwe mru mrd]) S hr hlo hAe d_M_value_34 [0] (by decide) rfl rfl ⟨Nat.le_refl _, Nat.le_refl _⟩ (⟨rfl, rfl⟩)
  · skip
    omega
set_option maxHeartbeats 4000000 in
set_option maxRecDepth 100000 in
theorem f2_M_value (l : Launch) (dC : Nat → ClassId) (dI : Nat → Nat → Nat) (cI cL : ClassId) (qT : Nat) (mo : Nat) (mw : Nat) (nv : Nat) (ma : Nat) (mb : Nat) (ns : Nat) (mlo : Nat) (mhi : Nat) (nw : Nat) (mwe : Nat) (mru : Nat) (mrd : Nat) (th : Int) (mg : Nat) (x0 : Int) (y0 : Int) (hnv : nv < 100) (h0 : y0 = 0) (hy : -9223372036854775808 ≤ y0 ∧ y0 < 9223372036854775808) : Ct l y_M_value (Cond.code y_M_value c_M_value 5 (some .int) :: zB) { frames := 5, cells := 0, slots := 0, locals := 128 } (dC, dI) zcl [(cI, .int), (cL, .long)] (zG cI cL qT) [.ref mo, .long (zL x0), .long (zL y0)] [oM mo th mw (nv : Int) mg ma mb (ns : Int) mlo mhi (nw : Int) mwe mru mrd] (fun rv wv => rv = .int (zI 0) ∧ wv = [oM mo 2 mw (nv : Int) mg ma mb (ns : Int) mlo mhi (nw : Int) mwe mru mrd]) 0 0 := by
  refine Cm.ofZ (cc := c_M_value) (maxL := 5) (ret := (some .int)) (by decide) rfl (Nat.le_of_ble_eq_true rfl) rfl ?_
  intro p e s m below meth c A S hr hlo hnm hK hg hA hAe
  have hGok := zG_ok cI cL qT
  show ZZ _ _ _ _ _ _ _ _ _ _ _ _ _ _ _ _ _ _ 0 [(0, .ref mo), (1, .long (zL x0)), (3, .long (zL y0))] [] [oM mo th mw (nv : Int) mg ma mb (ns : Int) mlo mhi (nw : Int) mwe mru mrd]
  refine z_aload_n S d_M_value_0 0 rfl ?_
  refine z_aload_n S d_M_value_1 0 rfl ?_
  refine z_get S hK la_M 0 rfl rfl 2 (by decide) k_M_42 rfl d_M_value_2 ?_
  refine z_bipush S d_M_value_5 rfl ?_
  refine z_icmp_ge (tgt := 14) S d_M_value_7 (by decide) (by omega) (by omega) (fun c1 => ?_) (fun c1 => ?_)
  · skip
    omega
  · skip
    refine z_iconst S d_M_value_10 ?_
    refine z_goto (tgt := 15) S d_M_value_11 (by decide) ?_
    refine z_lload_n S d_M_value_15 2 rfl ?_
    refine z_lconst (z := 0) S d_M_value_16 rfl ?_
    refine z_lcmp_eq (tgt := 25) S d_M_value_17 d_M_value_18 (by decide) (by omega) (by omega) (fun c2 => ?_) (fun c2 => ?_)
    · skip
      refine z_iconst S d_M_value_25 ?_
      refine z_iconst S d_M_value_26 ?_
      refine z_callVa (As := [.int (zI 1), .int (zI 0), .int (zI 1)]) (st := []) (wc := [oM mo th mw (nv : Int) mg ma mb (ns : Int) mlo mhi (nw : Int) mwe mru mrd]) (wr := []) S hGok hK hg hA (s_M_goes l dC dI cI cL qT mo mw nv ma mb ns mlo mhi nw mwe mru mrd th mg 1 0 1 (by omega) (by omega) (by omega)) (zcwV S (List.mem_cons_of_mem _ k_M_118) mV_M_goes k_M_118 hd_M_goes rfl rfl ⟨Nat.le_of_ble_eq_true rfl, Nat.le_of_ble_eq_true rfl⟩) rfl (Nat.le_of_ble_eq_true rfl) d_M_value_27 ⟨Nat.le_of_ble_eq_true rfl, Nat.le_of_ble_eq_true rfl⟩ rfl [0] [] 0 rfl rfl rfl (by decide) rfl rfl rfl (by decide) (by decide) (fun x w hp => ?_)
      obtain ⟨rfl, rfl⟩ := hp
      show ZZ _ _ _ _ _ _ _ _ _ _ _ _ _ _ _ _ _ _ 30 [(0, .ref mo), (1, .long (zL x0)), (3, .long (zL y0))] [.int (zI (b2 (gth 1 0 1 = 0)))] [oM mo (gth 1 0 1) mw (nv : Int) mg ma mb (ns : Int) mlo mhi (nw : Int) mwe mru mrd]
      refine z_toi (a := 0) rfl ?_
      refine z_wq (ws' := [oM mo 2 mw (nv : Int) mg ma mb (ns : Int) mlo mhi (nw : Int) mwe mru mrd]) rfl ?_
      refine z_if_ne (tgt := 35) S d_M_value_30 (by decide) (by omega) (fun c3 => ?_) (fun c3 => ?_)
      · skip
        exact absurd c3 (by omega)
      · skip
        refine z_iconst S d_M_value_33 ?_
        exact z_iret (w := [oM mo 2 mw (nv : Int) mg ma mb (ns : Int) mlo mhi (nw : Int) mwe mru mrd]) S hr hlo hAe d_M_value_34 [0] (by decide) rfl rfl ⟨Nat.le_refl _, Nat.le_refl _⟩ (⟨rfl, rfl⟩)
    · skip
      exact absurd c2 (not_not_intro h0)
set_option maxHeartbeats 4000000 in
set_option maxRecDepth 100000 in
theorem s_M_end (l : Launch) (dC : Nat → ClassId) (dI : Nat → Nat → Nat) (cI cL : ClassId) (qT : Nat) (mo : Nat) (mw : Nat) (nv : Nat) (ma : Nat) (mb : Nat) (ns : Nat) (mlo : Nat) (mhi : Nat) (nw : Nat) (mwe : Nat) (mru : Nat) (mrd : Nat) (th : Int) (mg : Nat) (lo : Nat → Nat) (hi : Nat → Nat) (u : Nat) (w : Int) (hns : ns ≤ 30) (hu : u < ns) (hw : w = 0 ∨ w = 1) : Ct l y_M_end (Cond.code y_M_end c_M_end 3 (some .int) :: zB) { frames := 1, cells := 0, slots := 0, locals := 23 } (dC, dI) zcl [(cI, .int), (cL, .long)] (zG cI cL qT) [.ref mo, .int (zI (u : Int)), .int (zI w)] [oM mo th mw (nv : Int) mg ma mb (ns : Int) mlo mhi (nw : Int) mwe mru mrd, aI cI mlo 30 (eA lo), aI cI mhi 30 (eA hi)] (fun rv wv => rv = .int (zI ((if w = 0 then lo u else hi u : Nat) : Int)) ∧ wv = [oM mo 0 mw (nv : Int) mg ma mb (ns : Int) mlo mhi (nw : Int) mwe mru mrd, aI cI mlo 30 (eA lo), aI cI mhi 30 (eA hi)]) 0 0 := by
  refine Cm.ofZ (cc := c_M_end) (maxL := 3) (ret := (some .int)) (by decide) rfl (Nat.le_of_ble_eq_true rfl) rfl ?_
  intro p e s m below meth c A S hr hlo hnm hK hg hA hAe
  have hGok := zG_ok cI cL qT
  show ZZ _ _ _ _ _ _ _ _ _ _ _ _ _ _ _ _ _ _ 0 [(0, .ref mo), (1, .int (zI (u : Int))), (2, .int (zI w))] [] [oM mo th mw (nv : Int) mg ma mb (ns : Int) mlo mhi (nw : Int) mwe mru mrd, aI cI mlo 30 (eA lo), aI cI mhi 30 (eA hi)]
  refine z_aload_n S d_M_end_0 0 rfl ?_
  refine z_aload_n S d_M_end_1 0 rfl ?_
  refine z_iload_n S d_M_end_2 1 rfl ?_
  refine z_callVa (As := [.int (zI (u : Int))]) (st := [.ref mo]) (wc := [oM mo th mw (nv : Int) mg ma mb (ns : Int) mlo mhi (nw : Int) mwe mru mrd]) (wr := [aI cI mlo 30 (eA lo), aI cI mhi 30 (eA hi)]) S hGok hK hg hA (s_M_isSpan l dC dI cI cL qT mo mw nv ma mb ns mlo mhi nw mwe mru mrd th mg (u : Int) (by omega) (by omega)) (zcwV S (List.mem_cons_of_mem _ k_M_144) mV_M_isSpan k_M_144 hd_M_isSpan rfl rfl ⟨Nat.le_of_ble_eq_true rfl, Nat.le_of_ble_eq_true rfl⟩) rfl (Nat.le_of_ble_eq_true rfl) d_M_end_3 ⟨Nat.le_of_ble_eq_true rfl, Nat.le_of_ble_eq_true rfl⟩ rfl [0] [1, 2] 0 rfl rfl rfl (by decide) rfl rfl rfl (by decide) (by decide) (fun x w hp => ?_)
  obtain ⟨rfl, rfl⟩ := hp
  show ZZ _ _ _ _ _ _ _ _ _ _ _ _ _ _ _ _ _ _ 6 [(0, .ref mo), (1, .int (zI (u : Int))), (2, .int (zI w))] [.int (zI (b2 (0 ≤ (u : Int) ∧ (u : Int) < (ns : Int)))), .ref mo] [aI cI mlo 30 (eA lo), aI cI mhi 30 (eA hi), oM mo th mw (nv : Int) mg ma mb (ns : Int) mlo mhi (nw : Int) mwe mru mrd]
  refine z_toi (a := 1) (zI_c (b2_t ⟨by omega, by omega⟩)) ?_
  refine z_if_eq (tgt := 22) S d_M_end_6 (by decide) (by omega) (fun c1 => ?_) (fun c1 => ?_)
  · skip
    exact absurd c1 (by omega)
  · skip
    refine z_iload_n S d_M_end_9 2 rfl ?_
    refine z_if_lt (tgt := 22) S d_M_end_10 (by decide) (by omega) (fun c2 => ?_) (fun c2 => ?_)
    · skip
      omega
    · skip
      refine z_iload_n S d_M_end_13 2 rfl ?_
      refine z_iconst S d_M_end_14 ?_
      refine z_icmp_gt (tgt := 22) S d_M_end_15 (by decide) (by omega) (by omega) (fun c3 => ?_) (fun c3 => ?_)
      · skip
        omega
      · skip
        refine z_iconst S d_M_end_18 ?_
        refine z_goto (tgt := 23) S d_M_end_19 (by decide) ?_
        refine z_iconst S d_M_end_23 ?_
        refine z_iconst S d_M_end_24 ?_
        refine z_callVa (As := [.int (zI 1), .int (zI 1), .int (zI 1)]) (st := []) (wc := [oM mo th mw (nv : Int) mg ma mb (ns : Int) mlo mhi (nw : Int) mwe mru mrd]) (wr := [aI cI mlo 30 (eA lo), aI cI mhi 30 (eA hi)]) S hGok hK hg hA (s_M_goes l dC dI cI cL qT mo mw nv ma mb ns mlo mhi nw mwe mru mrd th mg 1 1 1 (by omega) (by omega) (by omega)) (zcwV S (List.mem_cons_of_mem _ k_M_118) mV_M_goes k_M_118 hd_M_goes rfl rfl ⟨Nat.le_of_ble_eq_true rfl, Nat.le_of_ble_eq_true rfl⟩) rfl (Nat.le_of_ble_eq_true rfl) d_M_end_25 ⟨Nat.le_of_ble_eq_true rfl, Nat.le_of_ble_eq_true rfl⟩ rfl [2] [0, 1] 2 rfl rfl rfl (by decide) rfl rfl rfl (by decide) (by decide) (fun x w hp => ?_)
        obtain ⟨rfl, rfl⟩ := hp
        show ZZ _ _ _ _ _ _ _ _ _ _ _ _ _ _ _ _ _ _ 28 [(0, .ref mo), (1, .int (zI (u : Int))), (2, .int (zI w))] [.int (zI (b2 (gth 1 1 1 = 0)))] [aI cI mlo 30 (eA lo), aI cI mhi 30 (eA hi), oM mo (gth 1 1 1) mw (nv : Int) mg ma mb (ns : Int) mlo mhi (nw : Int) mwe mru mrd]
        refine z_toi (a := 1) rfl ?_
        refine z_wq (ws' := [aI cI mlo 30 (eA lo), aI cI mhi 30 (eA hi), oM mo 0 mw (nv : Int) mg ma mb (ns : Int) mlo mhi (nw : Int) mwe mru mrd]) rfl ?_
        refine z_if_ne (tgt := 33) S d_M_end_28 (by decide) (by omega) (fun c4 => ?_) (fun c4 => ?_)
        · skip
          refine z_iload_n S d_M_end_33 2 rfl ?_
          refine z_if_ne (tgt := 46) S d_M_end_34 (by decide) (by omega) (fun c5 => ?_) (fun c5 => ?_)
          · skip
            refine z_aload_n S d_M_end_46 0 rfl ?_
            refine z_get S hK la_M 2 rfl rfl 8 (by decide) k_M_26 rfl d_M_end_47 ?_
            refine z_iload_n S d_M_end_50 1 rfl ?_
            refine z_iald (x := ((hi u : Nat) : Int)) S hK 1 0 rfl rfl u rfl (by omega) (by decide) rfl d_M_end_51 ?_
            exact z_iret (w := [oM mo 0 mw (nv : Int) mg ma mb (ns : Int) mlo mhi (nw : Int) mwe mru mrd, aI cI mlo 30 (eA lo), aI cI mhi 30 (eA hi)]) S hr hlo hAe d_M_end_52 [2, 0, 1] (by decide) rfl rfl ⟨Nat.le_refl _, Nat.le_refl _⟩ (⟨by rw [if_neg (by omega)], rfl⟩)
          · skip
            refine z_aload_n S d_M_end_37 0 rfl ?_
            refine z_get S hK la_M 2 rfl rfl 7 (by decide) k_M_23 rfl d_M_end_38 ?_
            refine z_iload_n S d_M_end_41 1 rfl ?_
            refine z_iald (x := ((lo u : Nat) : Int)) S hK 0 0 rfl rfl u rfl (by omega) (by decide) rfl d_M_end_42 ?_
            refine z_goto (tgt := 52) S d_M_end_43 (by decide) ?_
            exact z_iret (w := [oM mo 0 mw (nv : Int) mg ma mb (ns : Int) mlo mhi (nw : Int) mwe mru mrd, aI cI mlo 30 (eA lo), aI cI mhi 30 (eA hi)]) S hr hlo hAe d_M_end_52 [2, 0, 1] (by decide) rfl rfl ⟨Nat.le_refl _, Nat.le_refl _⟩ (⟨by rw [if_pos (by omega)], rfl⟩)
        · skip
          exact absurd c4 (by omega)
set_option maxHeartbeats 4000000 in
set_option maxRecDepth 100000 in
theorem f1_M_end (l : Launch) (dC : Nat → ClassId) (dI : Nat → Nat → Nat) (cI cL : ClassId) (qT : Nat) (mo : Nat) (mw : Nat) (nv : Nat) (ma : Nat) (mb : Nat) (ns : Nat) (mlo : Nat) (mhi : Nat) (nw : Nat) (mwe : Nat) (mru : Nat) (mrd : Nat) (th : Int) (mg : Nat) (u : Int) (w : Int) (hns : ns ≤ 30) (hur : -2147483648 ≤ u ∧ u < 2147483648) (hwr : -2147483648 ≤ w ∧ w < 2147483648) (hu : ¬ ((0 ≤ u ∧ u < (ns : Int)) ∧ (w = 0 ∨ w = 1))) : Ct l y_M_end (Cond.code y_M_end c_M_end 3 (some .int) :: zB) { frames := 1, cells := 0, slots := 0, locals := 23 } (dC, dI) zcl [(cI, .int), (cL, .long)] (zG cI cL qT) [.ref mo, .int (zI u), .int (zI w)] [oM mo th mw (nv : Int) mg ma mb (ns : Int) mlo mhi (nw : Int) mwe mru mrd] (fun rv wv => rv = .int (zI 0) ∧ wv = [oM mo 1 mw (nv : Int) mg ma mb (ns : Int) mlo mhi (nw : Int) mwe mru mrd]) 0 0 := by
  refine Cm.ofZ (cc := c_M_end) (maxL := 3) (ret := (some .int)) (by decide) rfl (Nat.le_of_ble_eq_true rfl) rfl ?_
  intro p e s m below meth c A S hr hlo hnm hK hg hA hAe
  have hGok := zG_ok cI cL qT
  show ZZ _ _ _ _ _ _ _ _ _ _ _ _ _ _ _ _ _ _ 0 [(0, .ref mo), (1, .int (zI u)), (2, .int (zI w))] [] [oM mo th mw (nv : Int) mg ma mb (ns : Int) mlo mhi (nw : Int) mwe mru mrd]
  refine z_aload_n S d_M_end_0 0 rfl ?_
  refine z_aload_n S d_M_end_1 0 rfl ?_
  refine z_iload_n S d_M_end_2 1 rfl ?_
  refine z_callVa (As := [.int (zI u)]) (st := [.ref mo]) (wc := [oM mo th mw (nv : Int) mg ma mb (ns : Int) mlo mhi (nw : Int) mwe mru mrd]) (wr := []) S hGok hK hg hA (s_M_isSpan l dC dI cI cL qT mo mw nv ma mb ns mlo mhi nw mwe mru mrd th mg u (by omega) (by omega)) (zcwV S (List.mem_cons_of_mem _ k_M_144) mV_M_isSpan k_M_144 hd_M_isSpan rfl rfl ⟨Nat.le_of_ble_eq_true rfl, Nat.le_of_ble_eq_true rfl⟩) rfl (Nat.le_of_ble_eq_true rfl) d_M_end_3 ⟨Nat.le_of_ble_eq_true rfl, Nat.le_of_ble_eq_true rfl⟩ rfl [0] [] 0 rfl rfl rfl (by decide) rfl rfl rfl (by decide) (by decide) (fun x w hp => ?_)
  obtain ⟨rfl, rfl⟩ := hp
  show ZZ _ _ _ _ _ _ _ _ _ _ _ _ _ _ _ _ _ _ 6 [(0, .ref mo), (1, .int (zI u)), (2, .int (zI w))] [.int (zI (b2 (0 ≤ u ∧ u < (ns : Int)))), .ref mo] [oM mo th mw (nv : Int) mg ma mb (ns : Int) mlo mhi (nw : Int) mwe mru mrd]
  have hb1 := b2_r (0 ≤ u ∧ u < (ns : Int))
  refine z_if_eq (tgt := 22) S d_M_end_6 (by decide) (by omega) (fun c1 => ?_) (fun c1 => ?_)
  · skip
    refine z_iconst S d_M_end_22 ?_
    refine z_iconst S d_M_end_23 ?_
    refine z_iconst S d_M_end_24 ?_
    refine z_callVa (As := [.int (zI 0), .int (zI 1), .int (zI 1)]) (st := []) (wc := [oM mo th mw (nv : Int) mg ma mb (ns : Int) mlo mhi (nw : Int) mwe mru mrd]) (wr := []) S hGok hK hg hA (s_M_goes l dC dI cI cL qT mo mw nv ma mb ns mlo mhi nw mwe mru mrd th mg 0 1 1 (by omega) (by omega) (by omega)) (zcwV S (List.mem_cons_of_mem _ k_M_118) mV_M_goes k_M_118 hd_M_goes rfl rfl ⟨Nat.le_of_ble_eq_true rfl, Nat.le_of_ble_eq_true rfl⟩) rfl (Nat.le_of_ble_eq_true rfl) d_M_end_25 ⟨Nat.le_of_ble_eq_true rfl, Nat.le_of_ble_eq_true rfl⟩ rfl [0] [] 0 rfl rfl rfl (by decide) rfl rfl rfl (by decide) (by decide) (fun x w hp => ?_)
    obtain ⟨rfl, rfl⟩ := hp
    show ZZ _ _ _ _ _ _ _ _ _ _ _ _ _ _ _ _ _ _ 28 [(0, .ref mo), (1, .int (zI u)), (2, .int (zI w))] [.int (zI (b2 (gth 0 1 1 = 0)))] [oM mo (gth 0 1 1) mw (nv : Int) mg ma mb (ns : Int) mlo mhi (nw : Int) mwe mru mrd]
    refine z_toi (a := 0) rfl ?_
    refine z_wq (ws' := [oM mo 1 mw (nv : Int) mg ma mb (ns : Int) mlo mhi (nw : Int) mwe mru mrd]) rfl ?_
    refine z_if_ne (tgt := 33) S d_M_end_28 (by decide) (by omega) (fun c2 => ?_) (fun c2 => ?_)
    · skip
      exact absurd c2 (by omega)
    · skip
      refine z_iconst S d_M_end_31 ?_
      exact z_iret (w := [oM mo 1 mw (nv : Int) mg ma mb (ns : Int) mlo mhi (nw : Int) mwe mru mrd]) S hr hlo hAe d_M_end_32 [0] (by decide) rfl rfl ⟨Nat.le_refl _, Nat.le_refl _⟩ (⟨rfl, rfl⟩)
  · skip
    have hq6 := b2_p c1
    refine z_iload_n S d_M_end_9 2 rfl ?_
    refine z_if_lt (tgt := 22) S d_M_end_10 (by decide) (by omega) (fun c3 => ?_) (fun c3 => ?_)
    · skip
      refine z_iconst S d_M_end_22 ?_
      refine z_iconst S d_M_end_23 ?_
      refine z_iconst S d_M_end_24 ?_
      refine z_callVa (As := [.int (zI 0), .int (zI 1), .int (zI 1)]) (st := []) (wc := [oM mo th mw (nv : Int) mg ma mb (ns : Int) mlo mhi (nw : Int) mwe mru mrd]) (wr := []) S hGok hK hg hA (s_M_goes l dC dI cI cL qT mo mw nv ma mb ns mlo mhi nw mwe mru mrd th mg 0 1 1 (by omega) (by omega) (by omega)) (zcwV S (List.mem_cons_of_mem _ k_M_118) mV_M_goes k_M_118 hd_M_goes rfl rfl ⟨Nat.le_of_ble_eq_true rfl, Nat.le_of_ble_eq_true rfl⟩) rfl (Nat.le_of_ble_eq_true rfl) d_M_end_25 ⟨Nat.le_of_ble_eq_true rfl, Nat.le_of_ble_eq_true rfl⟩ rfl [0] [] 0 rfl rfl rfl (by decide) rfl rfl rfl (by decide) (by decide) (fun x w hp => ?_)
      obtain ⟨rfl, rfl⟩ := hp
      show ZZ _ _ _ _ _ _ _ _ _ _ _ _ _ _ _ _ _ _ 28 [(0, .ref mo), (1, .int (zI u)), (2, .int (zI w))] [.int (zI (b2 (gth 0 1 1 = 0)))] [oM mo (gth 0 1 1) mw (nv : Int) mg ma mb (ns : Int) mlo mhi (nw : Int) mwe mru mrd]
      refine z_toi (a := 0) rfl ?_
      refine z_wq (ws' := [oM mo 1 mw (nv : Int) mg ma mb (ns : Int) mlo mhi (nw : Int) mwe mru mrd]) rfl ?_
      refine z_if_ne (tgt := 33) S d_M_end_28 (by decide) (by omega) (fun c4 => ?_) (fun c4 => ?_)
      · skip
        exact absurd c4 (by omega)
      · skip
        refine z_iconst S d_M_end_31 ?_
        exact z_iret (w := [oM mo 1 mw (nv : Int) mg ma mb (ns : Int) mlo mhi (nw : Int) mwe mru mrd]) S hr hlo hAe d_M_end_32 [0] (by decide) rfl rfl ⟨Nat.le_refl _, Nat.le_refl _⟩ (⟨rfl, rfl⟩)
    · skip
      refine z_iload_n S d_M_end_13 2 rfl ?_
      refine z_iconst S d_M_end_14 ?_
      refine z_icmp_gt (tgt := 22) S d_M_end_15 (by decide) (by omega) (by omega) (fun c5 => ?_) (fun c5 => ?_)
      · skip
        refine z_iconst S d_M_end_22 ?_
        refine z_iconst S d_M_end_23 ?_
        refine z_iconst S d_M_end_24 ?_
        refine z_callVa (As := [.int (zI 0), .int (zI 1), .int (zI 1)]) (st := []) (wc := [oM mo th mw (nv : Int) mg ma mb (ns : Int) mlo mhi (nw : Int) mwe mru mrd]) (wr := []) S hGok hK hg hA (s_M_goes l dC dI cI cL qT mo mw nv ma mb ns mlo mhi nw mwe mru mrd th mg 0 1 1 (by omega) (by omega) (by omega)) (zcwV S (List.mem_cons_of_mem _ k_M_118) mV_M_goes k_M_118 hd_M_goes rfl rfl ⟨Nat.le_of_ble_eq_true rfl, Nat.le_of_ble_eq_true rfl⟩) rfl (Nat.le_of_ble_eq_true rfl) d_M_end_25 ⟨Nat.le_of_ble_eq_true rfl, Nat.le_of_ble_eq_true rfl⟩ rfl [0] [] 0 rfl rfl rfl (by decide) rfl rfl rfl (by decide) (by decide) (fun x w hp => ?_)
        obtain ⟨rfl, rfl⟩ := hp
        show ZZ _ _ _ _ _ _ _ _ _ _ _ _ _ _ _ _ _ _ 28 [(0, .ref mo), (1, .int (zI u)), (2, .int (zI w))] [.int (zI (b2 (gth 0 1 1 = 0)))] [oM mo (gth 0 1 1) mw (nv : Int) mg ma mb (ns : Int) mlo mhi (nw : Int) mwe mru mrd]
        refine z_toi (a := 0) rfl ?_
        refine z_wq (ws' := [oM mo 1 mw (nv : Int) mg ma mb (ns : Int) mlo mhi (nw : Int) mwe mru mrd]) rfl ?_
        refine z_if_ne (tgt := 33) S d_M_end_28 (by decide) (by omega) (fun c6 => ?_) (fun c6 => ?_)
        · skip
          exact absurd c6 (by omega)
        · skip
          refine z_iconst S d_M_end_31 ?_
          exact z_iret (w := [oM mo 1 mw (nv : Int) mg ma mb (ns : Int) mlo mhi (nw : Int) mwe mru mrd]) S hr hlo hAe d_M_end_32 [0] (by decide) rfl rfl ⟨Nat.le_refl _, Nat.le_refl _⟩ (⟨rfl, rfl⟩)
      · skip
        exact absurd ⟨hq6, by omega⟩ hu
set_option maxHeartbeats 4000000 in
set_option maxRecDepth 100000 in
theorem s_M_weight (l : Launch) (dC : Nat → ClassId) (dI : Nat → Nat → Nat) (cI cL : ClassId) (qT : Nat) (mo : Nat) (mw : Nat) (nv : Nat) (ma : Nat) (mb : Nat) (ns : Nat) (mlo : Nat) (mhi : Nat) (nw : Nat) (mwe : Nat) (mru : Nat) (mrd : Nat) (th : Int) (mg : Nat) (we : Nat → Nat) (wt : Nat) (hw : wt ≤ 1000000000) (hnw : nw < 20) : Ct l y_M_weight (Cond.code y_M_weight c_M_weight 3 (some .int) :: zB) { frames := 1, cells := 0, slots := 0, locals := 23 } (dC, dI) zcl [(cI, .int), (cL, .long)] (zG cI cL qT) [.ref mo, .long (zL (wt : Int))] [oM mo th mw (nv : Int) mg ma mb (ns : Int) mlo mhi (nw : Int) mwe mru mrd, aL cL mwe 20 (wA we)] (fun rv wv => rv = .int (zI ((nw + 1 : Nat) : Int)) ∧ wv = [oM mo 0 mw (nv : Int) mg ma mb (ns : Int) mlo mhi ((nw + 1 : Nat) : Int) mwe mru mrd, aL cL mwe 20 (wA (un we nw wt))]) 0 0 := by
  refine Cm.ofZ (cc := c_M_weight) (maxL := 3) (ret := (some .int)) (by decide) rfl (Nat.le_of_ble_eq_true rfl) rfl ?_
  intro p e s m below meth c A S hr hlo hnm hK hg hA hAe
  have hGok := zG_ok cI cL qT
  show ZZ _ _ _ _ _ _ _ _ _ _ _ _ _ _ _ _ _ _ 0 [(0, .ref mo), (1, .long (zL (wt : Int)))] [] [oM mo th mw (nv : Int) mg ma mb (ns : Int) mlo mhi (nw : Int) mwe mru mrd, aL cL mwe 20 (wA we)]
  refine z_aload_n S d_M_weight_0 0 rfl ?_
  refine z_lload_n S d_M_weight_1 1 rfl ?_
  refine z_lconst (z := 0) S d_M_weight_2 rfl ?_
  refine z_lcmp_lt (tgt := 19) S d_M_weight_3 d_M_weight_4 (by decide) (by omega) (by omega) (fun c1 => ?_) (fun c1 => ?_)
  · skip
    omega
  · skip
    refine z_lload_n S d_M_weight_7 1 rfl ?_
    refine z_ldc2 (v := 1000000000) (z := 1000000000) S k_M_138 d_M_weight_8 (by decide) ?_
    refine z_lcmp_gt (tgt := 19) S d_M_weight_11 d_M_weight_12 (by decide) (by omega) (by omega) (fun c2 => ?_) (fun c2 => ?_)
    · skip
      omega
    · skip
      refine z_iconst S d_M_weight_15 ?_
      refine z_goto (tgt := 20) S d_M_weight_16 (by decide) ?_
      refine z_aload_n S d_M_weight_20 0 rfl ?_
      refine z_get S hK la_M 0 rfl rfl 9 (by decide) k_M_147 rfl d_M_weight_21 ?_
      refine z_bipush S d_M_weight_24 rfl ?_
      refine z_icmp_ge (tgt := 33) S d_M_weight_26 (by decide) (by omega) (by omega) (fun c3 => ?_) (fun c3 => ?_)
      · skip
        omega
      · skip
        refine z_iconst S d_M_weight_29 ?_
        refine z_goto (tgt := 34) S d_M_weight_30 (by decide) ?_
        refine z_iconst S d_M_weight_34 ?_
        refine z_callVa (As := [.int (zI 1), .int (zI 1), .int (zI 1)]) (st := []) (wc := [oM mo th mw (nv : Int) mg ma mb (ns : Int) mlo mhi (nw : Int) mwe mru mrd]) (wr := [aL cL mwe 20 (wA we)]) S hGok hK hg hA (s_M_goes l dC dI cI cL qT mo mw nv ma mb ns mlo mhi nw mwe mru mrd th mg 1 1 1 (by omega) (by omega) (by omega)) (zcwV S (List.mem_cons_of_mem _ k_M_118) mV_M_goes k_M_118 hd_M_goes rfl rfl ⟨Nat.le_of_ble_eq_true rfl, Nat.le_of_ble_eq_true rfl⟩) rfl (Nat.le_of_ble_eq_true rfl) d_M_weight_35 ⟨Nat.le_of_ble_eq_true rfl, Nat.le_of_ble_eq_true rfl⟩ rfl [0] [1] 0 rfl rfl rfl (by decide) rfl rfl rfl (by decide) (by decide) (fun x w hp => ?_)
        obtain ⟨rfl, rfl⟩ := hp
        show ZZ _ _ _ _ _ _ _ _ _ _ _ _ _ _ _ _ _ _ 38 [(0, .ref mo), (1, .long (zL (wt : Int)))] [.int (zI (b2 (gth 1 1 1 = 0)))] [aL cL mwe 20 (wA we), oM mo (gth 1 1 1) mw (nv : Int) mg ma mb (ns : Int) mlo mhi (nw : Int) mwe mru mrd]
        refine z_toi (a := 1) rfl ?_
        refine z_wq (ws' := [aL cL mwe 20 (wA we), oM mo 0 mw (nv : Int) mg ma mb (ns : Int) mlo mhi (nw : Int) mwe mru mrd]) rfl ?_
        refine z_if_ne (tgt := 43) S d_M_weight_38 (by decide) (by omega) (fun c4 => ?_) (fun c4 => ?_)
        · skip
          refine z_aload_n S d_M_weight_43 0 rfl ?_
          refine z_get S hK la_M 1 rfl rfl 10 (by decide) k_M_29 rfl d_M_weight_44 ?_
          refine z_aload_n S d_M_weight_47 0 rfl ?_
          refine z_get S hK la_M 1 rfl rfl 9 (by decide) k_M_147 rfl d_M_weight_48 ?_
          refine z_lload_n S d_M_weight_51 1 rfl ?_
          refine z_last (f' := wA (un we nw wt)) (ws' := [aL cL mwe 20 (wA (un we nw wt)), oM mo 0 mw (nv : Int) mg ma mb (ns : Int) mlo mhi (nw : Int) mwe mru mrd]) S hK 0 1 rfl rfl nw rfl (by omega) (by decide) (wA_u rfl) rfl d_M_weight_52 ?_
          refine z_aload_n S d_M_weight_53 0 rfl ?_
          refine z_dup S d_M_weight_54 rfl ?_
          refine z_get S hK la_M 1 rfl rfl 9 (by decide) k_M_147 rfl d_M_weight_55 ?_
          refine z_iconst S d_M_weight_58 ?_
          refine z_iadd S d_M_weight_59 ?_
          refine z_put (ws' := [aL cL mwe 20 (wA (un we nw wt)), oM mo 0 mw (nv : Int) mg ma mb (ns : Int) mlo mhi ((nw : Int) + 1) mwe mru mrd]) S hK la_M ty_M tyok_M nm_M 1 rfl rfl 9 (by decide) k_M_147 rfl (ty := .int) (by decide +kernel) rfl rfl (Nat.le_of_ble_eq_true rfl) rfl d_M_weight_60 ?_
          refine z_wq (ws' := [aL cL mwe 20 (wA (un we nw wt)), oM mo 0 mw (nv : Int) mg ma mb (ns : Int) mlo mhi ((nw + 1 : Nat) : Int) mwe mru mrd]) (by rw [show (nw : Int) + 1 = ((nw + 1 : Nat) : Int) by omega]) ?_
          refine z_aload_n S d_M_weight_63 0 rfl ?_
          refine z_get S hK la_M 1 rfl rfl 9 (by decide) k_M_147 rfl d_M_weight_64 ?_
          exact z_iret (w := [oM mo 0 mw (nv : Int) mg ma mb (ns : Int) mlo mhi ((nw + 1 : Nat) : Int) mwe mru mrd, aL cL mwe 20 (wA (un we nw wt))]) S hr hlo hAe d_M_weight_67 [1, 0] (by decide) rfl rfl ⟨Nat.le_refl _, Nat.le_refl _⟩ (⟨rfl, rfl⟩)
        · skip
          exact absurd c4 (by omega)
set_option maxHeartbeats 4000000 in
set_option maxRecDepth 100000 in
theorem f1_M_weight (l : Launch) (dC : Nat → ClassId) (dI : Nat → Nat → Nat) (cI cL : ClassId) (qT : Nat) (mo : Nat) (mw : Nat) (nv : Nat) (ma : Nat) (mb : Nat) (ns : Nat) (mlo : Nat) (mhi : Nat) (nw : Nat) (mwe : Nat) (mru : Nat) (mrd : Nat) (th : Int) (mg : Nat) (wt : Int) (hnw : nw ≤ 20) (hwr : -9223372036854775808 ≤ wt ∧ wt < 9223372036854775808) (hw : ¬ (0 ≤ wt ∧ wt ≤ 1000000000)) : Ct l y_M_weight (Cond.code y_M_weight c_M_weight 3 (some .int) :: zB) { frames := 1, cells := 0, slots := 0, locals := 23 } (dC, dI) zcl [(cI, .int), (cL, .long)] (zG cI cL qT) [.ref mo, .long (zL wt)] [oM mo th mw (nv : Int) mg ma mb (ns : Int) mlo mhi (nw : Int) mwe mru mrd] (fun rv wv => rv = .int (zI 0) ∧ wv = [oM mo 1 mw (nv : Int) mg ma mb (ns : Int) mlo mhi (nw : Int) mwe mru mrd]) 0 0 := by
  refine Cm.ofZ (cc := c_M_weight) (maxL := 3) (ret := (some .int)) (by decide) rfl (Nat.le_of_ble_eq_true rfl) rfl ?_
  intro p e s m below meth c A S hr hlo hnm hK hg hA hAe
  have hGok := zG_ok cI cL qT
  show ZZ _ _ _ _ _ _ _ _ _ _ _ _ _ _ _ _ _ _ 0 [(0, .ref mo), (1, .long (zL wt))] [] [oM mo th mw (nv : Int) mg ma mb (ns : Int) mlo mhi (nw : Int) mwe mru mrd]
  refine z_aload_n S d_M_weight_0 0 rfl ?_
  refine z_lload_n S d_M_weight_1 1 rfl ?_
  refine z_lconst (z := 0) S d_M_weight_2 rfl ?_
  refine z_lcmp_lt (tgt := 19) S d_M_weight_3 d_M_weight_4 (by decide) (by omega) (by omega) (fun c1 => ?_) (fun c1 => ?_)
  · skip
    refine z_iconst S d_M_weight_19 ?_
    refine z_aload_n S d_M_weight_20 0 rfl ?_
    refine z_get S hK la_M 0 rfl rfl 9 (by decide) k_M_147 rfl d_M_weight_21 ?_
    refine z_bipush S d_M_weight_24 rfl ?_
    refine z_icmp_ge (tgt := 33) S d_M_weight_26 (by decide) (by omega) (by omega) (fun c2 => ?_) (fun c2 => ?_)
    · skip
      refine z_iconst S d_M_weight_33 ?_
      refine z_iconst S d_M_weight_34 ?_
      refine z_callVa (As := [.int (zI 0), .int (zI 0), .int (zI 1)]) (st := []) (wc := [oM mo th mw (nv : Int) mg ma mb (ns : Int) mlo mhi (nw : Int) mwe mru mrd]) (wr := []) S hGok hK hg hA (s_M_goes l dC dI cI cL qT mo mw nv ma mb ns mlo mhi nw mwe mru mrd th mg 0 0 1 (by omega) (by omega) (by omega)) (zcwV S (List.mem_cons_of_mem _ k_M_118) mV_M_goes k_M_118 hd_M_goes rfl rfl ⟨Nat.le_of_ble_eq_true rfl, Nat.le_of_ble_eq_true rfl⟩) rfl (Nat.le_of_ble_eq_true rfl) d_M_weight_35 ⟨Nat.le_of_ble_eq_true rfl, Nat.le_of_ble_eq_true rfl⟩ rfl [0] [] 0 rfl rfl rfl (by decide) rfl rfl rfl (by decide) (by decide) (fun x w hp => ?_)
      obtain ⟨rfl, rfl⟩ := hp
      show ZZ _ _ _ _ _ _ _ _ _ _ _ _ _ _ _ _ _ _ 38 [(0, .ref mo), (1, .long (zL wt))] [.int (zI (b2 (gth 0 0 1 = 0)))] [oM mo (gth 0 0 1) mw (nv : Int) mg ma mb (ns : Int) mlo mhi (nw : Int) mwe mru mrd]
      refine z_toi (a := 0) rfl ?_
      refine z_wq (ws' := [oM mo 1 mw (nv : Int) mg ma mb (ns : Int) mlo mhi (nw : Int) mwe mru mrd]) rfl ?_
      refine z_if_ne (tgt := 43) S d_M_weight_38 (by decide) (by omega) (fun c3 => ?_) (fun c3 => ?_)
      · skip
        exact absurd c3 (by omega)
      · skip
        refine z_iconst S d_M_weight_41 ?_
        exact z_iret (w := [oM mo 1 mw (nv : Int) mg ma mb (ns : Int) mlo mhi (nw : Int) mwe mru mrd]) S hr hlo hAe d_M_weight_42 [0] (by decide) rfl rfl ⟨Nat.le_refl _, Nat.le_refl _⟩ (⟨rfl, rfl⟩)
    · skip
      refine z_iconst S d_M_weight_29 ?_
      refine z_goto (tgt := 34) S d_M_weight_30 (by decide) ?_
      refine z_iconst S d_M_weight_34 ?_
      refine z_callVa (As := [.int (zI 0), .int (zI 1), .int (zI 1)]) (st := []) (wc := [oM mo th mw (nv : Int) mg ma mb (ns : Int) mlo mhi (nw : Int) mwe mru mrd]) (wr := []) S hGok hK hg hA (s_M_goes l dC dI cI cL qT mo mw nv ma mb ns mlo mhi nw mwe mru mrd th mg 0 1 1 (by omega) (by omega) (by omega)) (zcwV S (List.mem_cons_of_mem _ k_M_118) mV_M_goes k_M_118 hd_M_goes rfl rfl ⟨Nat.le_of_ble_eq_true rfl, Nat.le_of_ble_eq_true rfl⟩) rfl (Nat.le_of_ble_eq_true rfl) d_M_weight_35 ⟨Nat.le_of_ble_eq_true rfl, Nat.le_of_ble_eq_true rfl⟩ rfl [0] [] 0 rfl rfl rfl (by decide) rfl rfl rfl (by decide) (by decide) (fun x w hp => ?_)
      obtain ⟨rfl, rfl⟩ := hp
      show ZZ _ _ _ _ _ _ _ _ _ _ _ _ _ _ _ _ _ _ 38 [(0, .ref mo), (1, .long (zL wt))] [.int (zI (b2 (gth 0 1 1 = 0)))] [oM mo (gth 0 1 1) mw (nv : Int) mg ma mb (ns : Int) mlo mhi (nw : Int) mwe mru mrd]
      refine z_toi (a := 0) rfl ?_
      refine z_wq (ws' := [oM mo 1 mw (nv : Int) mg ma mb (ns : Int) mlo mhi (nw : Int) mwe mru mrd]) rfl ?_
      refine z_if_ne (tgt := 43) S d_M_weight_38 (by decide) (by omega) (fun c4 => ?_) (fun c4 => ?_)
      · skip
        exact absurd c4 (by omega)
      · skip
        refine z_iconst S d_M_weight_41 ?_
        exact z_iret (w := [oM mo 1 mw (nv : Int) mg ma mb (ns : Int) mlo mhi (nw : Int) mwe mru mrd]) S hr hlo hAe d_M_weight_42 [0] (by decide) rfl rfl ⟨Nat.le_refl _, Nat.le_refl _⟩ (⟨rfl, rfl⟩)
  · skip
    refine z_lload_n S d_M_weight_7 1 rfl ?_
    refine z_ldc2 (v := 1000000000) (z := 1000000000) S k_M_138 d_M_weight_8 (by decide) ?_
    refine z_lcmp_gt (tgt := 19) S d_M_weight_11 d_M_weight_12 (by decide) (by omega) (by omega) (fun c5 => ?_) (fun c5 => ?_)
    · skip
      refine z_iconst S d_M_weight_19 ?_
      refine z_aload_n S d_M_weight_20 0 rfl ?_
      refine z_get S hK la_M 0 rfl rfl 9 (by decide) k_M_147 rfl d_M_weight_21 ?_
      refine z_bipush S d_M_weight_24 rfl ?_
      refine z_icmp_ge (tgt := 33) S d_M_weight_26 (by decide) (by omega) (by omega) (fun c6 => ?_) (fun c6 => ?_)
      · skip
        refine z_iconst S d_M_weight_33 ?_
        refine z_iconst S d_M_weight_34 ?_
        refine z_callVa (As := [.int (zI 0), .int (zI 0), .int (zI 1)]) (st := []) (wc := [oM mo th mw (nv : Int) mg ma mb (ns : Int) mlo mhi (nw : Int) mwe mru mrd]) (wr := []) S hGok hK hg hA (s_M_goes l dC dI cI cL qT mo mw nv ma mb ns mlo mhi nw mwe mru mrd th mg 0 0 1 (by omega) (by omega) (by omega)) (zcwV S (List.mem_cons_of_mem _ k_M_118) mV_M_goes k_M_118 hd_M_goes rfl rfl ⟨Nat.le_of_ble_eq_true rfl, Nat.le_of_ble_eq_true rfl⟩) rfl (Nat.le_of_ble_eq_true rfl) d_M_weight_35 ⟨Nat.le_of_ble_eq_true rfl, Nat.le_of_ble_eq_true rfl⟩ rfl [0] [] 0 rfl rfl rfl (by decide) rfl rfl rfl (by decide) (by decide) (fun x w hp => ?_)
        obtain ⟨rfl, rfl⟩ := hp
        show ZZ _ _ _ _ _ _ _ _ _ _ _ _ _ _ _ _ _ _ 38 [(0, .ref mo), (1, .long (zL wt))] [.int (zI (b2 (gth 0 0 1 = 0)))] [oM mo (gth 0 0 1) mw (nv : Int) mg ma mb (ns : Int) mlo mhi (nw : Int) mwe mru mrd]
        refine z_toi (a := 0) rfl ?_
        refine z_wq (ws' := [oM mo 1 mw (nv : Int) mg ma mb (ns : Int) mlo mhi (nw : Int) mwe mru mrd]) rfl ?_
        refine z_if_ne (tgt := 43) S d_M_weight_38 (by decide) (by omega) (fun c7 => ?_) (fun c7 => ?_)
        · skip
          exact absurd c7 (by omega)
        · skip
          refine z_iconst S d_M_weight_41 ?_
          exact z_iret (w := [oM mo 1 mw (nv : Int) mg ma mb (ns : Int) mlo mhi (nw : Int) mwe mru mrd]) S hr hlo hAe d_M_weight_42 [0] (by decide) rfl rfl ⟨Nat.le_refl _, Nat.le_refl _⟩ (⟨rfl, rfl⟩)
      · skip
        refine z_iconst S d_M_weight_29 ?_
        refine z_goto (tgt := 34) S d_M_weight_30 (by decide) ?_
        refine z_iconst S d_M_weight_34 ?_
        refine z_callVa (As := [.int (zI 0), .int (zI 1), .int (zI 1)]) (st := []) (wc := [oM mo th mw (nv : Int) mg ma mb (ns : Int) mlo mhi (nw : Int) mwe mru mrd]) (wr := []) S hGok hK hg hA (s_M_goes l dC dI cI cL qT mo mw nv ma mb ns mlo mhi nw mwe mru mrd th mg 0 1 1 (by omega) (by omega) (by omega)) (zcwV S (List.mem_cons_of_mem _ k_M_118) mV_M_goes k_M_118 hd_M_goes rfl rfl ⟨Nat.le_of_ble_eq_true rfl, Nat.le_of_ble_eq_true rfl⟩) rfl (Nat.le_of_ble_eq_true rfl) d_M_weight_35 ⟨Nat.le_of_ble_eq_true rfl, Nat.le_of_ble_eq_true rfl⟩ rfl [0] [] 0 rfl rfl rfl (by decide) rfl rfl rfl (by decide) (by decide) (fun x w hp => ?_)
        obtain ⟨rfl, rfl⟩ := hp
        show ZZ _ _ _ _ _ _ _ _ _ _ _ _ _ _ _ _ _ _ 38 [(0, .ref mo), (1, .long (zL wt))] [.int (zI (b2 (gth 0 1 1 = 0)))] [oM mo (gth 0 1 1) mw (nv : Int) mg ma mb (ns : Int) mlo mhi (nw : Int) mwe mru mrd]
        refine z_toi (a := 0) rfl ?_
        refine z_wq (ws' := [oM mo 1 mw (nv : Int) mg ma mb (ns : Int) mlo mhi (nw : Int) mwe mru mrd]) rfl ?_
        refine z_if_ne (tgt := 43) S d_M_weight_38 (by decide) (by omega) (fun c8 => ?_) (fun c8 => ?_)
        · skip
          exact absurd c8 (by omega)
        · skip
          refine z_iconst S d_M_weight_41 ?_
          exact z_iret (w := [oM mo 1 mw (nv : Int) mg ma mb (ns : Int) mlo mhi (nw : Int) mwe mru mrd]) S hr hlo hAe d_M_weight_42 [0] (by decide) rfl rfl ⟨Nat.le_refl _, Nat.le_refl _⟩ (⟨rfl, rfl⟩)
    · skip
      omega
set_option maxHeartbeats 4000000 in
set_option maxRecDepth 100000 in
theorem f2_M_weight (l : Launch) (dC : Nat → ClassId) (dI : Nat → Nat → Nat) (cI cL : ClassId) (qT : Nat) (mo : Nat) (mw : Nat) (nv : Nat) (ma : Nat) (mb : Nat) (ns : Nat) (mlo : Nat) (mhi : Nat) (nw : Nat) (mwe : Nat) (mru : Nat) (mrd : Nat) (th : Int) (mg : Nat) (wt : Int) (hw : 0 ≤ wt ∧ wt ≤ 1000000000) (hnw : nw = 20) : Ct l y_M_weight (Cond.code y_M_weight c_M_weight 3 (some .int) :: zB) { frames := 1, cells := 0, slots := 0, locals := 23 } (dC, dI) zcl [(cI, .int), (cL, .long)] (zG cI cL qT) [.ref mo, .long (zL wt)] [oM mo th mw (nv : Int) mg ma mb (ns : Int) mlo mhi (nw : Int) mwe mru mrd] (fun rv wv => rv = .int (zI 0) ∧ wv = [oM mo 2 mw (nv : Int) mg ma mb (ns : Int) mlo mhi (nw : Int) mwe mru mrd]) 0 0 := by
  refine Cm.ofZ (cc := c_M_weight) (maxL := 3) (ret := (some .int)) (by decide) rfl (Nat.le_of_ble_eq_true rfl) rfl ?_
  intro p e s m below meth c A S hr hlo hnm hK hg hA hAe
  have hGok := zG_ok cI cL qT
  show ZZ _ _ _ _ _ _ _ _ _ _ _ _ _ _ _ _ _ _ 0 [(0, .ref mo), (1, .long (zL wt))] [] [oM mo th mw (nv : Int) mg ma mb (ns : Int) mlo mhi (nw : Int) mwe mru mrd]
  refine z_aload_n S d_M_weight_0 0 rfl ?_
  refine z_lload_n S d_M_weight_1 1 rfl ?_
  refine z_lconst (z := 0) S d_M_weight_2 rfl ?_
  refine z_lcmp_lt (tgt := 19) S d_M_weight_3 d_M_weight_4 (by decide) (by omega) (by omega) (fun c1 => ?_) (fun c1 => ?_)
  · skip
    omega
  · skip
    refine z_lload_n S d_M_weight_7 1 rfl ?_
    refine z_ldc2 (v := 1000000000) (z := 1000000000) S k_M_138 d_M_weight_8 (by decide) ?_
    refine z_lcmp_gt (tgt := 19) S d_M_weight_11 d_M_weight_12 (by decide) (by omega) (by omega) (fun c2 => ?_) (fun c2 => ?_)
    · skip
      omega
    · skip
      refine z_iconst S d_M_weight_15 ?_
      refine z_goto (tgt := 20) S d_M_weight_16 (by decide) ?_
      refine z_aload_n S d_M_weight_20 0 rfl ?_
      refine z_get S hK la_M 0 rfl rfl 9 (by decide) k_M_147 rfl d_M_weight_21 ?_
      refine z_bipush S d_M_weight_24 rfl ?_
      refine z_icmp_ge (tgt := 33) S d_M_weight_26 (by decide) (by omega) (by omega) (fun c3 => ?_) (fun c3 => ?_)
      · skip
        refine z_iconst S d_M_weight_33 ?_
        refine z_iconst S d_M_weight_34 ?_
        refine z_callVa (As := [.int (zI 1), .int (zI 0), .int (zI 1)]) (st := []) (wc := [oM mo th mw (nv : Int) mg ma mb (ns : Int) mlo mhi (nw : Int) mwe mru mrd]) (wr := []) S hGok hK hg hA (s_M_goes l dC dI cI cL qT mo mw nv ma mb ns mlo mhi nw mwe mru mrd th mg 1 0 1 (by omega) (by omega) (by omega)) (zcwV S (List.mem_cons_of_mem _ k_M_118) mV_M_goes k_M_118 hd_M_goes rfl rfl ⟨Nat.le_of_ble_eq_true rfl, Nat.le_of_ble_eq_true rfl⟩) rfl (Nat.le_of_ble_eq_true rfl) d_M_weight_35 ⟨Nat.le_of_ble_eq_true rfl, Nat.le_of_ble_eq_true rfl⟩ rfl [0] [] 0 rfl rfl rfl (by decide) rfl rfl rfl (by decide) (by decide) (fun x w hp => ?_)
        obtain ⟨rfl, rfl⟩ := hp
        show ZZ _ _ _ _ _ _ _ _ _ _ _ _ _ _ _ _ _ _ 38 [(0, .ref mo), (1, .long (zL wt))] [.int (zI (b2 (gth 1 0 1 = 0)))] [oM mo (gth 1 0 1) mw (nv : Int) mg ma mb (ns : Int) mlo mhi (nw : Int) mwe mru mrd]
        refine z_toi (a := 0) rfl ?_
        refine z_wq (ws' := [oM mo 2 mw (nv : Int) mg ma mb (ns : Int) mlo mhi (nw : Int) mwe mru mrd]) rfl ?_
        refine z_if_ne (tgt := 43) S d_M_weight_38 (by decide) (by omega) (fun c4 => ?_) (fun c4 => ?_)
        · skip
          exact absurd c4 (by omega)
        · skip
          refine z_iconst S d_M_weight_41 ?_
          exact z_iret (w := [oM mo 2 mw (nv : Int) mg ma mb (ns : Int) mlo mhi (nw : Int) mwe mru mrd]) S hr hlo hAe d_M_weight_42 [0] (by decide) rfl rfl ⟨Nat.le_refl _, Nat.le_refl _⟩ (⟨rfl, rfl⟩)
      · skip
        omega
set_option maxHeartbeats 4000000 in
set_option maxRecDepth 100000 in
theorem s_M_span (l : Launch) (dC : Nat → ClassId) (dI : Nat → Nat → Nat) (cI cL : ClassId) (qT : Nat) (mo : Nat) (mw : Nat) (nv : Nat) (ma : Nat) (mb : Nat) (ns : Nat) (mlo : Nat) (mhi : Nat) (nw : Nat) (mwe : Nat) (mru : Nat) (mrd : Nat) (th : Int) (mg : Nat) (rr : Nat → Nat) (sg : Nat → Int) (up : Nat → Nat) (dn : Nat → Nat) (lo : Nat → Nat) (hi : Nat → Nat) (u : Nat) (v : Nat) (hnv : nv ≤ 100) (hV : okM sg up dn nv) (hu : u < nv) (hv : v < nv) (hns : ns < 30) (hle : suS (sg u) (-sg v) (up u * dn v) (up v * dn u) ≤ 0) : Ct l y_M_span (Cond.code y_M_span c_M_span 4 (some .int) :: zB) { frames := 4, cells := 0, slots := 0, locals := 101 } (dC, dI) zcl [(cI, .int), (cL, .long)] (zG cI cL qT) [.ref mo, .int (zI (u : Int)), .int (zI (v : Int))] [oM mo th mw (nv : Int) mg ma mb (ns : Int) mlo mhi (nw : Int) mwe mru mrd, aL cL mw 160 (wkA rr), aI cI mg 100 (sgA sg), aL cL ma 800 (moA up), aL cL mb 800 (moA dn), aI cI mlo 30 (eA lo), aI cI mhi 30 (eA hi)] (fun rv wv => ∃ rr2 : Nat → Nat, rv = .int (zI (ns : Int)) ∧ wv = [oM mo 0 mw (nv : Int) mg ma mb ((ns + 1 : Nat) : Int) mlo mhi (nw : Int) mwe mru mrd, aL cL mw 160 (wkA rr2), aI cI mg 100 (sgA sg), aL cL ma 800 (moA up), aL cL mb 800 (moA dn), aI cI mlo 30 (eA (un lo ns u)), aI cI mhi 30 (eA (un hi ns v))]) 0 0 := by
  refine Cm.ofZ (cc := c_M_span) (maxL := 4) (ret := (some .int)) (by decide) rfl (Nat.le_of_ble_eq_true rfl) rfl ?_
  intro p e s m below meth c A S hr hlo hnm hK hg hA hAe
  have hGok := zG_ok cI cL qT
  show ZZ _ _ _ _ _ _ _ _ _ _ _ _ _ _ _ _ _ _ 0 [(0, .ref mo), (1, .int (zI (u : Int))), (2, .int (zI (v : Int)))] [] [oM mo th mw (nv : Int) mg ma mb (ns : Int) mlo mhi (nw : Int) mwe mru mrd, aL cL mw 160 (wkA rr), aI cI mg 100 (sgA sg), aL cL ma 800 (moA up), aL cL mb 800 (moA dn), aI cI mlo 30 (eA lo), aI cI mhi 30 (eA hi)]
  have ku := hV u hu
  have kv := hV v hv
  obtain ⟨u1, u2, u3, u4, u5, u6⟩ := id ku
  obtain ⟨v1, v2, v3, v4, v5, v6⟩ := id kv
  have hsr : -1 ≤ suS (sg u) (-sg v) (up u * dn v) (up v * dn u) ∧ suS (sg u) (-sg v) (up u * dn v) (up v * dn u) ≤ 1 := suS_r ⟨u1, u2⟩ ⟨by omega, by omega⟩
  refine z_aload_n S d_M_span_0 0 rfl ?_
  refine z_iload_n S d_M_span_1 1 rfl ?_
  refine z_callVa (As := [.int (zI (u : Int))]) (st := []) (wc := [oM mo th mw (nv : Int) mg ma mb (ns : Int) mlo mhi (nw : Int) mwe mru mrd]) (wr := [aL cL mw 160 (wkA rr), aI cI mg 100 (sgA sg), aL cL ma 800 (moA up), aL cL mb 800 (moA dn), aI cI mlo 30 (eA lo), aI cI mhi 30 (eA hi)]) S hGok hK hg hA (s_M_isValue l dC dI cI cL qT mo mw nv ma mb ns mlo mhi nw mwe mru mrd th mg (u : Int) (by omega) (by omega)) (zcwV S (List.mem_cons_of_mem _ k_M_125) mV_M_isValue k_M_125 hd_M_isValue rfl rfl ⟨Nat.le_of_ble_eq_true rfl, Nat.le_of_ble_eq_true rfl⟩) rfl (Nat.le_of_ble_eq_true rfl) d_M_span_2 ⟨Nat.le_of_ble_eq_true rfl, Nat.le_of_ble_eq_true rfl⟩ rfl [0] [1, 2, 3, 4, 5, 6] 0 rfl rfl rfl (by decide) rfl rfl rfl (by decide) (by decide) (fun x w hp => ?_)
  obtain ⟨rfl, rfl⟩ := hp
  show ZZ _ _ _ _ _ _ _ _ _ _ _ _ _ _ _ _ _ _ 5 [(0, .ref mo), (1, .int (zI (u : Int))), (2, .int (zI (v : Int)))] [.int (zI (b2 (0 ≤ (u : Int) ∧ (u : Int) < (nv : Int))))] [aL cL mw 160 (wkA rr), aI cI mg 100 (sgA sg), aL cL ma 800 (moA up), aL cL mb 800 (moA dn), aI cI mlo 30 (eA lo), aI cI mhi 30 (eA hi), oM mo th mw (nv : Int) mg ma mb (ns : Int) mlo mhi (nw : Int) mwe mru mrd]
  refine z_toi (a := 1) (zI_c (b2_t ⟨by omega, by omega⟩)) ?_
  refine z_if_eq (tgt := 20) S d_M_span_5 (by decide) (by omega) (fun c1 => ?_) (fun c1 => ?_)
  · skip
    exact absurd c1 (by omega)
  · skip
    refine z_aload_n S d_M_span_8 0 rfl ?_
    refine z_iload_n S d_M_span_9 2 rfl ?_
    refine z_callVa (As := [.int (zI (v : Int))]) (st := []) (wc := [oM mo th mw (nv : Int) mg ma mb (ns : Int) mlo mhi (nw : Int) mwe mru mrd]) (wr := [aL cL mw 160 (wkA rr), aI cI mg 100 (sgA sg), aL cL ma 800 (moA up), aL cL mb 800 (moA dn), aI cI mlo 30 (eA lo), aI cI mhi 30 (eA hi)]) S hGok hK hg hA (s_M_isValue l dC dI cI cL qT mo mw nv ma mb ns mlo mhi nw mwe mru mrd th mg (v : Int) (by omega) (by omega)) (zcwV S (List.mem_cons_of_mem _ k_M_125) mV_M_isValue k_M_125 hd_M_isValue rfl rfl ⟨Nat.le_of_ble_eq_true rfl, Nat.le_of_ble_eq_true rfl⟩) rfl (Nat.le_of_ble_eq_true rfl) d_M_span_10 ⟨Nat.le_of_ble_eq_true rfl, Nat.le_of_ble_eq_true rfl⟩ rfl [6] [0, 1, 2, 3, 4, 5] 6 rfl rfl rfl (by decide) rfl rfl rfl (by decide) (by decide) (fun x w hp => ?_)
    obtain ⟨rfl, rfl⟩ := hp
    show ZZ _ _ _ _ _ _ _ _ _ _ _ _ _ _ _ _ _ _ 13 [(0, .ref mo), (1, .int (zI (u : Int))), (2, .int (zI (v : Int)))] [.int (zI (b2 (0 ≤ (v : Int) ∧ (v : Int) < (nv : Int))))] [aL cL mw 160 (wkA rr), aI cI mg 100 (sgA sg), aL cL ma 800 (moA up), aL cL mb 800 (moA dn), aI cI mlo 30 (eA lo), aI cI mhi 30 (eA hi), oM mo th mw (nv : Int) mg ma mb (ns : Int) mlo mhi (nw : Int) mwe mru mrd]
    refine z_toi (a := 1) (zI_c (b2_t ⟨by omega, by omega⟩)) ?_
    refine z_if_eq (tgt := 20) S d_M_span_13 (by decide) (by omega) (fun c2 => ?_) (fun c2 => ?_)
    · skip
      exact absurd c2 (by omega)
    · skip
      refine z_iconst S d_M_span_16 ?_
      refine z_goto (tgt := 21) S d_M_span_17 (by decide) ?_
      refine z_istore_n (lv' := [(3, .int (zI 1)), (0, .ref mo), (1, .int (zI (u : Int))), (2, .int (zI (v : Int)))]) S d_M_span_21 rfl (by decide) rfl ?_
      refine z_aload_n S d_M_span_22 1 rfl ?_
      refine z_iload_n S d_M_span_23 0 rfl ?_
      refine z_iload_n S d_M_span_24 0 rfl ?_
      refine z_if_eq (tgt := 50) S d_M_span_25 (by decide) (by omega) (fun c3 => ?_) (fun c3 => ?_)
      · skip
        exact absurd c3 (by omega)
      · skip
        refine z_aload_n S d_M_span_28 1 rfl ?_
        refine z_iload_n S d_M_span_29 2 rfl ?_
        refine z_iload_n S d_M_span_30 3 rfl ?_
        refine z_callVa (As := [.int (zI (u : Int)), .int (zI (v : Int))]) (st := [.int (zI 1), .ref mo]) (wc := [oM mo th mw (nv : Int) mg ma mb (ns : Int) mlo mhi (nw : Int) mwe mru mrd, aL cL mw 160 (wkA rr), aI cI mg 100 (sgA sg), aL cL ma 800 (moA up), aL cL mb 800 (moA dn)]) (wr := [aI cI mlo 30 (eA lo), aI cI mhi 30 (eA hi)]) S hGok hK hg hA (s_M_compareValues l dC dI cI cL qT mo mw nv ma mb ns mlo mhi nw mwe mru mrd th mg rr sg up dn u v (by omega) (by omega) (hV u hu) (hV v hv)) (zcwV S (List.mem_cons_of_mem _ k_M_135) mV_M_compareValues k_M_135 hd_M_compareValues rfl rfl ⟨Nat.le_of_ble_eq_true rfl, Nat.le_of_ble_eq_true rfl⟩) rfl (Nat.le_of_ble_eq_true rfl) d_M_span_31 ⟨Nat.le_of_ble_eq_true rfl, Nat.le_of_ble_eq_true rfl⟩ rfl [6, 0, 1, 2, 3] [4, 5] 6 rfl rfl rfl (by decide) rfl rfl rfl (by decide) (by decide) (fun x w hp => ?_)
        obtain ⟨rk, rfl, rfl⟩ := hp
        show ZZ _ _ _ _ _ _ _ _ _ _ _ _ _ _ _ _ _ _ 34 [(3, .int (zI 1)), (0, .ref mo), (1, .int (zI (u : Int))), (2, .int (zI (v : Int)))] [.int (zI (suS (sg u) (-sg v) (up u * dn v) (up v * dn u))), .int (zI 1), .ref mo] [aI cI mlo 30 (eA lo), aI cI mhi 30 (eA hi), oM mo th mw (nv : Int) mg ma mb (ns : Int) mlo mhi (nw : Int) mwe mru mrd, aL cL mw 160 (wkA rk), aI cI mg 100 (sgA sg), aL cL ma 800 (moA up), aL cL mb 800 (moA dn)]
        refine z_if_gt (tgt := 50) S d_M_span_34 (by decide) (by omega) (fun c4 => ?_) (fun c4 => ?_)
        · skip
          omega
        · skip
          refine z_aload_n S d_M_span_37 1 rfl ?_
          refine z_get S hK la_M 2 rfl rfl 6 (by decide) k_M_45 rfl d_M_span_38 ?_
          refine z_bipush S d_M_span_41 rfl ?_
          refine z_icmp_ge (tgt := 50) S d_M_span_43 (by decide) (by omega) (by omega) (fun c5 => ?_) (fun c5 => ?_)
          · skip
            omega
          · skip
            refine z_iconst S d_M_span_46 ?_
            refine z_goto (tgt := 51) S d_M_span_47 (by decide) ?_
            refine z_iconst S d_M_span_51 ?_
            refine z_callVa (As := [.int (zI 1), .int (zI 1), .int (zI 1)]) (st := []) (wc := [oM mo th mw (nv : Int) mg ma mb (ns : Int) mlo mhi (nw : Int) mwe mru mrd]) (wr := [aI cI mlo 30 (eA lo), aI cI mhi 30 (eA hi), aL cL mw 160 (wkA rk), aI cI mg 100 (sgA sg), aL cL ma 800 (moA up), aL cL mb 800 (moA dn)]) S hGok hK hg hA (s_M_goes l dC dI cI cL qT mo mw nv ma mb ns mlo mhi nw mwe mru mrd th mg 1 1 1 (by omega) (by omega) (by omega)) (zcwV S (List.mem_cons_of_mem _ k_M_118) mV_M_goes k_M_118 hd_M_goes rfl rfl ⟨Nat.le_of_ble_eq_true rfl, Nat.le_of_ble_eq_true rfl⟩) rfl (Nat.le_of_ble_eq_true rfl) d_M_span_52 ⟨Nat.le_of_ble_eq_true rfl, Nat.le_of_ble_eq_true rfl⟩ rfl [2] [0, 1, 3, 4, 5, 6] 2 rfl rfl rfl (by decide) rfl rfl rfl (by decide) (by decide) (fun x w hp => ?_)
            obtain ⟨rfl, rfl⟩ := hp
            show ZZ _ _ _ _ _ _ _ _ _ _ _ _ _ _ _ _ _ _ 55 [(3, .int (zI 1)), (0, .ref mo), (1, .int (zI (u : Int))), (2, .int (zI (v : Int)))] [.int (zI (b2 (gth 1 1 1 = 0)))] [aI cI mlo 30 (eA lo), aI cI mhi 30 (eA hi), aL cL mw 160 (wkA rk), aI cI mg 100 (sgA sg), aL cL ma 800 (moA up), aL cL mb 800 (moA dn), oM mo (gth 1 1 1) mw (nv : Int) mg ma mb (ns : Int) mlo mhi (nw : Int) mwe mru mrd]
            refine z_toi (a := 1) rfl ?_
            refine z_wq (ws' := [aI cI mlo 30 (eA lo), aI cI mhi 30 (eA hi), aL cL mw 160 (wkA rk), aI cI mg 100 (sgA sg), aL cL ma 800 (moA up), aL cL mb 800 (moA dn), oM mo 0 mw (nv : Int) mg ma mb (ns : Int) mlo mhi (nw : Int) mwe mru mrd]) rfl ?_
            refine z_if_ne (tgt := 60) S d_M_span_55 (by decide) (by omega) (fun c6 => ?_) (fun c6 => ?_)
            · skip
              refine z_aload_n S d_M_span_60 1 rfl ?_
              refine z_get S hK la_M 6 rfl rfl 7 (by decide) k_M_23 rfl d_M_span_61 ?_
              refine z_aload_n S d_M_span_64 1 rfl ?_
              refine z_get S hK la_M 6 rfl rfl 6 (by decide) k_M_45 rfl d_M_span_65 ?_
              refine z_iload_n S d_M_span_68 2 rfl ?_
              refine z_iast (f' := eA (un lo ns u)) (ws' := [aI cI mlo 30 (eA (un lo ns u)), aI cI mhi 30 (eA hi), aL cL mw 160 (wkA rk), aI cI mg 100 (sgA sg), aL cL ma 800 (moA up), aL cL mb 800 (moA dn), oM mo 0 mw (nv : Int) mg ma mb (ns : Int) mlo mhi (nw : Int) mwe mru mrd]) S hK 0 0 rfl rfl ns rfl (by omega) (by decide) (eA_u rfl) rfl d_M_span_69 ?_
              refine z_aload_n S d_M_span_70 1 rfl ?_
              refine z_get S hK la_M 6 rfl rfl 8 (by decide) k_M_26 rfl d_M_span_71 ?_
              refine z_aload_n S d_M_span_74 1 rfl ?_
              refine z_get S hK la_M 6 rfl rfl 6 (by decide) k_M_45 rfl d_M_span_75 ?_
              refine z_iload_n S d_M_span_78 3 rfl ?_
              refine z_iast (f' := eA (un hi ns v)) (ws' := [aI cI mlo 30 (eA (un lo ns u)), aI cI mhi 30 (eA (un hi ns v)), aL cL mw 160 (wkA rk), aI cI mg 100 (sgA sg), aL cL ma 800 (moA up), aL cL mb 800 (moA dn), oM mo 0 mw (nv : Int) mg ma mb (ns : Int) mlo mhi (nw : Int) mwe mru mrd]) S hK 1 0 rfl rfl ns rfl (by omega) (by decide) (eA_u rfl) rfl d_M_span_79 ?_
              refine z_aload_n S d_M_span_80 1 rfl ?_
              refine z_dup S d_M_span_81 rfl ?_
              refine z_get S hK la_M 6 rfl rfl 6 (by decide) k_M_45 rfl d_M_span_82 ?_
              refine z_iconst S d_M_span_85 ?_
              refine z_iadd S d_M_span_86 ?_
              refine z_put (ws' := [aI cI mlo 30 (eA (un lo ns u)), aI cI mhi 30 (eA (un hi ns v)), aL cL mw 160 (wkA rk), aI cI mg 100 (sgA sg), aL cL ma 800 (moA up), aL cL mb 800 (moA dn), oM mo 0 mw (nv : Int) mg ma mb ((ns : Int) + 1) mlo mhi (nw : Int) mwe mru mrd]) S hK la_M ty_M tyok_M nm_M 6 rfl rfl 6 (by decide) k_M_45 rfl (ty := .int) (by decide +kernel) rfl rfl (Nat.le_of_ble_eq_true rfl) rfl d_M_span_87 ?_
              refine z_wq (ws' := [aI cI mlo 30 (eA (un lo ns u)), aI cI mhi 30 (eA (un hi ns v)), aL cL mw 160 (wkA rk), aI cI mg 100 (sgA sg), aL cL ma 800 (moA up), aL cL mb 800 (moA dn), oM mo 0 mw (nv : Int) mg ma mb ((ns + 1 : Nat) : Int) mlo mhi (nw : Int) mwe mru mrd]) (by rw [show (ns : Int) + 1 = ((ns + 1 : Nat) : Int) by omega]) ?_
              refine z_aload_n S d_M_span_90 1 rfl ?_
              refine z_get S hK la_M 6 rfl rfl 6 (by decide) k_M_45 rfl d_M_span_91 ?_
              refine z_iconst S d_M_span_94 ?_
              refine z_isub S d_M_span_95 ?_
              exact z_iret (w := [oM mo 0 mw (nv : Int) mg ma mb ((ns + 1 : Nat) : Int) mlo mhi (nw : Int) mwe mru mrd, aL cL mw 160 (wkA rk), aI cI mg 100 (sgA sg), aL cL ma 800 (moA up), aL cL mb 800 (moA dn), aI cI mlo 30 (eA (un lo ns u)), aI cI mhi 30 (eA (un hi ns v))]) S hr hlo hAe d_M_span_96 [6, 2, 3, 4, 5, 0, 1] (by decide) rfl rfl ⟨Nat.le_refl _, Nat.le_refl _⟩ (⟨rk, congrArg Value.int (zI_c (by omega)), rfl⟩)
            · skip
              exact absurd c6 (by omega)
set_option maxHeartbeats 4000000 in
set_option maxRecDepth 100000 in
theorem f1_M_span (l : Launch) (dC : Nat → ClassId) (dI : Nat → Nat → Nat) (cI cL : ClassId) (qT : Nat) (mo : Nat) (mw : Nat) (nv : Nat) (ma : Nat) (mb : Nat) (ns : Nat) (mlo : Nat) (mhi : Nat) (nw : Nat) (mwe : Nat) (mru : Nat) (mrd : Nat) (th : Int) (mg : Nat) (u : Int) (v : Int) (hnv : nv ≤ 100) (hns : ns ≤ 30) (hur : -2147483648 ≤ u ∧ u < 2147483648) (hvr : -2147483648 ≤ v ∧ v < 2147483648) (hu : ¬ ((0 ≤ u ∧ u < (nv : Int)) ∧ (0 ≤ v ∧ v < (nv : Int)))) : Ct l y_M_span (Cond.code y_M_span c_M_span 4 (some .int) :: zB) { frames := 4, cells := 0, slots := 0, locals := 101 } (dC, dI) zcl [(cI, .int), (cL, .long)] (zG cI cL qT) [.ref mo, .int (zI u), .int (zI v)] [oM mo th mw (nv : Int) mg ma mb (ns : Int) mlo mhi (nw : Int) mwe mru mrd] (fun rv wv => rv = .int (zI 0) ∧ wv = [oM mo 1 mw (nv : Int) mg ma mb (ns : Int) mlo mhi (nw : Int) mwe mru mrd]) 0 0 := by
  refine Cm.ofZ (cc := c_M_span) (maxL := 4) (ret := (some .int)) (by decide) rfl (Nat.le_of_ble_eq_true rfl) rfl ?_
  intro p e s m below meth c A S hr hlo hnm hK hg hA hAe
  have hGok := zG_ok cI cL qT
  show ZZ _ _ _ _ _ _ _ _ _ _ _ _ _ _ _ _ _ _ 0 [(0, .ref mo), (1, .int (zI u)), (2, .int (zI v))] [] [oM mo th mw (nv : Int) mg ma mb (ns : Int) mlo mhi (nw : Int) mwe mru mrd]
  refine z_aload_n S d_M_span_0 0 rfl ?_
  refine z_iload_n S d_M_span_1 1 rfl ?_
  refine z_callVa (As := [.int (zI u)]) (st := []) (wc := [oM mo th mw (nv : Int) mg ma mb (ns : Int) mlo mhi (nw : Int) mwe mru mrd]) (wr := []) S hGok hK hg hA (s_M_isValue l dC dI cI cL qT mo mw nv ma mb ns mlo mhi nw mwe mru mrd th mg u (by omega) (by omega)) (zcwV S (List.mem_cons_of_mem _ k_M_125) mV_M_isValue k_M_125 hd_M_isValue rfl rfl ⟨Nat.le_of_ble_eq_true rfl, Nat.le_of_ble_eq_true rfl⟩) rfl (Nat.le_of_ble_eq_true rfl) d_M_span_2 ⟨Nat.le_of_ble_eq_true rfl, Nat.le_of_ble_eq_true rfl⟩ rfl [0] [] 0 rfl rfl rfl (by decide) rfl rfl rfl (by decide) (by decide) (fun x w hp => ?_)
  obtain ⟨rfl, rfl⟩ := hp
  show ZZ _ _ _ _ _ _ _ _ _ _ _ _ _ _ _ _ _ _ 5 [(0, .ref mo), (1, .int (zI u)), (2, .int (zI v))] [.int (zI (b2 (0 ≤ u ∧ u < (nv : Int))))] [oM mo th mw (nv : Int) mg ma mb (ns : Int) mlo mhi (nw : Int) mwe mru mrd]
  have hb1 := b2_r (0 ≤ u ∧ u < (nv : Int))
  refine z_if_eq (tgt := 20) S d_M_span_5 (by decide) (by omega) (fun c1 => ?_) (fun c1 => ?_)
  · skip
    refine z_iconst S d_M_span_20 ?_
    refine z_istore_n (lv' := [(3, .int (zI 0)), (0, .ref mo), (1, .int (zI u)), (2, .int (zI v))]) S d_M_span_21 rfl (by decide) rfl ?_
    refine z_aload_n S d_M_span_22 1 rfl ?_
    refine z_iload_n S d_M_span_23 0 rfl ?_
    refine z_iload_n S d_M_span_24 0 rfl ?_
    refine z_if_eq (tgt := 50) S d_M_span_25 (by decide) (by omega) (fun c2 => ?_) (fun c2 => ?_)
    · skip
      refine z_iconst S d_M_span_50 ?_
      refine z_iconst S d_M_span_51 ?_
      refine z_callVa (As := [.int (zI 0), .int (zI 0), .int (zI 1)]) (st := []) (wc := [oM mo th mw (nv : Int) mg ma mb (ns : Int) mlo mhi (nw : Int) mwe mru mrd]) (wr := []) S hGok hK hg hA (s_M_goes l dC dI cI cL qT mo mw nv ma mb ns mlo mhi nw mwe mru mrd th mg 0 0 1 (by omega) (by omega) (by omega)) (zcwV S (List.mem_cons_of_mem _ k_M_118) mV_M_goes k_M_118 hd_M_goes rfl rfl ⟨Nat.le_of_ble_eq_true rfl, Nat.le_of_ble_eq_true rfl⟩) rfl (Nat.le_of_ble_eq_true rfl) d_M_span_52 ⟨Nat.le_of_ble_eq_true rfl, Nat.le_of_ble_eq_true rfl⟩ rfl [0] [] 0 rfl rfl rfl (by decide) rfl rfl rfl (by decide) (by decide) (fun x w hp => ?_)
      obtain ⟨rfl, rfl⟩ := hp
      show ZZ _ _ _ _ _ _ _ _ _ _ _ _ _ _ _ _ _ _ 55 [(3, .int (zI 0)), (0, .ref mo), (1, .int (zI u)), (2, .int (zI v))] [.int (zI (b2 (gth 0 0 1 = 0)))] [oM mo (gth 0 0 1) mw (nv : Int) mg ma mb (ns : Int) mlo mhi (nw : Int) mwe mru mrd]
      refine z_toi (a := 0) rfl ?_
      refine z_wq (ws' := [oM mo 1 mw (nv : Int) mg ma mb (ns : Int) mlo mhi (nw : Int) mwe mru mrd]) rfl ?_
      refine z_if_ne (tgt := 60) S d_M_span_55 (by decide) (by omega) (fun c3 => ?_) (fun c3 => ?_)
      · skip
        exact absurd c3 (by omega)
      · skip
        refine z_iconst S d_M_span_58 ?_
        exact z_iret (w := [oM mo 1 mw (nv : Int) mg ma mb (ns : Int) mlo mhi (nw : Int) mwe mru mrd]) S hr hlo hAe d_M_span_59 [0] (by decide) rfl rfl ⟨Nat.le_refl _, Nat.le_refl _⟩ (⟨rfl, rfl⟩)
    · skip
      exact absurd c2 (by omega)
  · skip
    have hq5 := b2_p c1
    refine z_aload_n S d_M_span_8 0 rfl ?_
    refine z_iload_n S d_M_span_9 2 rfl ?_
    refine z_callVa (As := [.int (zI v)]) (st := []) (wc := [oM mo th mw (nv : Int) mg ma mb (ns : Int) mlo mhi (nw : Int) mwe mru mrd]) (wr := []) S hGok hK hg hA (s_M_isValue l dC dI cI cL qT mo mw nv ma mb ns mlo mhi nw mwe mru mrd th mg v (by omega) (by omega)) (zcwV S (List.mem_cons_of_mem _ k_M_125) mV_M_isValue k_M_125 hd_M_isValue rfl rfl ⟨Nat.le_of_ble_eq_true rfl, Nat.le_of_ble_eq_true rfl⟩) rfl (Nat.le_of_ble_eq_true rfl) d_M_span_10 ⟨Nat.le_of_ble_eq_true rfl, Nat.le_of_ble_eq_true rfl⟩ rfl [0] [] 0 rfl rfl rfl (by decide) rfl rfl rfl (by decide) (by decide) (fun x w hp => ?_)
    obtain ⟨rfl, rfl⟩ := hp
    show ZZ _ _ _ _ _ _ _ _ _ _ _ _ _ _ _ _ _ _ 13 [(0, .ref mo), (1, .int (zI u)), (2, .int (zI v))] [.int (zI (b2 (0 ≤ v ∧ v < (nv : Int))))] [oM mo th mw (nv : Int) mg ma mb (ns : Int) mlo mhi (nw : Int) mwe mru mrd]
    have hb2 := b2_r (0 ≤ v ∧ v < (nv : Int))
    refine z_if_eq (tgt := 20) S d_M_span_13 (by decide) (by omega) (fun c4 => ?_) (fun c4 => ?_)
    · skip
      refine z_iconst S d_M_span_20 ?_
      refine z_istore_n (lv' := [(3, .int (zI 0)), (0, .ref mo), (1, .int (zI u)), (2, .int (zI v))]) S d_M_span_21 rfl (by decide) rfl ?_
      refine z_aload_n S d_M_span_22 1 rfl ?_
      refine z_iload_n S d_M_span_23 0 rfl ?_
      refine z_iload_n S d_M_span_24 0 rfl ?_
      refine z_if_eq (tgt := 50) S d_M_span_25 (by decide) (by omega) (fun c5 => ?_) (fun c5 => ?_)
      · skip
        refine z_iconst S d_M_span_50 ?_
        refine z_iconst S d_M_span_51 ?_
        refine z_callVa (As := [.int (zI 0), .int (zI 0), .int (zI 1)]) (st := []) (wc := [oM mo th mw (nv : Int) mg ma mb (ns : Int) mlo mhi (nw : Int) mwe mru mrd]) (wr := []) S hGok hK hg hA (s_M_goes l dC dI cI cL qT mo mw nv ma mb ns mlo mhi nw mwe mru mrd th mg 0 0 1 (by omega) (by omega) (by omega)) (zcwV S (List.mem_cons_of_mem _ k_M_118) mV_M_goes k_M_118 hd_M_goes rfl rfl ⟨Nat.le_of_ble_eq_true rfl, Nat.le_of_ble_eq_true rfl⟩) rfl (Nat.le_of_ble_eq_true rfl) d_M_span_52 ⟨Nat.le_of_ble_eq_true rfl, Nat.le_of_ble_eq_true rfl⟩ rfl [0] [] 0 rfl rfl rfl (by decide) rfl rfl rfl (by decide) (by decide) (fun x w hp => ?_)
        obtain ⟨rfl, rfl⟩ := hp
        show ZZ _ _ _ _ _ _ _ _ _ _ _ _ _ _ _ _ _ _ 55 [(3, .int (zI 0)), (0, .ref mo), (1, .int (zI u)), (2, .int (zI v))] [.int (zI (b2 (gth 0 0 1 = 0)))] [oM mo (gth 0 0 1) mw (nv : Int) mg ma mb (ns : Int) mlo mhi (nw : Int) mwe mru mrd]
        refine z_toi (a := 0) rfl ?_
        refine z_wq (ws' := [oM mo 1 mw (nv : Int) mg ma mb (ns : Int) mlo mhi (nw : Int) mwe mru mrd]) rfl ?_
        refine z_if_ne (tgt := 60) S d_M_span_55 (by decide) (by omega) (fun c6 => ?_) (fun c6 => ?_)
        · skip
          exact absurd c6 (by omega)
        · skip
          refine z_iconst S d_M_span_58 ?_
          exact z_iret (w := [oM mo 1 mw (nv : Int) mg ma mb (ns : Int) mlo mhi (nw : Int) mwe mru mrd]) S hr hlo hAe d_M_span_59 [0] (by decide) rfl rfl ⟨Nat.le_refl _, Nat.le_refl _⟩ (⟨rfl, rfl⟩)
      · skip
        exact absurd c5 (by omega)
    · skip
      exact absurd c4 (fun z => hu ⟨hq5, b2_p z⟩)
set_option maxHeartbeats 4000000 in
set_option maxRecDepth 100000 in
theorem f2_M_span (l : Launch) (dC : Nat → ClassId) (dI : Nat → Nat → Nat) (cI cL : ClassId) (qT : Nat) (mo : Nat) (mw : Nat) (nv : Nat) (ma : Nat) (mb : Nat) (ns : Nat) (mlo : Nat) (mhi : Nat) (nw : Nat) (mwe : Nat) (mru : Nat) (mrd : Nat) (th : Int) (mg : Nat) (rr : Nat → Nat) (sg : Nat → Int) (up : Nat → Nat) (dn : Nat → Nat) (u : Nat) (v : Nat) (hnv : nv ≤ 100) (hV : okM sg up dn nv) (hu : u < nv) (hv : v < nv) (hns : ns ≤ 30) (hle : 0 < suS (sg u) (-sg v) (up u * dn v) (up v * dn u) ∨ ns = 30) : Ct l y_M_span (Cond.code y_M_span c_M_span 4 (some .int) :: zB) { frames := 4, cells := 0, slots := 0, locals := 101 } (dC, dI) zcl [(cI, .int), (cL, .long)] (zG cI cL qT) [.ref mo, .int (zI (u : Int)), .int (zI (v : Int))] [oM mo th mw (nv : Int) mg ma mb (ns : Int) mlo mhi (nw : Int) mwe mru mrd, aL cL mw 160 (wkA rr), aI cI mg 100 (sgA sg), aL cL ma 800 (moA up), aL cL mb 800 (moA dn)] (fun rv wv => ∃ rr2 : Nat → Nat, rv = .int (zI 0) ∧ wv = [oM mo 2 mw (nv : Int) mg ma mb (ns : Int) mlo mhi (nw : Int) mwe mru mrd, aL cL mw 160 (wkA rr2), aI cI mg 100 (sgA sg), aL cL ma 800 (moA up), aL cL mb 800 (moA dn)]) 0 0 := by
  refine Cm.ofZ (cc := c_M_span) (maxL := 4) (ret := (some .int)) (by decide) rfl (Nat.le_of_ble_eq_true rfl) rfl ?_
  intro p e s m below meth c A S hr hlo hnm hK hg hA hAe
  have hGok := zG_ok cI cL qT
  show ZZ _ _ _ _ _ _ _ _ _ _ _ _ _ _ _ _ _ _ 0 [(0, .ref mo), (1, .int (zI (u : Int))), (2, .int (zI (v : Int)))] [] [oM mo th mw (nv : Int) mg ma mb (ns : Int) mlo mhi (nw : Int) mwe mru mrd, aL cL mw 160 (wkA rr), aI cI mg 100 (sgA sg), aL cL ma 800 (moA up), aL cL mb 800 (moA dn)]
  have ku := hV u hu
  have kv := hV v hv
  obtain ⟨u1, u2, u3, u4, u5, u6⟩ := id ku
  obtain ⟨v1, v2, v3, v4, v5, v6⟩ := id kv
  have hsr : -1 ≤ suS (sg u) (-sg v) (up u * dn v) (up v * dn u) ∧ suS (sg u) (-sg v) (up u * dn v) (up v * dn u) ≤ 1 := suS_r ⟨u1, u2⟩ ⟨by omega, by omega⟩
  refine z_aload_n S d_M_span_0 0 rfl ?_
  refine z_iload_n S d_M_span_1 1 rfl ?_
  refine z_callVa (As := [.int (zI (u : Int))]) (st := []) (wc := [oM mo th mw (nv : Int) mg ma mb (ns : Int) mlo mhi (nw : Int) mwe mru mrd]) (wr := [aL cL mw 160 (wkA rr), aI cI mg 100 (sgA sg), aL cL ma 800 (moA up), aL cL mb 800 (moA dn)]) S hGok hK hg hA (s_M_isValue l dC dI cI cL qT mo mw nv ma mb ns mlo mhi nw mwe mru mrd th mg (u : Int) (by omega) (by omega)) (zcwV S (List.mem_cons_of_mem _ k_M_125) mV_M_isValue k_M_125 hd_M_isValue rfl rfl ⟨Nat.le_of_ble_eq_true rfl, Nat.le_of_ble_eq_true rfl⟩) rfl (Nat.le_of_ble_eq_true rfl) d_M_span_2 ⟨Nat.le_of_ble_eq_true rfl, Nat.le_of_ble_eq_true rfl⟩ rfl [0] [1, 2, 3, 4] 0 rfl rfl rfl (by decide) rfl rfl rfl (by decide) (by decide) (fun x w hp => ?_)
  obtain ⟨rfl, rfl⟩ := hp
  show ZZ _ _ _ _ _ _ _ _ _ _ _ _ _ _ _ _ _ _ 5 [(0, .ref mo), (1, .int (zI (u : Int))), (2, .int (zI (v : Int)))] [.int (zI (b2 (0 ≤ (u : Int) ∧ (u : Int) < (nv : Int))))] [aL cL mw 160 (wkA rr), aI cI mg 100 (sgA sg), aL cL ma 800 (moA up), aL cL mb 800 (moA dn), oM mo th mw (nv : Int) mg ma mb (ns : Int) mlo mhi (nw : Int) mwe mru mrd]
  refine z_toi (a := 1) (zI_c (b2_t ⟨by omega, by omega⟩)) ?_
  refine z_if_eq (tgt := 20) S d_M_span_5 (by decide) (by omega) (fun c1 => ?_) (fun c1 => ?_)
  · skip
    exact absurd c1 (by omega)
  · skip
    refine z_aload_n S d_M_span_8 0 rfl ?_
    refine z_iload_n S d_M_span_9 2 rfl ?_
    refine z_callVa (As := [.int (zI (v : Int))]) (st := []) (wc := [oM mo th mw (nv : Int) mg ma mb (ns : Int) mlo mhi (nw : Int) mwe mru mrd]) (wr := [aL cL mw 160 (wkA rr), aI cI mg 100 (sgA sg), aL cL ma 800 (moA up), aL cL mb 800 (moA dn)]) S hGok hK hg hA (s_M_isValue l dC dI cI cL qT mo mw nv ma mb ns mlo mhi nw mwe mru mrd th mg (v : Int) (by omega) (by omega)) (zcwV S (List.mem_cons_of_mem _ k_M_125) mV_M_isValue k_M_125 hd_M_isValue rfl rfl ⟨Nat.le_of_ble_eq_true rfl, Nat.le_of_ble_eq_true rfl⟩) rfl (Nat.le_of_ble_eq_true rfl) d_M_span_10 ⟨Nat.le_of_ble_eq_true rfl, Nat.le_of_ble_eq_true rfl⟩ rfl [4] [0, 1, 2, 3] 4 rfl rfl rfl (by decide) rfl rfl rfl (by decide) (by decide) (fun x w hp => ?_)
    obtain ⟨rfl, rfl⟩ := hp
    show ZZ _ _ _ _ _ _ _ _ _ _ _ _ _ _ _ _ _ _ 13 [(0, .ref mo), (1, .int (zI (u : Int))), (2, .int (zI (v : Int)))] [.int (zI (b2 (0 ≤ (v : Int) ∧ (v : Int) < (nv : Int))))] [aL cL mw 160 (wkA rr), aI cI mg 100 (sgA sg), aL cL ma 800 (moA up), aL cL mb 800 (moA dn), oM mo th mw (nv : Int) mg ma mb (ns : Int) mlo mhi (nw : Int) mwe mru mrd]
    refine z_toi (a := 1) (zI_c (b2_t ⟨by omega, by omega⟩)) ?_
    refine z_if_eq (tgt := 20) S d_M_span_13 (by decide) (by omega) (fun c2 => ?_) (fun c2 => ?_)
    · skip
      exact absurd c2 (by omega)
    · skip
      refine z_iconst S d_M_span_16 ?_
      refine z_goto (tgt := 21) S d_M_span_17 (by decide) ?_
      refine z_istore_n (lv' := [(3, .int (zI 1)), (0, .ref mo), (1, .int (zI (u : Int))), (2, .int (zI (v : Int)))]) S d_M_span_21 rfl (by decide) rfl ?_
      refine z_aload_n S d_M_span_22 1 rfl ?_
      refine z_iload_n S d_M_span_23 0 rfl ?_
      refine z_iload_n S d_M_span_24 0 rfl ?_
      refine z_if_eq (tgt := 50) S d_M_span_25 (by decide) (by omega) (fun c3 => ?_) (fun c3 => ?_)
      · skip
        exact absurd c3 (by omega)
      · skip
        refine z_aload_n S d_M_span_28 1 rfl ?_
        refine z_iload_n S d_M_span_29 2 rfl ?_
        refine z_iload_n S d_M_span_30 3 rfl ?_
        refine z_callVa (As := [.int (zI (u : Int)), .int (zI (v : Int))]) (st := [.int (zI 1), .ref mo]) (wc := [oM mo th mw (nv : Int) mg ma mb (ns : Int) mlo mhi (nw : Int) mwe mru mrd, aL cL mw 160 (wkA rr), aI cI mg 100 (sgA sg), aL cL ma 800 (moA up), aL cL mb 800 (moA dn)]) (wr := []) S hGok hK hg hA (s_M_compareValues l dC dI cI cL qT mo mw nv ma mb ns mlo mhi nw mwe mru mrd th mg rr sg up dn u v (by omega) (by omega) (hV u hu) (hV v hv)) (zcwV S (List.mem_cons_of_mem _ k_M_135) mV_M_compareValues k_M_135 hd_M_compareValues rfl rfl ⟨Nat.le_of_ble_eq_true rfl, Nat.le_of_ble_eq_true rfl⟩) rfl (Nat.le_of_ble_eq_true rfl) d_M_span_31 ⟨Nat.le_of_ble_eq_true rfl, Nat.le_of_ble_eq_true rfl⟩ rfl [4, 0, 1, 2, 3] [] 4 rfl rfl rfl (by decide) rfl rfl rfl (by decide) (by decide) (fun x w hp => ?_)
        obtain ⟨rk, rfl, rfl⟩ := hp
        show ZZ _ _ _ _ _ _ _ _ _ _ _ _ _ _ _ _ _ _ 34 [(3, .int (zI 1)), (0, .ref mo), (1, .int (zI (u : Int))), (2, .int (zI (v : Int)))] [.int (zI (suS (sg u) (-sg v) (up u * dn v) (up v * dn u))), .int (zI 1), .ref mo] [oM mo th mw (nv : Int) mg ma mb (ns : Int) mlo mhi (nw : Int) mwe mru mrd, aL cL mw 160 (wkA rk), aI cI mg 100 (sgA sg), aL cL ma 800 (moA up), aL cL mb 800 (moA dn)]
        refine z_if_gt (tgt := 50) S d_M_span_34 (by decide) (by omega) (fun c4 => ?_) (fun c4 => ?_)
        · skip
          refine z_iconst S d_M_span_50 ?_
          refine z_iconst S d_M_span_51 ?_
          refine z_callVa (As := [.int (zI 1), .int (zI 0), .int (zI 1)]) (st := []) (wc := [oM mo th mw (nv : Int) mg ma mb (ns : Int) mlo mhi (nw : Int) mwe mru mrd]) (wr := [aL cL mw 160 (wkA rk), aI cI mg 100 (sgA sg), aL cL ma 800 (moA up), aL cL mb 800 (moA dn)]) S hGok hK hg hA (s_M_goes l dC dI cI cL qT mo mw nv ma mb ns mlo mhi nw mwe mru mrd th mg 1 0 1 (by omega) (by omega) (by omega)) (zcwV S (List.mem_cons_of_mem _ k_M_118) mV_M_goes k_M_118 hd_M_goes rfl rfl ⟨Nat.le_of_ble_eq_true rfl, Nat.le_of_ble_eq_true rfl⟩) rfl (Nat.le_of_ble_eq_true rfl) d_M_span_52 ⟨Nat.le_of_ble_eq_true rfl, Nat.le_of_ble_eq_true rfl⟩ rfl [0] [1, 2, 3, 4] 0 rfl rfl rfl (by decide) rfl rfl rfl (by decide) (by decide) (fun x w hp => ?_)
          obtain ⟨rfl, rfl⟩ := hp
          show ZZ _ _ _ _ _ _ _ _ _ _ _ _ _ _ _ _ _ _ 55 [(3, .int (zI 1)), (0, .ref mo), (1, .int (zI (u : Int))), (2, .int (zI (v : Int)))] [.int (zI (b2 (gth 1 0 1 = 0)))] [aL cL mw 160 (wkA rk), aI cI mg 100 (sgA sg), aL cL ma 800 (moA up), aL cL mb 800 (moA dn), oM mo (gth 1 0 1) mw (nv : Int) mg ma mb (ns : Int) mlo mhi (nw : Int) mwe mru mrd]
          refine z_toi (a := 0) rfl ?_
          refine z_wq (ws' := [aL cL mw 160 (wkA rk), aI cI mg 100 (sgA sg), aL cL ma 800 (moA up), aL cL mb 800 (moA dn), oM mo 2 mw (nv : Int) mg ma mb (ns : Int) mlo mhi (nw : Int) mwe mru mrd]) rfl ?_
          refine z_if_ne (tgt := 60) S d_M_span_55 (by decide) (by omega) (fun c5 => ?_) (fun c5 => ?_)
          · skip
            exact absurd c5 (by omega)
          · skip
            refine z_iconst S d_M_span_58 ?_
            exact z_iret (w := [oM mo 2 mw (nv : Int) mg ma mb (ns : Int) mlo mhi (nw : Int) mwe mru mrd, aL cL mw 160 (wkA rk), aI cI mg 100 (sgA sg), aL cL ma 800 (moA up), aL cL mb 800 (moA dn)]) S hr hlo hAe d_M_span_59 [4, 0, 1, 2, 3] (by decide) rfl rfl ⟨Nat.le_refl _, Nat.le_refl _⟩ (⟨rk, rfl, rfl⟩)
        · skip
          refine z_aload_n S d_M_span_37 1 rfl ?_
          refine z_get S hK la_M 0 rfl rfl 6 (by decide) k_M_45 rfl d_M_span_38 ?_
          refine z_bipush S d_M_span_41 rfl ?_
          refine z_icmp_ge (tgt := 50) S d_M_span_43 (by decide) (by omega) (by omega) (fun c6 => ?_) (fun c6 => ?_)
          · skip
            refine z_iconst S d_M_span_50 ?_
            refine z_iconst S d_M_span_51 ?_
            refine z_callVa (As := [.int (zI 1), .int (zI 0), .int (zI 1)]) (st := []) (wc := [oM mo th mw (nv : Int) mg ma mb (ns : Int) mlo mhi (nw : Int) mwe mru mrd]) (wr := [aL cL mw 160 (wkA rk), aI cI mg 100 (sgA sg), aL cL ma 800 (moA up), aL cL mb 800 (moA dn)]) S hGok hK hg hA (s_M_goes l dC dI cI cL qT mo mw nv ma mb ns mlo mhi nw mwe mru mrd th mg 1 0 1 (by omega) (by omega) (by omega)) (zcwV S (List.mem_cons_of_mem _ k_M_118) mV_M_goes k_M_118 hd_M_goes rfl rfl ⟨Nat.le_of_ble_eq_true rfl, Nat.le_of_ble_eq_true rfl⟩) rfl (Nat.le_of_ble_eq_true rfl) d_M_span_52 ⟨Nat.le_of_ble_eq_true rfl, Nat.le_of_ble_eq_true rfl⟩ rfl [0] [1, 2, 3, 4] 0 rfl rfl rfl (by decide) rfl rfl rfl (by decide) (by decide) (fun x w hp => ?_)
            obtain ⟨rfl, rfl⟩ := hp
            show ZZ _ _ _ _ _ _ _ _ _ _ _ _ _ _ _ _ _ _ 55 [(3, .int (zI 1)), (0, .ref mo), (1, .int (zI (u : Int))), (2, .int (zI (v : Int)))] [.int (zI (b2 (gth 1 0 1 = 0)))] [aL cL mw 160 (wkA rk), aI cI mg 100 (sgA sg), aL cL ma 800 (moA up), aL cL mb 800 (moA dn), oM mo (gth 1 0 1) mw (nv : Int) mg ma mb (ns : Int) mlo mhi (nw : Int) mwe mru mrd]
            refine z_toi (a := 0) rfl ?_
            refine z_wq (ws' := [aL cL mw 160 (wkA rk), aI cI mg 100 (sgA sg), aL cL ma 800 (moA up), aL cL mb 800 (moA dn), oM mo 2 mw (nv : Int) mg ma mb (ns : Int) mlo mhi (nw : Int) mwe mru mrd]) rfl ?_
            refine z_if_ne (tgt := 60) S d_M_span_55 (by decide) (by omega) (fun c7 => ?_) (fun c7 => ?_)
            · skip
              exact absurd c7 (by omega)
            · skip
              refine z_iconst S d_M_span_58 ?_
              exact z_iret (w := [oM mo 2 mw (nv : Int) mg ma mb (ns : Int) mlo mhi (nw : Int) mwe mru mrd, aL cL mw 160 (wkA rk), aI cI mg 100 (sgA sg), aL cL ma 800 (moA up), aL cL mb 800 (moA dn)]) S hr hlo hAe d_M_span_59 [4, 0, 1, 2, 3] (by decide) rfl rfl ⟨Nat.le_refl _, Nat.le_refl _⟩ (⟨rk, rfl, rfl⟩)
          · skip
            omega
set_option maxHeartbeats 4000000 in
set_option maxRecDepth 100000 in
theorem s_M_within (l : Launch) (dC : Nat → ClassId) (dI : Nat → Nat → Nat) (cI cL : ClassId) (qT : Nat) (mo : Nat) (mw : Nat) (nv : Nat) (ma : Nat) (mb : Nat) (ns : Nat) (mlo : Nat) (mhi : Nat) (nw : Nat) (mwe : Nat) (mru : Nat) (mrd : Nat) (th : Int) (mg : Nat) (rr : Nat → Nat) (sg : Nat → Int) (up : Nat → Nat) (dn : Nat → Nat) (lo : Nat → Nat) (hi : Nat → Nat) (u : Nat) (v : Nat) (hnv : nv ≤ 100) (hV : okM sg up dn nv) (hns : ns ≤ 30) (hE : ∀ i, i < ns → lo i < nv ∧ hi i < nv) (hu : u < ns) (hv : v < nv) : Ct l y_M_within (Cond.code y_M_within c_M_within 4 (some .boolean) :: zB) { frames := 4, cells := 0, slots := 0, locals := 101 } (dC, dI) zcl [(cI, .int), (cL, .long)] (zG cI cL qT) [.ref mo, .int (zI (u : Int)), .int (zI (v : Int))] [oM mo th mw (nv : Int) mg ma mb (ns : Int) mlo mhi (nw : Int) mwe mru mrd, aL cL mw 160 (wkA rr), aI cI mg 100 (sgA sg), aL cL ma 800 (moA up), aL cL mb 800 (moA dn), aI cI mlo 30 (eA lo), aI cI mhi 30 (eA hi)] (fun rv wv => ∃ rr2 : Nat → Nat, rv = .int (zI (b2 (suS (sg (lo u)) (-sg v) (up (lo u) * dn v) (up v * dn (lo u)) ≤ 0 ∧ suS (sg v) (-sg (hi u)) (up v * dn (hi u)) (up (hi u) * dn v) ≤ 0))) ∧ wv = [oM mo 0 mw (nv : Int) mg ma mb (ns : Int) mlo mhi (nw : Int) mwe mru mrd, aL cL mw 160 (wkA rr2), aI cI mg 100 (sgA sg), aL cL ma 800 (moA up), aL cL mb 800 (moA dn), aI cI mlo 30 (eA lo), aI cI mhi 30 (eA hi)]) 0 0 := by
  refine Cm.ofZ (cc := c_M_within) (maxL := 4) (ret := (some .boolean)) (by decide) rfl (Nat.le_of_ble_eq_true rfl) rfl ?_
  intro p e s m below meth c A S hr hlo hnm hK hg hA hAe
  have hGok := zG_ok cI cL qT
  show ZZ _ _ _ _ _ _ _ _ _ _ _ _ _ _ _ _ _ _ 0 [(0, .ref mo), (1, .int (zI (u : Int))), (2, .int (zI (v : Int)))] [] [oM mo th mw (nv : Int) mg ma mb (ns : Int) mlo mhi (nw : Int) mwe mru mrd, aL cL mw 160 (wkA rr), aI cI mg 100 (sgA sg), aL cL ma 800 (moA up), aL cL mb 800 (moA dn), aI cI mlo 30 (eA lo), aI cI mhi 30 (eA hi)]
  obtain ⟨hlo1, hhi1⟩ := hE u hu
  have ku := hV (lo u) hlo1
  have kv := hV v hv
  have kw := hV (hi u) hhi1
  obtain ⟨u1, u2, u3, u4, u5, u6⟩ := id ku
  obtain ⟨v1, v2, v3, v4, v5, v6⟩ := id kv
  obtain ⟨w1, w2, w3, w4, w5, w6⟩ := id kw
  have hs1 : -1 ≤ suS (sg (lo u)) (-sg v) (up (lo u) * dn v) (up v * dn (lo u)) ∧ suS (sg (lo u)) (-sg v) (up (lo u) * dn v) (up v * dn (lo u)) ≤ 1 := suS_r ⟨u1, u2⟩ ⟨by omega, by omega⟩
  have hs2 : -1 ≤ suS (sg v) (-sg (hi u)) (up v * dn (hi u)) (up (hi u) * dn v) ∧ suS (sg v) (-sg (hi u)) (up v * dn (hi u)) (up (hi u) * dn v) ≤ 1 := suS_r ⟨v1, v2⟩ ⟨by omega, by omega⟩
  refine z_aload_n S d_M_within_0 0 rfl ?_
  refine z_iload_n S d_M_within_1 1 rfl ?_
  refine z_callVa (As := [.int (zI (u : Int))]) (st := []) (wc := [oM mo th mw (nv : Int) mg ma mb (ns : Int) mlo mhi (nw : Int) mwe mru mrd]) (wr := [aL cL mw 160 (wkA rr), aI cI mg 100 (sgA sg), aL cL ma 800 (moA up), aL cL mb 800 (moA dn), aI cI mlo 30 (eA lo), aI cI mhi 30 (eA hi)]) S hGok hK hg hA (s_M_isSpan l dC dI cI cL qT mo mw nv ma mb ns mlo mhi nw mwe mru mrd th mg (u : Int) (by omega) (by omega)) (zcwV S (List.mem_cons_of_mem _ k_M_144) mV_M_isSpan k_M_144 hd_M_isSpan rfl rfl ⟨Nat.le_of_ble_eq_true rfl, Nat.le_of_ble_eq_true rfl⟩) rfl (Nat.le_of_ble_eq_true rfl) d_M_within_2 ⟨Nat.le_of_ble_eq_true rfl, Nat.le_of_ble_eq_true rfl⟩ rfl [0] [1, 2, 3, 4, 5, 6] 0 rfl rfl rfl (by decide) rfl rfl rfl (by decide) (by decide) (fun x w hp => ?_)
  obtain ⟨rfl, rfl⟩ := hp
  show ZZ _ _ _ _ _ _ _ _ _ _ _ _ _ _ _ _ _ _ 5 [(0, .ref mo), (1, .int (zI (u : Int))), (2, .int (zI (v : Int)))] [.int (zI (b2 (0 ≤ (u : Int) ∧ (u : Int) < (ns : Int))))] [aL cL mw 160 (wkA rr), aI cI mg 100 (sgA sg), aL cL ma 800 (moA up), aL cL mb 800 (moA dn), aI cI mlo 30 (eA lo), aI cI mhi 30 (eA hi), oM mo th mw (nv : Int) mg ma mb (ns : Int) mlo mhi (nw : Int) mwe mru mrd]
  refine z_toi (a := 1) (zI_c (b2_t ⟨by omega, by omega⟩)) ?_
  refine z_if_eq (tgt := 20) S d_M_within_5 (by decide) (by omega) (fun c1 => ?_) (fun c1 => ?_)
  · skip
    exact absurd c1 (by omega)
  · skip
    refine z_aload_n S d_M_within_8 0 rfl ?_
    refine z_iload_n S d_M_within_9 2 rfl ?_
    refine z_callVa (As := [.int (zI (v : Int))]) (st := []) (wc := [oM mo th mw (nv : Int) mg ma mb (ns : Int) mlo mhi (nw : Int) mwe mru mrd]) (wr := [aL cL mw 160 (wkA rr), aI cI mg 100 (sgA sg), aL cL ma 800 (moA up), aL cL mb 800 (moA dn), aI cI mlo 30 (eA lo), aI cI mhi 30 (eA hi)]) S hGok hK hg hA (s_M_isValue l dC dI cI cL qT mo mw nv ma mb ns mlo mhi nw mwe mru mrd th mg (v : Int) (by omega) (by omega)) (zcwV S (List.mem_cons_of_mem _ k_M_125) mV_M_isValue k_M_125 hd_M_isValue rfl rfl ⟨Nat.le_of_ble_eq_true rfl, Nat.le_of_ble_eq_true rfl⟩) rfl (Nat.le_of_ble_eq_true rfl) d_M_within_10 ⟨Nat.le_of_ble_eq_true rfl, Nat.le_of_ble_eq_true rfl⟩ rfl [6] [0, 1, 2, 3, 4, 5] 6 rfl rfl rfl (by decide) rfl rfl rfl (by decide) (by decide) (fun x w hp => ?_)
    obtain ⟨rfl, rfl⟩ := hp
    show ZZ _ _ _ _ _ _ _ _ _ _ _ _ _ _ _ _ _ _ 13 [(0, .ref mo), (1, .int (zI (u : Int))), (2, .int (zI (v : Int)))] [.int (zI (b2 (0 ≤ (v : Int) ∧ (v : Int) < (nv : Int))))] [aL cL mw 160 (wkA rr), aI cI mg 100 (sgA sg), aL cL ma 800 (moA up), aL cL mb 800 (moA dn), aI cI mlo 30 (eA lo), aI cI mhi 30 (eA hi), oM mo th mw (nv : Int) mg ma mb (ns : Int) mlo mhi (nw : Int) mwe mru mrd]
    refine z_toi (a := 1) (zI_c (b2_t ⟨by omega, by omega⟩)) ?_
    refine z_if_eq (tgt := 20) S d_M_within_13 (by decide) (by omega) (fun c2 => ?_) (fun c2 => ?_)
    · skip
      exact absurd c2 (by omega)
    · skip
      refine z_iconst S d_M_within_16 ?_
      refine z_goto (tgt := 21) S d_M_within_17 (by decide) ?_
      refine z_istore_n (lv' := [(3, .int (zI 1)), (0, .ref mo), (1, .int (zI (u : Int))), (2, .int (zI (v : Int)))]) S d_M_within_21 rfl (by decide) rfl ?_
      refine z_aload_n S d_M_within_22 1 rfl ?_
      refine z_iload_n S d_M_within_23 0 rfl ?_
      refine z_iconst S d_M_within_24 ?_
      refine z_iconst S d_M_within_25 ?_
      refine z_callVa (As := [.int (zI 1), .int (zI 1), .int (zI 1)]) (st := []) (wc := [oM mo th mw (nv : Int) mg ma mb (ns : Int) mlo mhi (nw : Int) mwe mru mrd]) (wr := [aL cL mw 160 (wkA rr), aI cI mg 100 (sgA sg), aL cL ma 800 (moA up), aL cL mb 800 (moA dn), aI cI mlo 30 (eA lo), aI cI mhi 30 (eA hi)]) S hGok hK hg hA (s_M_goes l dC dI cI cL qT mo mw nv ma mb ns mlo mhi nw mwe mru mrd th mg 1 1 1 (by omega) (by omega) (by omega)) (zcwV S (List.mem_cons_of_mem _ k_M_118) mV_M_goes k_M_118 hd_M_goes rfl rfl ⟨Nat.le_of_ble_eq_true rfl, Nat.le_of_ble_eq_true rfl⟩) rfl (Nat.le_of_ble_eq_true rfl) d_M_within_26 ⟨Nat.le_of_ble_eq_true rfl, Nat.le_of_ble_eq_true rfl⟩ rfl [6] [0, 1, 2, 3, 4, 5] 6 rfl rfl rfl (by decide) rfl rfl rfl (by decide) (by decide) (fun x w hp => ?_)
      obtain ⟨rfl, rfl⟩ := hp
      show ZZ _ _ _ _ _ _ _ _ _ _ _ _ _ _ _ _ _ _ 29 [(3, .int (zI 1)), (0, .ref mo), (1, .int (zI (u : Int))), (2, .int (zI (v : Int)))] [.int (zI (b2 (gth 1 1 1 = 0)))] [aL cL mw 160 (wkA rr), aI cI mg 100 (sgA sg), aL cL ma 800 (moA up), aL cL mb 800 (moA dn), aI cI mlo 30 (eA lo), aI cI mhi 30 (eA hi), oM mo (gth 1 1 1) mw (nv : Int) mg ma mb (ns : Int) mlo mhi (nw : Int) mwe mru mrd]
      refine z_toi (a := 1) rfl ?_
      refine z_wq (ws' := [aL cL mw 160 (wkA rr), aI cI mg 100 (sgA sg), aL cL ma 800 (moA up), aL cL mb 800 (moA dn), aI cI mlo 30 (eA lo), aI cI mhi 30 (eA hi), oM mo 0 mw (nv : Int) mg ma mb (ns : Int) mlo mhi (nw : Int) mwe mru mrd]) rfl ?_
      refine z_if_eq (tgt := 64) S d_M_within_29 (by decide) (by omega) (fun c3 => ?_) (fun c3 => ?_)
      · skip
        exact absurd c3 (by omega)
      · skip
        refine z_aload_n S d_M_within_32 1 rfl ?_
        refine z_aload_n S d_M_within_33 1 rfl ?_
        refine z_get S hK la_M 6 rfl rfl 7 (by decide) k_M_23 rfl d_M_within_34 ?_
        refine z_iload_n S d_M_within_37 2 rfl ?_
        refine z_iald (x := ((lo u : Nat) : Int)) S hK 4 0 rfl rfl u rfl (by omega) (by decide) rfl d_M_within_38 ?_
        refine z_iload_n S d_M_within_39 3 rfl ?_
        refine z_callVa (As := [.int (zI ((lo u : Nat) : Int)), .int (zI (v : Int))]) (st := []) (wc := [oM mo 0 mw (nv : Int) mg ma mb (ns : Int) mlo mhi (nw : Int) mwe mru mrd, aL cL mw 160 (wkA rr), aI cI mg 100 (sgA sg), aL cL ma 800 (moA up), aL cL mb 800 (moA dn)]) (wr := [aI cI mlo 30 (eA lo), aI cI mhi 30 (eA hi)]) S hGok hK hg hA (s_M_compareValues l dC dI cI cL qT mo mw nv ma mb ns mlo mhi nw mwe mru mrd 0 mg rr sg up dn (lo u) v (by omega) (by omega) ku kv) (zcwV S (List.mem_cons_of_mem _ k_M_135) mV_M_compareValues k_M_135 hd_M_compareValues rfl rfl ⟨Nat.le_of_ble_eq_true rfl, Nat.le_of_ble_eq_true rfl⟩) rfl (Nat.le_of_ble_eq_true rfl) d_M_within_40 ⟨Nat.le_of_ble_eq_true rfl, Nat.le_of_ble_eq_true rfl⟩ rfl [6, 0, 1, 2, 3] [4, 5] 6 rfl rfl rfl (by decide) rfl rfl rfl (by decide) (by decide) (fun x w hp => ?_)
        obtain ⟨rk, rfl, rfl⟩ := hp
        show ZZ _ _ _ _ _ _ _ _ _ _ _ _ _ _ _ _ _ _ 43 [(3, .int (zI 1)), (0, .ref mo), (1, .int (zI (u : Int))), (2, .int (zI (v : Int)))] [.int (zI (suS (sg (lo u)) (-sg v) (up (lo u) * dn v) (up v * dn (lo u))))] [aI cI mlo 30 (eA lo), aI cI mhi 30 (eA hi), oM mo 0 mw (nv : Int) mg ma mb (ns : Int) mlo mhi (nw : Int) mwe mru mrd, aL cL mw 160 (wkA rk), aI cI mg 100 (sgA sg), aL cL ma 800 (moA up), aL cL mb 800 (moA dn)]
        refine z_if_gt (tgt := 64) S d_M_within_43 (by decide) (by omega) (fun c4 => ?_) (fun c4 => ?_)
        · skip
          refine z_iconst S d_M_within_64 ?_
          exact z_zret (w := [oM mo 0 mw (nv : Int) mg ma mb (ns : Int) mlo mhi (nw : Int) mwe mru mrd, aL cL mw 160 (wkA rk), aI cI mg 100 (sgA sg), aL cL ma 800 (moA up), aL cL mb 800 (moA dn), aI cI mlo 30 (eA lo), aI cI mhi 30 (eA hi)]) S hr hlo hAe (by first | exact Or.inl rfl | exact Or.inr rfl) d_M_within_65 [2, 3, 4, 5, 6, 0, 1] (by decide) rfl rfl ⟨Nat.le_refl _, Nat.le_refl _⟩ (⟨rk, by rw [b2_f (by omega)], rfl⟩)
        · skip
          refine z_aload_n S d_M_within_46 1 rfl ?_
          refine z_iload_n S d_M_within_47 3 rfl ?_
          refine z_aload_n S d_M_within_48 1 rfl ?_
          refine z_get S hK la_M 2 rfl rfl 8 (by decide) k_M_26 rfl d_M_within_49 ?_
          refine z_iload_n S d_M_within_52 2 rfl ?_
          refine z_iald (x := ((hi u : Nat) : Int)) S hK 1 0 rfl rfl u rfl (by omega) (by decide) rfl d_M_within_53 ?_
          refine z_callVa (As := [.int (zI (v : Int)), .int (zI ((hi u : Nat) : Int))]) (st := []) (wc := [oM mo 0 mw (nv : Int) mg ma mb (ns : Int) mlo mhi (nw : Int) mwe mru mrd, aL cL mw 160 (wkA rk), aI cI mg 100 (sgA sg), aL cL ma 800 (moA up), aL cL mb 800 (moA dn)]) (wr := [aI cI mlo 30 (eA lo), aI cI mhi 30 (eA hi)]) S hGok hK hg hA (s_M_compareValues l dC dI cI cL qT mo mw nv ma mb ns mlo mhi nw mwe mru mrd 0 mg rk sg up dn v (hi u) (by omega) (by omega) kv kw) (zcwV S (List.mem_cons_of_mem _ k_M_135) mV_M_compareValues k_M_135 hd_M_compareValues rfl rfl ⟨Nat.le_of_ble_eq_true rfl, Nat.le_of_ble_eq_true rfl⟩) rfl (Nat.le_of_ble_eq_true rfl) d_M_within_54 ⟨Nat.le_of_ble_eq_true rfl, Nat.le_of_ble_eq_true rfl⟩ rfl [2, 3, 4, 5, 6] [0, 1] 2 rfl rfl rfl (by decide) rfl rfl rfl (by decide) (by decide) (fun x w hp => ?_)
          obtain ⟨rk2, rfl, rfl⟩ := hp
          show ZZ _ _ _ _ _ _ _ _ _ _ _ _ _ _ _ _ _ _ 57 [(3, .int (zI 1)), (0, .ref mo), (1, .int (zI (u : Int))), (2, .int (zI (v : Int)))] [.int (zI (suS (sg v) (-sg (hi u)) (up v * dn (hi u)) (up (hi u) * dn v)))] [aI cI mlo 30 (eA lo), aI cI mhi 30 (eA hi), oM mo 0 mw (nv : Int) mg ma mb (ns : Int) mlo mhi (nw : Int) mwe mru mrd, aL cL mw 160 (wkA rk2), aI cI mg 100 (sgA sg), aL cL ma 800 (moA up), aL cL mb 800 (moA dn)]
          refine z_if_gt (tgt := 64) S d_M_within_57 (by decide) (by omega) (fun c5 => ?_) (fun c5 => ?_)
          · skip
            refine z_iconst S d_M_within_64 ?_
            exact z_zret (w := [oM mo 0 mw (nv : Int) mg ma mb (ns : Int) mlo mhi (nw : Int) mwe mru mrd, aL cL mw 160 (wkA rk2), aI cI mg 100 (sgA sg), aL cL ma 800 (moA up), aL cL mb 800 (moA dn), aI cI mlo 30 (eA lo), aI cI mhi 30 (eA hi)]) S hr hlo hAe (by first | exact Or.inl rfl | exact Or.inr rfl) d_M_within_65 [2, 3, 4, 5, 6, 0, 1] (by decide) rfl rfl ⟨Nat.le_refl _, Nat.le_refl _⟩ (⟨rk2, by rw [b2_f (by omega)], rfl⟩)
          · skip
            refine z_iconst S d_M_within_60 ?_
            refine z_goto (tgt := 65) S d_M_within_61 (by decide) ?_
            exact z_zret (w := [oM mo 0 mw (nv : Int) mg ma mb (ns : Int) mlo mhi (nw : Int) mwe mru mrd, aL cL mw 160 (wkA rk2), aI cI mg 100 (sgA sg), aL cL ma 800 (moA up), aL cL mb 800 (moA dn), aI cI mlo 30 (eA lo), aI cI mhi 30 (eA hi)]) S hr hlo hAe (by first | exact Or.inl rfl | exact Or.inr rfl) d_M_within_65 [2, 3, 4, 5, 6, 0, 1] (by decide) rfl rfl ⟨Nat.le_refl _, Nat.le_refl _⟩ (⟨rk2, by rw [b2_t (by omega)], rfl⟩)
set_option maxHeartbeats 4000000 in
set_option maxRecDepth 100000 in
theorem f1_M_within (l : Launch) (dC : Nat → ClassId) (dI : Nat → Nat → Nat) (cI cL : ClassId) (qT : Nat) (mo : Nat) (mw : Nat) (nv : Nat) (ma : Nat) (mb : Nat) (ns : Nat) (mlo : Nat) (mhi : Nat) (nw : Nat) (mwe : Nat) (mru : Nat) (mrd : Nat) (th : Int) (mg : Nat) (u : Int) (v : Int) (hnv : nv ≤ 100) (hns : ns ≤ 30) (hur : -2147483648 ≤ u ∧ u < 2147483648) (hvr : -2147483648 ≤ v ∧ v < 2147483648) (hu : ¬ ((0 ≤ u ∧ u < (ns : Int)) ∧ (0 ≤ v ∧ v < (nv : Int)))) : Ct l y_M_within (Cond.code y_M_within c_M_within 4 (some .boolean) :: zB) { frames := 4, cells := 0, slots := 0, locals := 101 } (dC, dI) zcl [(cI, .int), (cL, .long)] (zG cI cL qT) [.ref mo, .int (zI u), .int (zI v)] [oM mo th mw (nv : Int) mg ma mb (ns : Int) mlo mhi (nw : Int) mwe mru mrd] (fun rv wv => rv = .int (zI 0) ∧ wv = [oM mo 1 mw (nv : Int) mg ma mb (ns : Int) mlo mhi (nw : Int) mwe mru mrd]) 0 0 := by
  refine Cm.ofZ (cc := c_M_within) (maxL := 4) (ret := (some .boolean)) (by decide) rfl (Nat.le_of_ble_eq_true rfl) rfl ?_
  intro p e s m below meth c A S hr hlo hnm hK hg hA hAe
  have hGok := zG_ok cI cL qT
  show ZZ _ _ _ _ _ _ _ _ _ _ _ _ _ _ _ _ _ _ 0 [(0, .ref mo), (1, .int (zI u)), (2, .int (zI v))] [] [oM mo th mw (nv : Int) mg ma mb (ns : Int) mlo mhi (nw : Int) mwe mru mrd]
  refine z_aload_n S d_M_within_0 0 rfl ?_
  refine z_iload_n S d_M_within_1 1 rfl ?_
  refine z_callVa (As := [.int (zI u)]) (st := []) (wc := [oM mo th mw (nv : Int) mg ma mb (ns : Int) mlo mhi (nw : Int) mwe mru mrd]) (wr := []) S hGok hK hg hA (s_M_isSpan l dC dI cI cL qT mo mw nv ma mb ns mlo mhi nw mwe mru mrd th mg u (by omega) (by omega)) (zcwV S (List.mem_cons_of_mem _ k_M_144) mV_M_isSpan k_M_144 hd_M_isSpan rfl rfl ⟨Nat.le_of_ble_eq_true rfl, Nat.le_of_ble_eq_true rfl⟩) rfl (Nat.le_of_ble_eq_true rfl) d_M_within_2 ⟨Nat.le_of_ble_eq_true rfl, Nat.le_of_ble_eq_true rfl⟩ rfl [0] [] 0 rfl rfl rfl (by decide) rfl rfl rfl (by decide) (by decide) (fun x w hp => ?_)
  obtain ⟨rfl, rfl⟩ := hp
  show ZZ _ _ _ _ _ _ _ _ _ _ _ _ _ _ _ _ _ _ 5 [(0, .ref mo), (1, .int (zI u)), (2, .int (zI v))] [.int (zI (b2 (0 ≤ u ∧ u < (ns : Int))))] [oM mo th mw (nv : Int) mg ma mb (ns : Int) mlo mhi (nw : Int) mwe mru mrd]
  have hb1 := b2_r (0 ≤ u ∧ u < (ns : Int))
  refine z_if_eq (tgt := 20) S d_M_within_5 (by decide) (by omega) (fun c1 => ?_) (fun c1 => ?_)
  · skip
    refine z_iconst S d_M_within_20 ?_
    refine z_istore_n (lv' := [(3, .int (zI 0)), (0, .ref mo), (1, .int (zI u)), (2, .int (zI v))]) S d_M_within_21 rfl (by decide) rfl ?_
    refine z_aload_n S d_M_within_22 1 rfl ?_
    refine z_iload_n S d_M_within_23 0 rfl ?_
    refine z_iconst S d_M_within_24 ?_
    refine z_iconst S d_M_within_25 ?_
    refine z_callVa (As := [.int (zI 0), .int (zI 1), .int (zI 1)]) (st := []) (wc := [oM mo th mw (nv : Int) mg ma mb (ns : Int) mlo mhi (nw : Int) mwe mru mrd]) (wr := []) S hGok hK hg hA (s_M_goes l dC dI cI cL qT mo mw nv ma mb ns mlo mhi nw mwe mru mrd th mg 0 1 1 (by omega) (by omega) (by omega)) (zcwV S (List.mem_cons_of_mem _ k_M_118) mV_M_goes k_M_118 hd_M_goes rfl rfl ⟨Nat.le_of_ble_eq_true rfl, Nat.le_of_ble_eq_true rfl⟩) rfl (Nat.le_of_ble_eq_true rfl) d_M_within_26 ⟨Nat.le_of_ble_eq_true rfl, Nat.le_of_ble_eq_true rfl⟩ rfl [0] [] 0 rfl rfl rfl (by decide) rfl rfl rfl (by decide) (by decide) (fun x w hp => ?_)
    obtain ⟨rfl, rfl⟩ := hp
    show ZZ _ _ _ _ _ _ _ _ _ _ _ _ _ _ _ _ _ _ 29 [(3, .int (zI 0)), (0, .ref mo), (1, .int (zI u)), (2, .int (zI v))] [.int (zI (b2 (gth 0 1 1 = 0)))] [oM mo (gth 0 1 1) mw (nv : Int) mg ma mb (ns : Int) mlo mhi (nw : Int) mwe mru mrd]
    refine z_toi (a := 0) rfl ?_
    refine z_wq (ws' := [oM mo 1 mw (nv : Int) mg ma mb (ns : Int) mlo mhi (nw : Int) mwe mru mrd]) rfl ?_
    refine z_if_eq (tgt := 64) S d_M_within_29 (by decide) (by omega) (fun c2 => ?_) (fun c2 => ?_)
    · skip
      refine z_iconst S d_M_within_64 ?_
      exact z_zret (w := [oM mo 1 mw (nv : Int) mg ma mb (ns : Int) mlo mhi (nw : Int) mwe mru mrd]) S hr hlo hAe (by first | exact Or.inl rfl | exact Or.inr rfl) d_M_within_65 [0] (by decide) rfl rfl ⟨Nat.le_refl _, Nat.le_refl _⟩ (⟨rfl, rfl⟩)
    · skip
      exact absurd c2 (by omega)
  · skip
    have hq5 := b2_p c1
    refine z_aload_n S d_M_within_8 0 rfl ?_
    refine z_iload_n S d_M_within_9 2 rfl ?_
    refine z_callVa (As := [.int (zI v)]) (st := []) (wc := [oM mo th mw (nv : Int) mg ma mb (ns : Int) mlo mhi (nw : Int) mwe mru mrd]) (wr := []) S hGok hK hg hA (s_M_isValue l dC dI cI cL qT mo mw nv ma mb ns mlo mhi nw mwe mru mrd th mg v (by omega) (by omega)) (zcwV S (List.mem_cons_of_mem _ k_M_125) mV_M_isValue k_M_125 hd_M_isValue rfl rfl ⟨Nat.le_of_ble_eq_true rfl, Nat.le_of_ble_eq_true rfl⟩) rfl (Nat.le_of_ble_eq_true rfl) d_M_within_10 ⟨Nat.le_of_ble_eq_true rfl, Nat.le_of_ble_eq_true rfl⟩ rfl [0] [] 0 rfl rfl rfl (by decide) rfl rfl rfl (by decide) (by decide) (fun x w hp => ?_)
    obtain ⟨rfl, rfl⟩ := hp
    show ZZ _ _ _ _ _ _ _ _ _ _ _ _ _ _ _ _ _ _ 13 [(0, .ref mo), (1, .int (zI u)), (2, .int (zI v))] [.int (zI (b2 (0 ≤ v ∧ v < (nv : Int))))] [oM mo th mw (nv : Int) mg ma mb (ns : Int) mlo mhi (nw : Int) mwe mru mrd]
    have hb2 := b2_r (0 ≤ v ∧ v < (nv : Int))
    refine z_if_eq (tgt := 20) S d_M_within_13 (by decide) (by omega) (fun c3 => ?_) (fun c3 => ?_)
    · skip
      refine z_iconst S d_M_within_20 ?_
      refine z_istore_n (lv' := [(3, .int (zI 0)), (0, .ref mo), (1, .int (zI u)), (2, .int (zI v))]) S d_M_within_21 rfl (by decide) rfl ?_
      refine z_aload_n S d_M_within_22 1 rfl ?_
      refine z_iload_n S d_M_within_23 0 rfl ?_
      refine z_iconst S d_M_within_24 ?_
      refine z_iconst S d_M_within_25 ?_
      refine z_callVa (As := [.int (zI 0), .int (zI 1), .int (zI 1)]) (st := []) (wc := [oM mo th mw (nv : Int) mg ma mb (ns : Int) mlo mhi (nw : Int) mwe mru mrd]) (wr := []) S hGok hK hg hA (s_M_goes l dC dI cI cL qT mo mw nv ma mb ns mlo mhi nw mwe mru mrd th mg 0 1 1 (by omega) (by omega) (by omega)) (zcwV S (List.mem_cons_of_mem _ k_M_118) mV_M_goes k_M_118 hd_M_goes rfl rfl ⟨Nat.le_of_ble_eq_true rfl, Nat.le_of_ble_eq_true rfl⟩) rfl (Nat.le_of_ble_eq_true rfl) d_M_within_26 ⟨Nat.le_of_ble_eq_true rfl, Nat.le_of_ble_eq_true rfl⟩ rfl [0] [] 0 rfl rfl rfl (by decide) rfl rfl rfl (by decide) (by decide) (fun x w hp => ?_)
      obtain ⟨rfl, rfl⟩ := hp
      show ZZ _ _ _ _ _ _ _ _ _ _ _ _ _ _ _ _ _ _ 29 [(3, .int (zI 0)), (0, .ref mo), (1, .int (zI u)), (2, .int (zI v))] [.int (zI (b2 (gth 0 1 1 = 0)))] [oM mo (gth 0 1 1) mw (nv : Int) mg ma mb (ns : Int) mlo mhi (nw : Int) mwe mru mrd]
      refine z_toi (a := 0) rfl ?_
      refine z_wq (ws' := [oM mo 1 mw (nv : Int) mg ma mb (ns : Int) mlo mhi (nw : Int) mwe mru mrd]) rfl ?_
      refine z_if_eq (tgt := 64) S d_M_within_29 (by decide) (by omega) (fun c4 => ?_) (fun c4 => ?_)
      · skip
        refine z_iconst S d_M_within_64 ?_
        exact z_zret (w := [oM mo 1 mw (nv : Int) mg ma mb (ns : Int) mlo mhi (nw : Int) mwe mru mrd]) S hr hlo hAe (by first | exact Or.inl rfl | exact Or.inr rfl) d_M_within_65 [0] (by decide) rfl rfl ⟨Nat.le_refl _, Nat.le_refl _⟩ (⟨rfl, rfl⟩)
      · skip
        exact absurd c4 (by omega)
    · skip
      exact absurd c3 (fun z => hu ⟨hq5, b2_p z⟩)
