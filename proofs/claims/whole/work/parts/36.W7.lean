set_option maxHeartbeats 4000000 in
set_option maxRecDepth 100000 in
theorem s_W_countDigits (l : Launch) (dC : Nat → ClassId) (dI : Nat → Nat → Nat) (cI cL : ClassId) (qT : Nat) (q : Nat) (qa : Nat) (v : Nat) (hv : v < 1000000000 ^ 12) : Ct l y_W_countDigits (Cond.code y_W_countDigits c_W_countDigits 7 (some .int) :: zB) { frames := 0, cells := 0, slots := 0, locals := 0 } (dC, dI) zcl [(cI, .int), (cL, .long)] (zG cI cL qT) [.ref q] [oW q qa ((us v : Nat) : Int), aI cI qa 12 (wa v)] (fun rv wv => rv = .int (zI ((nd v : Nat) : Int)) ∧ wv = [oW q qa ((us v : Nat) : Int), aI cI qa 12 (wa v)]) 0 0 := by
  refine Cm.ofZ (cc := c_W_countDigits) (maxL := 7) (ret := (some .int)) (by decide) rfl (Nat.le_of_ble_eq_true rfl) rfl ?_
  intro p e s m below meth c A S hr hlo hnm hK hg hA hAe
  have hGok := zG_ok cI cL qT
  show ZZ _ _ _ _ _ _ _ _ _ _ _ _ _ _ _ _ _ _ 0 [(0, .ref q)] [] [oW q qa ((us v : Nat) : Int), aI cI qa 12 (wa v)]
  have hul := us_le v
  refine z_aload_n S d_W_countDigits_0 0 rfl ?_
  refine z_get S hK la_W 0 rfl rfl 1 (by decide) k_W_15 rfl d_W_countDigits_1 ?_
  refine z_if_ne (tgt := 9) S d_W_countDigits_4 (by decide) (by omega) (fun c1 => ?_) (fun c1 => ?_)
  · skip
    obtain ⟨u, hu⟩ : ∃ u : Nat, us v = u + 1 := ⟨us v - 1, by omega⟩
    have hd := dg_lt (b := 1000000000) (by decide) v u
    have hdp : 0 < dg 1000000000 v u := by have := (top_nz hv (Nat.pos_of_ne_zero (fun z => absurd ((us_0 hv).mpr z) (by omega)))).2; rw [hu, Nat.add_sub_cancel] at this; exact this
    refine z_aload_n S d_W_countDigits_9 0 rfl ?_
    refine z_get S hK la_W 0 rfl rfl 0 (by decide) k_W_9 rfl d_W_countDigits_10 ?_
    refine z_aload_n S d_W_countDigits_13 0 rfl ?_
    refine z_get S hK la_W 0 rfl rfl 1 (by decide) k_W_15 rfl d_W_countDigits_14 ?_
    refine z_iconst S d_W_countDigits_17 ?_
    refine z_isub S d_W_countDigits_18 ?_
    refine z_iald (x := ((dg 1000000000 v u : Nat) : Int)) S hK 1 0 rfl rfl u (by omega) (by omega) (by decide) rfl d_W_countDigits_19 ?_
    refine z_istore_n (lv' := [(1, .int (zI ((dg 1000000000 v u : Nat) : Int))), (0, .ref q)]) S d_W_countDigits_20 rfl (by decide) rfl ?_
    refine z_aload_n S d_W_countDigits_21 1 rfl ?_
    refine z_get S hK la_W 0 rfl rfl 1 (by decide) k_W_15 rfl d_W_countDigits_22 ?_
    refine z_iconst S d_W_countDigits_25 ?_
    refine z_isub S d_W_countDigits_26 ?_
    refine z_bipush S d_W_countDigits_27 rfl ?_
    refine z_imul S d_W_countDigits_29 ?_
    refine z_topi (fun x2 ex2 => ?_)
    refine z_istore_n (lv' := [(2, .int (zI x2)), (1, .int (zI ((dg 1000000000 v u : Nat) : Int))), (0, .ref q)]) S d_W_countDigits_30 rfl (by decide) rfl ?_
    refine z_tens S hg kn_W_25 d_W_countDigits_31 ?_
    refine z_astore_n (lv' := [(3, .ref qT), (2, .int (zI x2)), (1, .int (zI ((dg 1000000000 v u : Nat) : Int))), (0, .ref q)]) S d_W_countDigits_34 rfl (by decide) rfl ?_
    refine z_aload_n S d_W_countDigits_35 0 rfl ?_
    refine z_tlen S hg d_W_countDigits_36 ?_
    refine z_istore (lv' := [(4, .int (zI 10)), (3, .ref qT), (2, .int (zI x2)), (1, .int (zI ((dg 1000000000 v u : Nat) : Int))), (0, .ref q)]) S d_W_countDigits_37 (by decide) rfl ?_
    refine z_iconst S d_W_countDigits_39 ?_
    refine z_istore (lv' := [(5, .int (zI 0)), (4, .int (zI 10)), (3, .ref qT), (2, .int (zI x2)), (1, .int (zI ((dg 1000000000 v u : Nat) : Int))), (0, .ref q)]) S d_W_countDigits_40 (by decide) rfl ?_
    refine z_lv (lv' := [(0, .ref q), (1, .int (zI ((dg 1000000000 v u : Nat) : Int))), (2, .int (zI x2)), (3, .ref qT), (4, .int (zI 10)), (5, .int (zI 0))]) [5, 4, 3, 2, 1, 0] rfl ?_
    refine z_lq (lv' := [(0, .ref q), (1, .int (zI ((dg 1000000000 v u : Nat) : Int))), (2, .int (zI ((u * 9 + 0 : Nat) : Int))), (3, .ref qT), (4, .int (zI 10)), (5, .int (zI ((0 : Nat) : Int)))]) (Eq.trans ((congrArg (fun zzz : Int => ([(0, .ref q), (1, .int (zI ((dg 1000000000 v u : Nat) : Int))), (2, .int (zI zzz)), (3, .ref qT), (4, .int (zI 10)), (5, .int (zI 0))] : List (Nat × Value))) (show (x2 : Int) = ((u * 9 + 0 : Nat) : Int) by omega))) (congrArg (fun zzz : Int => ([(0, .ref q), (1, .int (zI ((dg 1000000000 v u : Nat) : Int))), (2, .int (zI ((u * 9 + 0 : Nat) : Int))), (3, .ref qT), (4, .int (zI 10)), (5, .int (zI zzz))] : List (Nat × Value))) (show (0 : Int) = ((0 : Nat) : Int) by omega))) ?_
    refine z_loop (I := fun (zz : Nat × Nat) => match zz with | (i, cc) => (i ≤ 10) ∧ ((cc = i ∧ (i = 0 ∨ 10 ^ (i - 1) ≤ dg 1000000000 v u)) ∨ (cc < i ∧ dg 1000000000 v u < 10 ^ cc ∧ (cc = 0 ∨ 10 ^ (cc - 1) ≤ dg 1000000000 v u)))) (μ := fun (zz : Nat × Nat) => match zz with | (i, cc) => 10 - i) (LV := fun (zz : Nat × Nat) => match zz with | (i, cc) => [(0, .ref q), (1, .int (zI ((dg 1000000000 v u : Nat) : Int))), (2, .int (zI ((u * 9 + cc : Nat) : Int))), (3, .ref qT), (4, .int (zI 10)), (5, .int (zI (i : Int)))]) (WS := fun (zz : Nat × Nat) => match zz with | (i, cc) => [oW q qa ((us v : Nat) : Int), aI cI qa 12 (wa v)]) (a := (0, 0)) ?_ ?_
    · exact (show (0 ≤ 10) ∧ ((0 = 0 ∧ (0 = 0 ∨ 10 ^ (0 - 1) ≤ dg 1000000000 v u)) ∨ (0 < 0 ∧ dg 1000000000 v u < 10 ^ 0 ∧ (0 = 0 ∨ 10 ^ (0 - 1) ≤ dg 1000000000 v u))) from ⟨by omega, Or.inl ⟨rfl, Or.inl rfl⟩⟩)
    · intro ⟨i, cc⟩ hI ih42
      obtain ⟨hi, hc⟩ : (i ≤ 10) ∧ ((cc = i ∧ (i = 0 ∨ 10 ^ (i - 1) ≤ dg 1000000000 v u)) ∨ (cc < i ∧ dg 1000000000 v u < 10 ^ cc ∧ (cc = 0 ∨ 10 ^ (cc - 1) ≤ dg 1000000000 v u))) := hI
      show ZZ _ _ _ _ _ _ _ _ _ _ _ _ _ _ _ _ _ _ 42 [(0, .ref q), (1, .int (zI ((dg 1000000000 v u : Nat) : Int))), (2, .int (zI ((u * 9 + cc : Nat) : Int))), (3, .ref qT), (4, .int (zI 10)), (5, .int (zI (i : Int)))] [] [oW q qa ((us v : Nat) : Int), aI cI qa 12 (wa v)]
      refine z_iload S d_W_countDigits_42 5 rfl ?_
      refine z_iload S d_W_countDigits_44 4 rfl ?_
      refine z_icmp_ge (tgt := 75) S d_W_countDigits_46 (by decide) (by omega) (by omega) (fun c3 => ?_) (fun c3 => ?_)
      · skip
        have hi10 : i = 10 := by omega
        have e9 : (10 : Nat) ^ (10 - 1) = 1000000000 := by decide
        have hfin : nd v = u * 9 + cc := by
          rcases hc with ⟨z1, z2⟩ | ⟨z1, z2, z3⟩
          · rw [hi10] at z2; omega
          · have hc0 : 0 < cc := by
              rcases Nat.eq_zero_or_pos cc with z | z
              · rw [z, Nat.pow_zero] at z2; omega
              · exact z
            have hc9 : cc ≤ 9 := by omega
            exact nd_eq hv hu z2 (fun _ => by omega) hc9 hc0
        refine z_iload_n S d_W_countDigits_75 2 rfl ?_
        exact z_iret (w := [oW q qa ((us v : Nat) : Int), aI cI qa 12 (wa v)]) S hr hlo hAe d_W_countDigits_76 [0, 1] (by decide) rfl rfl ⟨Nat.le_refl _, Nat.le_refl _⟩ (⟨by rw [hfin], rfl⟩)
      · skip
        have hle := p10_le (i := i) (by omega)
        have hnn : (0 : Int) ≤ ((10 ^ i : Nat) : Int) := Int.natCast_nonneg _
        refine z_aload_n S d_W_countDigits_49 3 rfl ?_
        refine z_iload S d_W_countDigits_50 5 rfl ?_
        refine z_tald S hg i rfl (by omega) d_W_countDigits_52 ?_
        refine z_istore (lv' := [(6, .int (zI ((10 ^ i : Nat) : Int))), (0, .ref q), (1, .int (zI ((dg 1000000000 v u : Nat) : Int))), (2, .int (zI ((u * 9 + cc : Nat) : Int))), (3, .ref qT), (4, .int (zI 10)), (5, .int (zI (i : Int)))]) S d_W_countDigits_53 (by decide) rfl ?_
        refine z_iload_n S d_W_countDigits_55 3 rfl ?_
        refine z_iload_n S d_W_countDigits_56 2 rfl ?_
        refine z_iload S d_W_countDigits_57 0 rfl ?_
        refine z_icmp_lt (tgt := 66) S d_W_countDigits_59 (by decide) (by omega) (by omega) (fun c4 => ?_) (fun c4 => ?_)
        · skip
          have hc1 : (cc = i + 1 ∧ (i + 1 = 0 ∨ 10 ^ (i + 1 - 1) ≤ dg 1000000000 v u)) ∨ (cc < i + 1 ∧ dg 1000000000 v u < 10 ^ cc ∧ (cc = 0 ∨ 10 ^ (cc - 1) ≤ dg 1000000000 v u)) := by
            rcases hc with ⟨z1, z2⟩ | ⟨z1, z2⟩
            · exact Or.inr ⟨by omega, by rw [z1]; omega, by rw [z1]; exact z2⟩
            · exact Or.inr ⟨by omega, z2⟩
          refine z_iconst S d_W_countDigits_66 ?_
          refine z_iadd S d_W_countDigits_67 ?_
          refine z_topi (fun x5 ex5 => ?_)
          refine z_istore_n (lv' := [(2, .int (zI x5)), (6, .int (zI ((10 ^ i : Nat) : Int))), (0, .ref q), (1, .int (zI ((dg 1000000000 v u : Nat) : Int))), (3, .ref qT), (4, .int (zI 10)), (5, .int (zI (i : Int)))]) S d_W_countDigits_68 rfl (by decide) rfl ?_
          refine z_iinc (y := ((i + 1 : Nat) : Int)) (lv' := [(5, .int (zI ((i + 1 : Nat) : Int))), (2, .int (zI x5)), (6, .int (zI ((10 ^ i : Nat) : Int))), (0, .ref q), (1, .int (zI ((dg 1000000000 v u : Nat) : Int))), (3, .ref qT), (4, .int (zI 10))]) S d_W_countDigits_69 6 rfl (by omega) (by decide) rfl ?_
          refine z_goto (tgt := 42) S d_W_countDigits_72 (by decide) ?_
          refine z_lv (lv' := [(0, .ref q), (1, .int (zI ((dg 1000000000 v u : Nat) : Int))), (2, .int (zI x5)), (3, .ref qT), (4, .int (zI 10)), (5, .int (zI ((i + 1 : Nat) : Int)))]) [3, 4, 1, 5, 6, 0] rfl ?_
          refine z_lq (lv' := [(0, .ref q), (1, .int (zI ((dg 1000000000 v u : Nat) : Int))), (2, .int (zI ((u * 9 + cc : Nat) : Int))), (3, .ref qT), (4, .int (zI 10)), (5, .int (zI ((i + 1 : Nat) : Int)))]) (congrArg (fun zzz : Int => ([(0, .ref q), (1, .int (zI ((dg 1000000000 v u : Nat) : Int))), (2, .int (zI zzz)), (3, .ref qT), (4, .int (zI 10)), (5, .int (zI ((i + 1 : Nat) : Int)))] : List (Nat × Value))) (show (x5 : Int) = ((u * 9 + cc : Nat) : Int) by omega)) ?_
          exact ih42 ((i + 1), cc) (show ((i + 1) ≤ 10) ∧ ((cc = (i + 1) ∧ ((i + 1) = 0 ∨ 10 ^ ((i + 1) - 1) ≤ dg 1000000000 v u)) ∨ (cc < (i + 1) ∧ dg 1000000000 v u < 10 ^ cc ∧ (cc = 0 ∨ 10 ^ (cc - 1) ≤ dg 1000000000 v u))) from ⟨by omega, hc1⟩) (show 10 - (i + 1) < 10 - i from by omega)
        · skip
          have hci : cc = i := by
            rcases hc with ⟨z1, _⟩ | ⟨z1, z2, _⟩
            · exact z1
            · have := pw_le (b := 10) (by decide) (show cc ≤ i by omega)
              omega
          refine z_iconst S d_W_countDigits_62 ?_
          refine z_goto (tgt := 67) S d_W_countDigits_63 (by decide) ?_
          refine z_iadd S d_W_countDigits_67 ?_
          refine z_topi (fun x6 ex6 => ?_)
          refine z_istore_n (lv' := [(2, .int (zI x6)), (6, .int (zI ((10 ^ i : Nat) : Int))), (0, .ref q), (1, .int (zI ((dg 1000000000 v u : Nat) : Int))), (3, .ref qT), (4, .int (zI 10)), (5, .int (zI (i : Int)))]) S d_W_countDigits_68 rfl (by decide) rfl ?_
          refine z_iinc (y := ((i + 1 : Nat) : Int)) (lv' := [(5, .int (zI ((i + 1 : Nat) : Int))), (2, .int (zI x6)), (6, .int (zI ((10 ^ i : Nat) : Int))), (0, .ref q), (1, .int (zI ((dg 1000000000 v u : Nat) : Int))), (3, .ref qT), (4, .int (zI 10))]) S d_W_countDigits_69 6 rfl (by omega) (by decide) rfl ?_
          refine z_goto (tgt := 42) S d_W_countDigits_72 (by decide) ?_
          refine z_lv (lv' := [(0, .ref q), (1, .int (zI ((dg 1000000000 v u : Nat) : Int))), (2, .int (zI x6)), (3, .ref qT), (4, .int (zI 10)), (5, .int (zI ((i + 1 : Nat) : Int)))]) [3, 4, 1, 5, 6, 0] rfl ?_
          refine z_lq (lv' := [(0, .ref q), (1, .int (zI ((dg 1000000000 v u : Nat) : Int))), (2, .int (zI ((u * 9 + (cc + 1) : Nat) : Int))), (3, .ref qT), (4, .int (zI 10)), (5, .int (zI ((i + 1 : Nat) : Int)))]) (congrArg (fun zzz : Int => ([(0, .ref q), (1, .int (zI ((dg 1000000000 v u : Nat) : Int))), (2, .int (zI zzz)), (3, .ref qT), (4, .int (zI 10)), (5, .int (zI ((i + 1 : Nat) : Int)))] : List (Nat × Value))) (show (x6 : Int) = ((u * 9 + (cc + 1) : Nat) : Int) by omega)) ?_
          exact ih42 ((i + 1), (cc + 1)) (show ((i + 1) ≤ 10) ∧ (((cc + 1) = (i + 1) ∧ ((i + 1) = 0 ∨ 10 ^ ((i + 1) - 1) ≤ dg 1000000000 v u)) ∨ ((cc + 1) < (i + 1) ∧ dg 1000000000 v u < 10 ^ (cc + 1) ∧ ((cc + 1) = 0 ∨ 10 ^ ((cc + 1) - 1) ≤ dg 1000000000 v u))) from ⟨by omega, Or.inl ⟨by omega, Or.inr (by rw [Nat.add_sub_cancel]; omega)⟩⟩) (show 10 - (i + 1) < 10 - i from by omega)
  · skip
    refine z_iconst S d_W_countDigits_7 ?_
    exact z_iret (w := [oW q qa ((us v : Nat) : Int), aI cI qa 12 (wa v)]) S hr hlo hAe d_W_countDigits_8 [0, 1] (by decide) rfl rfl ⟨Nat.le_refl _, Nat.le_refl _⟩ (⟨by rw [show nd v = 1 by unfold nd; rw [if_pos ((us_0 hv).mp (by omega))]]; rfl, rfl⟩)
set_option maxHeartbeats 4000000 in
set_option maxRecDepth 100000 in
theorem s_F_isTooLong (l : Launch) (dC : Nat → ClassId) (dI : Nat → Nat → Nat) (cI cL : ClassId) (qT : Nat) (a : Nat) (an : Int) (au : Nat) (aua : Nat) (ax : Nat) (al : Nat) (ala : Nat) (az : Nat) (hax : ax < 1000000000 ^ 12) (haz : az < 1000000000 ^ 12) : Ct l y_F_isTooLong (Cond.code y_F_isTooLong c_F_isTooLong 1 (some .boolean) :: zB) { frames := 1, cells := 0, slots := 0, locals := 26 } (dC, dI) zcl [(cI, .int), (cL, .long)] (zG cI cL qT) [.ref a] [oF a an au al, oW au aua ((us ax : Nat) : Int), aI cI aua 12 (wa ax), oW al ala ((us az : Nat) : Int), aI cI ala 12 (wa az)] (fun rv wv => rv = .int (zI (b2 (¬ (ax < 10 ^ 48 ∧ az < 10 ^ 48)))) ∧ wv = [oF a an au al, oW au aua ((us ax : Nat) : Int), aI cI aua 12 (wa ax), oW al ala ((us az : Nat) : Int), aI cI ala 12 (wa az)]) 0 0 := by
  refine Cm.ofZ (cc := c_F_isTooLong) (maxL := 1) (ret := (some .boolean)) (by decide) rfl (Nat.le_of_ble_eq_true rfl) rfl ?_
  intro p e s m below meth c A S hr hlo hnm hK hg hA hAe
  have hGok := zG_ok cI cL qT
  show ZZ _ _ _ _ _ _ _ _ _ _ _ _ _ _ _ _ _ _ 0 [(0, .ref a)] [] [oF a an au al, oW au aua ((us ax : Nat) : Int), aI cI aua 12 (wa ax), oW al ala ((us az : Nat) : Int), aI cI ala 12 (wa az)]
  have n1 := nd_48 hax
  have n2 := nd_48 haz
  have r1 := nd_r hax
  have r2 := nd_r haz
  refine z_aload_n S d_F_isTooLong_0 0 rfl ?_
  refine z_get S hK la_F 0 rfl rfl 1 (by decide) k_F_18 rfl d_F_isTooLong_1 ?_
  refine z_callVa (As := []) (st := []) (wc := [oW au aua ((us ax : Nat) : Int), aI cI aua 12 (wa ax)]) (wr := [oF a an au al, oW al ala ((us az : Nat) : Int), aI cI ala 12 (wa az)]) S hGok hK hg hA (s_W_countDigits l dC dI cI cL qT au aua ax (by omega)) (zcwV S (List.mem_cons_of_mem _ k_F_29) mV_W_countDigits k_F_29 hd_W_countDigits rfl rfl ⟨Nat.le_of_ble_eq_true rfl, Nat.le_of_ble_eq_true rfl⟩) rfl (Nat.le_of_ble_eq_true rfl) d_F_isTooLong_4 ⟨Nat.le_of_ble_eq_true rfl, Nat.le_of_ble_eq_true rfl⟩ rfl [1, 2] [0, 3, 4] 1 rfl rfl rfl (by decide) rfl rfl rfl (by decide) (by decide) (fun x w hp => ?_)
  obtain ⟨rfl, rfl⟩ := hp
  show ZZ _ _ _ _ _ _ _ _ _ _ _ _ _ _ _ _ _ _ 7 [(0, .ref a)] [.int (zI ((nd ax : Nat) : Int))] [oF a an au al, oW al ala ((us az : Nat) : Int), aI cI ala 12 (wa az), oW au aua ((us ax : Nat) : Int), aI cI aua 12 (wa ax)]
  refine z_bipush S d_F_isTooLong_7 rfl ?_
  refine z_icmp_gt (tgt := 24) S d_F_isTooLong_9 (by decide) (by omega) (by omega) (fun c1 => ?_) (fun c1 => ?_)
  · skip
    refine z_iconst S d_F_isTooLong_24 ?_
    refine z_goto (tgt := 29) S d_F_isTooLong_25 (by decide) ?_
    exact z_zret (w := [oF a an au al, oW au aua ((us ax : Nat) : Int), aI cI aua 12 (wa ax), oW al ala ((us az : Nat) : Int), aI cI ala 12 (wa az)]) S hr hlo hAe (by first | exact Or.inl rfl | exact Or.inr rfl) d_F_isTooLong_29 [0, 3, 4, 1, 2] (by decide) rfl rfl ⟨Nat.le_refl _, Nat.le_refl _⟩ (⟨by rw [b2_t (by omega)], rfl⟩)
  · skip
    refine z_aload_n S d_F_isTooLong_12 0 rfl ?_
    refine z_get S hK la_F 0 rfl rfl 2 (by decide) k_F_22 rfl d_F_isTooLong_13 ?_
    refine z_callVa (As := []) (st := []) (wc := [oW al ala ((us az : Nat) : Int), aI cI ala 12 (wa az)]) (wr := [oF a an au al, oW au aua ((us ax : Nat) : Int), aI cI aua 12 (wa ax)]) S hGok hK hg hA (s_W_countDigits l dC dI cI cL qT al ala az (by omega)) (zcwV S (List.mem_cons_of_mem _ k_F_29) mV_W_countDigits k_F_29 hd_W_countDigits rfl rfl ⟨Nat.le_of_ble_eq_true rfl, Nat.le_of_ble_eq_true rfl⟩) rfl (Nat.le_of_ble_eq_true rfl) d_F_isTooLong_16 ⟨Nat.le_of_ble_eq_true rfl, Nat.le_of_ble_eq_true rfl⟩ rfl [1, 2] [0, 3, 4] 1 rfl rfl rfl (by decide) rfl rfl rfl (by decide) (by decide) (fun x w hp => ?_)
    obtain ⟨rfl, rfl⟩ := hp
    show ZZ _ _ _ _ _ _ _ _ _ _ _ _ _ _ _ _ _ _ 19 [(0, .ref a)] [.int (zI ((nd az : Nat) : Int))] [oF a an au al, oW au aua ((us ax : Nat) : Int), aI cI aua 12 (wa ax), oW al ala ((us az : Nat) : Int), aI cI ala 12 (wa az)]
    refine z_bipush S d_F_isTooLong_19 rfl ?_
    refine z_icmp_le (tgt := 28) S d_F_isTooLong_21 (by decide) (by omega) (by omega) (fun c2 => ?_) (fun c2 => ?_)
    · skip
      refine z_iconst S d_F_isTooLong_28 ?_
      exact z_zret (w := [oF a an au al, oW au aua ((us ax : Nat) : Int), aI cI aua 12 (wa ax), oW al ala ((us az : Nat) : Int), aI cI ala 12 (wa az)]) S hr hlo hAe (by first | exact Or.inl rfl | exact Or.inr rfl) d_F_isTooLong_29 [0, 1, 2, 3, 4] (by decide) rfl rfl ⟨Nat.le_refl _, Nat.le_refl _⟩ (⟨by rw [b2_f (by omega)], rfl⟩)
    · skip
      refine z_iconst S d_F_isTooLong_24 ?_
      refine z_goto (tgt := 29) S d_F_isTooLong_25 (by decide) ?_
      exact z_zret (w := [oF a an au al, oW au aua ((us ax : Nat) : Int), aI cI aua 12 (wa ax), oW al ala ((us az : Nat) : Int), aI cI ala 12 (wa az)]) S hr hlo hAe (by first | exact Or.inl rfl | exact Or.inr rfl) d_F_isTooLong_29 [0, 1, 2, 3, 4] (by decide) rfl rfl ⟨Nat.le_refl _, Nat.le_refl _⟩ (⟨by rw [b2_t (by omega)], rfl⟩)
set_option maxHeartbeats 4000000 in
set_option maxRecDepth 100000 in
theorem s_JL_compare (l : Launch) (dC : Nat → ClassId) (dI : Nat → Nat → Nat) (cI cL : ClassId) (qT : Nat) (a : Int) (b : Int) (ha : -9223372036854775808 ≤ a ∧ a < 9223372036854775808) (hb : -9223372036854775808 ≤ b ∧ b < 9223372036854775808) : Ct l y_JL_compare (Cond.code y_JL_compare c_JL_compare 4 (some .int) :: zB) { frames := 0, cells := 0, slots := 0, locals := 0 } (dC, dI) zcl [(cI, .int), (cL, .long)] (zG cI cL qT) [.long (zL a), .long (zL b)] [] (fun rv wv => rv = .int (zI (cmpZ a b)) ∧ wv = []) 0 0 := by
  refine Cm.ofZ (cc := c_JL_compare) (maxL := 4) (ret := (some .int)) (by decide) rfl (Nat.le_of_ble_eq_true rfl) rfl ?_
  intro p e s m below meth c A S hr hlo hnm hK hg hA hAe
  have hGok := zG_ok cI cL qT
  show ZZ _ _ _ _ _ _ _ _ _ _ _ _ _ _ _ _ _ _ 0 [(0, .long (zL a)), (2, .long (zL b))] [] []
  refine z_lload_n S d_JL_compare_0 0 rfl ?_
  refine z_lload_n S d_JL_compare_1 1 rfl ?_
  refine z_lcmp_ge (tgt := 10) S d_JL_compare_2 d_JL_compare_3 (by decide) (by omega) (by omega) (fun c1 => ?_) (fun c1 => ?_)
  · skip
    refine z_lload_n S d_JL_compare_10 0 rfl ?_
    refine z_lload_n S d_JL_compare_11 1 rfl ?_
    refine z_lcmp_ne (tgt := 20) S d_JL_compare_12 d_JL_compare_13 (by decide) (by omega) (by omega) (fun c2 => ?_) (fun c2 => ?_)
    · skip
      refine z_iconst S d_JL_compare_20 ?_
      exact z_iret (w := []) S hr hlo hAe d_JL_compare_21 [] (by decide) rfl rfl ⟨Nat.le_refl _, Nat.le_refl _⟩ (⟨congrArg Value.int (zI_c (by unfold cmpZ; split <;> (try split) <;> omega)), rfl⟩)
    · skip
      refine z_iconst S d_JL_compare_16 ?_
      refine z_goto (tgt := 21) S d_JL_compare_17 (by decide) ?_
      exact z_iret (w := []) S hr hlo hAe d_JL_compare_21 [] (by decide) rfl rfl ⟨Nat.le_refl _, Nat.le_refl _⟩ (⟨congrArg Value.int (zI_c (by unfold cmpZ; split <;> (try split) <;> omega)), rfl⟩)
  · skip
    refine z_iconst S d_JL_compare_6 ?_
    refine z_goto (tgt := 21) S d_JL_compare_7 (by decide) ?_
    exact z_iret (w := []) S hr hlo hAe d_JL_compare_21 [] (by decide) rfl rfl ⟨Nat.le_refl _, Nat.le_refl _⟩ (⟨congrArg Value.int (zI_c (by unfold cmpZ; split <;> (try split) <;> omega)), rfl⟩)
set_option maxHeartbeats 4000000 in
set_option maxRecDepth 100000 in
theorem s_F_become (l : Launch) (dC : Nat → ClassId) (dI : Nat → Nat → Nat) (cI cL : ClassId) (qT : Nat) (a : Nat) (an : Int) (au : Nat) (aua : Nat) (ax : Nat) (al : Nat) (ala : Nat) (az : Nat) (n : Int) (d : Int) (hax : ax < 1000000000 ^ 12) (haz : az < 1000000000 ^ 12) (hn : -9223372036854775808 ≤ n ∧ n < 9223372036854775808) (hd : -9223372036854775808 ≤ d ∧ d < 9223372036854775808) : Cv l y_F_become (Cond.code y_F_become c_F_become 5 none :: zB) { frames := 2, cells := 0, slots := 0, locals := 46 } (dC, dI) zcl [(cI, .int), (cL, .long)] (zG cI cL qT) [.ref a, .long (zL n), .long (zL d)] [oF a an au al, oW au aua ((us ax : Nat) : Int), aI cI aua 12 (wa ax), oW al ala ((us az : Nat) : Int), aI cI ala 12 (wa az)] (fun wv => wv = [oF a (cmpZ n 0 * cmpZ d 0) au al, oW au aua ((us (Int.natAbs n) : Nat) : Int), aI cI aua 12 (wa (Int.natAbs n)), oW al ala ((us (Int.natAbs d) : Nat) : Int), aI cI ala 12 (wa (Int.natAbs d))]) 0 0 := by
  refine Cm.ofZ (cc := c_F_become) (maxL := 5) (ret := none) (by decide) rfl (Nat.le_of_ble_eq_true rfl) rfl ?_
  intro p e s m below meth c A S hr hlo hnm hK hg hA hAe
  have hGok := zG_ok cI cL qT
  show ZZ _ _ _ _ _ _ _ _ _ _ _ _ _ _ _ _ _ _ 0 [(0, .ref a), (1, .long (zL n)), (3, .long (zL d))] [] [oF a an au al, oW au aua ((us ax : Nat) : Int), aI cI aua 12 (wa ax), oW al ala ((us az : Nat) : Int), aI cI ala 12 (wa az)]
  refine z_aload_n S d_F_become_0 0 rfl ?_
  refine z_lload_n S d_F_become_1 1 rfl ?_
  refine z_lconst (z := 0) S d_F_become_2 rfl ?_
  refine z_callSa (As := [.long (zL n), .long (zL 0)]) (st := [.ref a]) (wc := []) (wr := [oF a an au al, oW au aua ((us ax : Nat) : Int), aI cI aua 12 (wa ax), oW al ala ((us az : Nat) : Int), aI cI ala 12 (wa az)]) S hGok hK hg hA (s_JL_compare l dC dI cI cL qT n 0 (by omega) (by omega)) (zcwS S k_F_33 mS_JL_compare hd_JL_compare rfl rfl ⟨Nat.le_of_ble_eq_true rfl, Nat.le_of_ble_eq_true rfl⟩) rfl (Nat.le_of_ble_eq_true rfl) d_F_become_3 ⟨Nat.le_of_ble_eq_true rfl, Nat.le_of_ble_eq_true rfl⟩ rfl [] [0, 1, 2, 3, 4] (by decide) rfl rfl rfl (by decide) (by decide) (fun x w hp => ?_)
  obtain ⟨rfl, rfl⟩ := hp
  show ZZ _ _ _ _ _ _ _ _ _ _ _ _ _ _ _ _ _ _ 6 [(0, .ref a), (1, .long (zL n)), (3, .long (zL d))] [.int (zI (cmpZ n 0)), .ref a] [oF a an au al, oW au aua ((us ax : Nat) : Int), aI cI aua 12 (wa ax), oW al ala ((us az : Nat) : Int), aI cI ala 12 (wa az)]
  refine z_lload_n S d_F_become_6 2 rfl ?_
  refine z_lconst (z := 0) S d_F_become_7 rfl ?_
  refine z_callSa (As := [.long (zL d), .long (zL 0)]) (st := [.int (zI (cmpZ n 0)), .ref a]) (wc := []) (wr := [oF a an au al, oW au aua ((us ax : Nat) : Int), aI cI aua 12 (wa ax), oW al ala ((us az : Nat) : Int), aI cI ala 12 (wa az)]) S hGok hK hg hA (s_JL_compare l dC dI cI cL qT d 0 (by omega) (by omega)) (zcwS S k_F_33 mS_JL_compare hd_JL_compare rfl rfl ⟨Nat.le_of_ble_eq_true rfl, Nat.le_of_ble_eq_true rfl⟩) rfl (Nat.le_of_ble_eq_true rfl) d_F_become_8 ⟨Nat.le_of_ble_eq_true rfl, Nat.le_of_ble_eq_true rfl⟩ rfl [] [0, 1, 2, 3, 4] (by decide) rfl rfl rfl (by decide) (by decide) (fun x w hp => ?_)
  obtain ⟨rfl, rfl⟩ := hp
  show ZZ _ _ _ _ _ _ _ _ _ _ _ _ _ _ _ _ _ _ 11 [(0, .ref a), (1, .long (zL n)), (3, .long (zL d))] [.int (zI (cmpZ d 0)), .int (zI (cmpZ n 0)), .ref a] [oF a an au al, oW au aua ((us ax : Nat) : Int), aI cI aua 12 (wa ax), oW al ala ((us az : Nat) : Int), aI cI ala 12 (wa az)]
  refine z_imul S d_F_become_11 ?_
  refine z_put (ws' := [oF a ((cmpZ n 0) * (cmpZ d 0)) au al, oW au aua ((us ax : Nat) : Int), aI cI aua 12 (wa ax), oW al ala ((us az : Nat) : Int), aI cI ala 12 (wa az)]) S hK la_F ty_F tyok_F nm_F 0 rfl rfl 0 (by decide) k_F_9 rfl (ty := .int) (by decide +kernel) rfl rfl (Nat.le_of_ble_eq_true rfl) rfl d_F_become_12 ?_
  refine z_aload_n S d_F_become_15 0 rfl ?_
  refine z_get S hK la_F 0 rfl rfl 1 (by decide) k_F_18 rfl d_F_become_16 ?_
  refine z_lload_n S d_F_become_19 1 rfl ?_
  refine z_callVv (As := [.long (zL n)]) (st := []) (wc := [oW au aua ((us ax : Nat) : Int), aI cI aua 12 (wa ax)]) (wr := [oF a ((cmpZ n 0) * (cmpZ d 0)) au al, oW al ala ((us az : Nat) : Int), aI cI ala 12 (wa az)]) S hGok hK hg hA (s_W_becomeSizeOf l dC dI cI cL qT au aua ((us ax : Nat) : Int) (wa ax) n (fun j hj => wa_hi (by omega) hj) (by omega)) (zcwV S (List.mem_cons_of_mem _ k_F_25) mV_W_becomeSizeOf k_F_25 hd_W_becomeSizeOf rfl rfl ⟨Nat.le_of_ble_eq_true rfl, Nat.le_of_ble_eq_true rfl⟩) rfl (Nat.le_of_ble_eq_true rfl) d_F_become_20 ⟨Nat.le_of_ble_eq_true rfl, Nat.le_of_ble_eq_true rfl⟩ rfl [1, 2] [0, 3, 4] 1 rfl rfl rfl (by decide) rfl rfl rfl (by decide) (by decide) (fun w hp => ?_)
  subst hp
  show ZZ _ _ _ _ _ _ _ _ _ _ _ _ _ _ _ _ _ _ 23 [(0, .ref a), (1, .long (zL n)), (3, .long (zL d))] [] [oF a ((cmpZ n 0) * (cmpZ d 0)) au al, oW al ala ((us az : Nat) : Int), aI cI ala 12 (wa az), oW au aua ((us (Int.natAbs n) : Nat) : Int), aI cI aua 12 (wa (Int.natAbs n))]
  refine z_aload_n S d_F_become_23 0 rfl ?_
  refine z_get S hK la_F 0 rfl rfl 2 (by decide) k_F_22 rfl d_F_become_24 ?_
  refine z_lload_n S d_F_become_27 2 rfl ?_
  refine z_callVv (As := [.long (zL d)]) (st := []) (wc := [oW al ala ((us az : Nat) : Int), aI cI ala 12 (wa az)]) (wr := [oF a ((cmpZ n 0) * (cmpZ d 0)) au al, oW au aua ((us (Int.natAbs n) : Nat) : Int), aI cI aua 12 (wa (Int.natAbs n))]) S hGok hK hg hA (s_W_becomeSizeOf l dC dI cI cL qT al ala ((us az : Nat) : Int) (wa az) d (fun j hj => wa_hi (by omega) hj) (by omega)) (zcwV S (List.mem_cons_of_mem _ k_F_25) mV_W_becomeSizeOf k_F_25 hd_W_becomeSizeOf rfl rfl ⟨Nat.le_of_ble_eq_true rfl, Nat.le_of_ble_eq_true rfl⟩) rfl (Nat.le_of_ble_eq_true rfl) d_F_become_28 ⟨Nat.le_of_ble_eq_true rfl, Nat.le_of_ble_eq_true rfl⟩ rfl [1, 2] [0, 3, 4] 1 rfl rfl rfl (by decide) rfl rfl rfl (by decide) (by decide) (fun w hp => ?_)
  subst hp
  show ZZ _ _ _ _ _ _ _ _ _ _ _ _ _ _ _ _ _ _ 31 [(0, .ref a), (1, .long (zL n)), (3, .long (zL d))] [] [oF a ((cmpZ n 0) * (cmpZ d 0)) au al, oW au aua ((us (Int.natAbs n) : Nat) : Int), aI cI aua 12 (wa (Int.natAbs n)), oW al ala ((us (Int.natAbs d) : Nat) : Int), aI cI ala 12 (wa (Int.natAbs d))]
  exact z_vret (w := [oF a ((cmpZ n 0) * (cmpZ d 0)) au al, oW au aua ((us (Int.natAbs n) : Nat) : Int), aI cI aua 12 (wa (Int.natAbs n)), oW al ala ((us (Int.natAbs d) : Nat) : Int), aI cI ala 12 (wa (Int.natAbs d))]) S hr hlo hAe d_F_become_31 [0, 1, 2, 3, 4] (by decide) rfl rfl ⟨Nat.le_refl _, Nat.le_refl _⟩ (rfl)
set_option maxHeartbeats 4000000 in
set_option maxRecDepth 100000 in
theorem s_F_becomeCopy (l : Launch) (dC : Nat → ClassId) (dI : Nat → Nat → Nat) (cI cL : ClassId) (qT : Nat) (a : Nat) (an : Int) (au : Nat) (aua : Nat) (ax : Nat) (al : Nat) (ala : Nat) (az : Nat) (b : Nat) (bn : Int) (bu : Nat) (bua : Nat) (bx : Nat) (bl : Nat) (bla : Nat) (bz : Nat) (hax : ax < 1000000000 ^ 12) (haz : az < 1000000000 ^ 12) (hbx : bx < 1000000000 ^ 12) (hbz : bz < 1000000000 ^ 12) : Cv l y_F_becomeCopy (Cond.code y_F_becomeCopy c_F_becomeCopy 2 none :: zB) { frames := 1, cells := 0, slots := 0, locals := 22 } (dC, dI) zcl [(cI, .int), (cL, .long)] (zG cI cL qT) [.ref a, .ref b] [oF a an au al, oW au aua ((us ax : Nat) : Int), aI cI aua 12 (wa ax), oW al ala ((us az : Nat) : Int), aI cI ala 12 (wa az), oF b bn bu bl, oW bu bua ((us bx : Nat) : Int), aI cI bua 12 (wa bx), oW bl bla ((us bz : Nat) : Int), aI cI bla 12 (wa bz)] (fun wv => wv = [oF a bn au al, oW au aua ((us bx : Nat) : Int), aI cI aua 12 (wa bx), oW al ala ((us bz : Nat) : Int), aI cI ala 12 (wa bz), oF b bn bu bl, oW bu bua ((us bx : Nat) : Int), aI cI bua 12 (wa bx), oW bl bla ((us bz : Nat) : Int), aI cI bla 12 (wa bz)]) 0 0 := by
  refine Cm.ofZ (cc := c_F_becomeCopy) (maxL := 2) (ret := none) (by decide) rfl (Nat.le_of_ble_eq_true rfl) rfl ?_
  intro p e s m below meth c A S hr hlo hnm hK hg hA hAe
  have hGok := zG_ok cI cL qT
  show ZZ _ _ _ _ _ _ _ _ _ _ _ _ _ _ _ _ _ _ 0 [(0, .ref a), (1, .ref b)] [] [oF a an au al, oW au aua ((us ax : Nat) : Int), aI cI aua 12 (wa ax), oW al ala ((us az : Nat) : Int), aI cI ala 12 (wa az), oF b bn bu bl, oW bu bua ((us bx : Nat) : Int), aI cI bua 12 (wa bx), oW bl bla ((us bz : Nat) : Int), aI cI bla 12 (wa bz)]
  refine z_aload_n S d_F_becomeCopy_0 0 rfl ?_
  refine z_aload_n S d_F_becomeCopy_1 1 rfl ?_
  refine z_get S hK la_F 5 rfl rfl 0 (by decide) k_F_9 rfl d_F_becomeCopy_2 ?_
  refine z_put (ws' := [oF a bn au al, oW au aua ((us ax : Nat) : Int), aI cI aua 12 (wa ax), oW al ala ((us az : Nat) : Int), aI cI ala 12 (wa az), oF b bn bu bl, oW bu bua ((us bx : Nat) : Int), aI cI bua 12 (wa bx), oW bl bla ((us bz : Nat) : Int), aI cI bla 12 (wa bz)]) S hK la_F ty_F tyok_F nm_F 0 rfl rfl 0 (by decide) k_F_9 rfl (ty := .int) (by decide +kernel) rfl rfl (Nat.le_of_ble_eq_true rfl) rfl d_F_becomeCopy_5 ?_
  refine z_aload_n S d_F_becomeCopy_8 0 rfl ?_
  refine z_get S hK la_F 0 rfl rfl 1 (by decide) k_F_18 rfl d_F_becomeCopy_9 ?_
  refine z_aload_n S d_F_becomeCopy_12 1 rfl ?_
  refine z_get S hK la_F 5 rfl rfl 1 (by decide) k_F_18 rfl d_F_becomeCopy_13 ?_
  refine z_callVv (As := [.ref bu]) (st := []) (wc := [oW au aua ((us ax : Nat) : Int), aI cI aua 12 (wa ax), oW bu bua ((us bx : Nat) : Int), aI cI bua 12 (wa bx)]) (wr := [oF a bn au al, oW al ala ((us az : Nat) : Int), aI cI ala 12 (wa az), oF b bn bu bl, oW bl bla ((us bz : Nat) : Int), aI cI bla 12 (wa bz)]) S hGok hK hg hA (s_W_becomeCopy l dC dI cI cL qT au aua ((us ax : Nat) : Int) (wa ax) bu bua bx (by omega) (fun j hj => wa_hi (by omega) hj)) (zcwV S (List.mem_cons_of_mem _ k_F_39) mV_W_becomeCopy k_F_39 hd_W_becomeCopy rfl rfl ⟨Nat.le_of_ble_eq_true rfl, Nat.le_of_ble_eq_true rfl⟩) rfl (Nat.le_of_ble_eq_true rfl) d_F_becomeCopy_16 ⟨Nat.le_of_ble_eq_true rfl, Nat.le_of_ble_eq_true rfl⟩ rfl [1, 2, 6, 7] [0, 3, 4, 5, 8, 9] 1 rfl rfl rfl (by decide) rfl rfl rfl (by decide) (by decide) (fun w hp => ?_)
  subst hp
  show ZZ _ _ _ _ _ _ _ _ _ _ _ _ _ _ _ _ _ _ 19 [(0, .ref a), (1, .ref b)] [] [oF a bn au al, oW al ala ((us az : Nat) : Int), aI cI ala 12 (wa az), oF b bn bu bl, oW bl bla ((us bz : Nat) : Int), aI cI bla 12 (wa bz), oW au aua ((us bx : Nat) : Int), aI cI aua 12 (wa bx), oW bu bua ((us bx : Nat) : Int), aI cI bua 12 (wa bx)]
  refine z_aload_n S d_F_becomeCopy_19 0 rfl ?_
  refine z_get S hK la_F 0 rfl rfl 2 (by decide) k_F_22 rfl d_F_becomeCopy_20 ?_
  refine z_aload_n S d_F_becomeCopy_23 1 rfl ?_
  refine z_get S hK la_F 3 rfl rfl 2 (by decide) k_F_22 rfl d_F_becomeCopy_24 ?_
  refine z_callVv (As := [.ref bl]) (st := []) (wc := [oW al ala ((us az : Nat) : Int), aI cI ala 12 (wa az), oW bl bla ((us bz : Nat) : Int), aI cI bla 12 (wa bz)]) (wr := [oF a bn au al, oF b bn bu bl, oW au aua ((us bx : Nat) : Int), aI cI aua 12 (wa bx), oW bu bua ((us bx : Nat) : Int), aI cI bua 12 (wa bx)]) S hGok hK hg hA (s_W_becomeCopy l dC dI cI cL qT al ala ((us az : Nat) : Int) (wa az) bl bla bz (by omega) (fun j hj => wa_hi (by omega) hj)) (zcwV S (List.mem_cons_of_mem _ k_F_39) mV_W_becomeCopy k_F_39 hd_W_becomeCopy rfl rfl ⟨Nat.le_of_ble_eq_true rfl, Nat.le_of_ble_eq_true rfl⟩) rfl (Nat.le_of_ble_eq_true rfl) d_F_becomeCopy_27 ⟨Nat.le_of_ble_eq_true rfl, Nat.le_of_ble_eq_true rfl⟩ rfl [1, 2, 4, 5] [0, 3, 6, 7, 8, 9] 1 rfl rfl rfl (by decide) rfl rfl rfl (by decide) (by decide) (fun w hp => ?_)
  subst hp
  show ZZ _ _ _ _ _ _ _ _ _ _ _ _ _ _ _ _ _ _ 30 [(0, .ref a), (1, .ref b)] [] [oF a bn au al, oF b bn bu bl, oW au aua ((us bx : Nat) : Int), aI cI aua 12 (wa bx), oW bu bua ((us bx : Nat) : Int), aI cI bua 12 (wa bx), oW al ala ((us bz : Nat) : Int), aI cI ala 12 (wa bz), oW bl bla ((us bz : Nat) : Int), aI cI bla 12 (wa bz)]
  exact z_vret (w := [oF a bn au al, oW au aua ((us bx : Nat) : Int), aI cI aua 12 (wa bx), oW al ala ((us bz : Nat) : Int), aI cI ala 12 (wa bz), oF b bn bu bl, oW bu bua ((us bx : Nat) : Int), aI cI bua 12 (wa bx), oW bl bla ((us bz : Nat) : Int), aI cI bla 12 (wa bz)]) S hr hlo hAe d_F_becomeCopy_30 [0, 2, 3, 6, 7, 1, 4, 5, 8, 9] (by decide) rfl rfl ⟨Nat.le_refl _, Nat.le_refl _⟩ (rfl)
