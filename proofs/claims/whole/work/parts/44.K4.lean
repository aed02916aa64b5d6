set_option maxHeartbeats 4000000 in
set_option maxRecDepth 100000 in
theorem s_K_digit0 (l : Launch) (dC : Nat → ClassId) (dI : Nat → Nat → Nat) (cI cL : ClassId) (qT : Nat) (k : Nat) (ka : Nat) (kz : Nat) (ns : Nat) (kw : Nat) (nw : Nat) (j : Nat) (kb : Nat) (a : Nat) (b : Nat) (d : Nat) (g : Nat) (h : Nat) (hl : Nat) (hs : Nat) (nn : Nat → Nat) (sg : Nat → Int) (n : Nat) (an : Int) (au : Nat) (aua : Nat) (ax : Nat) (al : Nat) (ala : Nat) (az : Nat) (u : Nat) (i : Nat) (hn : n ≤ 100) (hV : okVs sg nn n) (hu : u < n) (hi : i < nd (nn (2 * u))) (hax : ax < 1000000000 ^ 12) (haz : az < 1000000000 ^ 12) : Ct l y_K_digit (Cond.code y_K_digit c_K_digit 5 (some .int) :: zB) { frames := 7, cells := 0, slots := 0, locals := 131 } (dC, dI) zcl [(cI, .int), (cL, .long)] (zG cI cL qT) [.ref k, .int (zI (u : Int)), .int (zI 0), .int (zI (i : Int))] [oK k h ka kz (ns : Int) kw (nw : Int) j kb a b d g, oH h hl hs (n : Int), aI cI hl 1200 (shA nn), aI cI hs 100 (sgA sg), oF a an au al, oW au aua ((us ax : Nat) : Int), aI cI aua 12 (wa ax), oW al ala ((us az : Nat) : Int), aI cI ala 12 (wa az)] (fun rv wv => rv = .int (zI ((dg 10 (nn (2 * u)) i : Nat) : Int)) ∧ wv = [oK k h ka kz (ns : Int) kw (nw : Int) j kb a b d g, oH h hl hs (n : Int), aI cI hl 1200 (shA nn), aI cI hs 100 (sgA sg), oF a (sg u) au al, oW au aua ((us (nn (2 * u)) : Nat) : Int), aI cI aua 12 (wa (nn (2 * u))), oW al ala ((us (nn (2 * u + 1)) : Nat) : Int), aI cI ala 12 (wa (nn (2 * u + 1)))]) 0 0 := by
  refine Cm.ofZ (cc := c_K_digit) (maxL := 5) (ret := (some .int)) (by decide) rfl (Nat.le_of_ble_eq_true rfl) rfl ?_
  intro p e s m below meth c A S hr hlo hnm hK hg hA hAe
  have hGok := zG_ok cI cL qT
  show ZZ _ _ _ _ _ _ _ _ _ _ _ _ _ _ _ _ _ _ 0 [(0, .ref k), (1, .int (zI (u : Int))), (2, .int (zI 0)), (3, .int (zI (i : Int)))] [] [oK k h ka kz (ns : Int) kw (nw : Int) j kb a b d g, oH h hl hs (n : Int), aI cI hl 1200 (shA nn), aI cI hs 100 (sgA sg), oF a an au al, oW au aua ((us ax : Nat) : Int), aI cI aua 12 (wa ax), oW al ala ((us az : Nat) : Int), aI cI ala 12 (wa az)]
  obtain ⟨ok1, ok2⟩ := okV_12 (hV u hu)
  have hnr := nd_r ok1
  refine z_aload_n S d_K_digit_0 0 rfl ?_
  refine z_iload_n S d_K_digit_1 1 rfl ?_
  refine z_callVv (As := [.int (zI (u : Int))]) (st := []) (wc := [oK k h ka kz (ns : Int) kw (nw : Int) j kb a b d g, oH h hl hs (n : Int)]) (wr := [aI cI hl 1200 (shA nn), aI cI hs 100 (sgA sg), oF a an au al, oW au aua ((us ax : Nat) : Int), aI cI aua 12 (wa ax), oW al ala ((us az : Nat) : Int), aI cI ala 12 (wa az)]) S hGok hK hg hA (s_K_needValue l dC dI cI cL qT k ka kz ns kw nw j kb a b d g h hl hs n (u : Int) (by omega) (by omega)) (zcwV S (List.mem_cons_of_mem _ k_K_107) mV_K_needValue k_K_107 hd_K_needValue rfl rfl ⟨Nat.le_of_ble_eq_true rfl, Nat.le_of_ble_eq_true rfl⟩) rfl (Nat.le_of_ble_eq_true rfl) d_K_digit_2 ⟨Nat.le_of_ble_eq_true rfl, Nat.le_of_ble_eq_true rfl⟩ rfl [0, 1] [2, 3, 4, 5, 6, 7, 8] 0 rfl rfl rfl (by decide) rfl rfl rfl (by decide) (by decide) (fun w hp => ?_)
  subst hp
  show ZZ _ _ _ _ _ _ _ _ _ _ _ _ _ _ _ _ _ _ 5 [(0, .ref k), (1, .int (zI (u : Int))), (2, .int (zI 0)), (3, .int (zI (i : Int)))] [] [aI cI hl 1200 (shA nn), aI cI hs 100 (sgA sg), oF a an au al, oW au aua ((us ax : Nat) : Int), aI cI aua 12 (wa ax), oW al ala ((us az : Nat) : Int), aI cI ala 12 (wa az), oK k h ka kz (ns : Int) kw (nw : Int) j kb a b d g, oH h hl hs (n : Int)]
  refine z_iload_n S d_K_digit_5 2 rfl ?_
  refine z_if_eq (tgt := 24) S d_K_digit_6 (by decide) (by omega) (fun c1 => ?_) (fun c1 => ?_)
  · skip
    refine z_aload_n S d_K_digit_24 0 rfl ?_
    refine z_get S hK la_K 7 rfl rfl 0 (by decide) k_K_10 rfl d_K_digit_25 ?_
    refine z_iload_n S d_K_digit_28 1 rfl ?_
    refine z_aload_n S d_K_digit_29 0 rfl ?_
    refine z_get S hK la_K 7 rfl rfl 8 (by decide) k_K_48 rfl d_K_digit_30 ?_
    refine z_callVv (As := [.int (zI (u : Int)), .ref a]) (st := []) (wc := [oH h hl hs (n : Int), aI cI hl 1200 (shA nn), aI cI hs 100 (sgA sg), oF a an au al, oW au aua ((us ax : Nat) : Int), aI cI aua 12 (wa ax), oW al ala ((us az : Nat) : Int), aI cI ala 12 (wa az)]) (wr := [oK k h ka kz (ns : Int) kw (nw : Int) j kb a b d g]) S hGok hK hg hA (s_H_fetch l dC dI cI cL qT h hl hs nn sg n u a an au aua ax al ala az (by omega) (okV_6 (hV u hu)).1 (okV_6 (hV u hu)).2 (by omega) (by omega)) (zcwV S (List.mem_cons_of_mem _ k_K_122) mV_H_fetch k_K_122 hd_H_fetch rfl rfl ⟨Nat.le_of_ble_eq_true rfl, Nat.le_of_ble_eq_true rfl⟩) rfl (Nat.le_of_ble_eq_true rfl) d_K_digit_33 ⟨Nat.le_of_ble_eq_true rfl, Nat.le_of_ble_eq_true rfl⟩ rfl [8, 0, 1, 2, 3, 4, 5, 6] [7] 8 rfl rfl rfl (by decide) rfl rfl rfl (by decide) (by decide) (fun w hp => ?_)
    subst hp
    show ZZ _ _ _ _ _ _ _ _ _ _ _ _ _ _ _ _ _ _ 36 [(0, .ref k), (1, .int (zI (u : Int))), (2, .int (zI 0)), (3, .int (zI (i : Int)))] [] [oK k h ka kz (ns : Int) kw (nw : Int) j kb a b d g, oH h hl hs (n : Int), aI cI hl 1200 (shA nn), aI cI hs 100 (sgA sg), oF a (sg u) au al, oW au aua ((us (nn (2 * u)) : Nat) : Int), aI cI aua 12 (wa (nn (2 * u))), oW al ala ((us (nn (2 * u + 1)) : Nat) : Int), aI cI ala 12 (wa (nn (2 * u + 1)))]
    refine z_iload_n S d_K_digit_36 2 rfl ?_
    refine z_if_ne (tgt := 50) S d_K_digit_37 (by decide) (by omega) (fun c2 => ?_) (fun c2 => ?_)
    · skip
      exact absurd c2 (by omega)
    · skip
      refine z_aload_n S d_K_digit_40 0 rfl ?_
      refine z_get S hK la_K 0 rfl rfl 8 (by decide) k_K_48 rfl d_K_digit_41 ?_
      refine z_getN S hK la_F 4 rfl rfl 1 (by decide) (hg.1 _ kn_K_181) rfl d_K_digit_44 ?_
      refine z_goto (tgt := 57) S d_K_digit_47 (by decide) ?_
      refine z_astore (lv' := [(4, .ref au), (0, .ref k), (1, .int (zI (u : Int))), (2, .int (zI 0)), (3, .int (zI (i : Int)))]) S d_K_digit_57 (by decide) rfl ?_
      refine z_iload_n S d_K_digit_59 4 rfl ?_
      refine z_if_lt (tgt := 72) S d_K_digit_60 (by decide) (by omega) (fun c3 => ?_) (fun c3 => ?_)
      · skip
        exact absurd c3 (by omega)
      · skip
        refine z_iload_n S d_K_digit_63 4 rfl ?_
        refine z_aload S d_K_digit_64 0 rfl ?_
        refine z_callVa (As := []) (st := [.int (zI (i : Int))]) (wc := [oW au aua ((us (nn (2 * u)) : Nat) : Int), aI cI aua 12 (wa (nn (2 * u)))]) (wr := [oK k h ka kz (ns : Int) kw (nw : Int) j kb a b d g, oH h hl hs (n : Int), aI cI hl 1200 (shA nn), aI cI hs 100 (sgA sg), oF a (sg u) au al, oW al ala ((us (nn (2 * u + 1)) : Nat) : Int), aI cI ala 12 (wa (nn (2 * u + 1)))]) S hGok hK hg hA (s_W_countDigits l dC dI cI cL qT au aua (nn (2 * u)) ok1) (zcwV S (List.mem_cons_of_mem _ k_K_188) mV_W_countDigits k_K_188 hd_W_countDigits rfl rfl ⟨Nat.le_of_ble_eq_true rfl, Nat.le_of_ble_eq_true rfl⟩) rfl (Nat.le_of_ble_eq_true rfl) d_K_digit_66 ⟨Nat.le_of_ble_eq_true rfl, Nat.le_of_ble_eq_true rfl⟩ rfl [5, 6] [0, 1, 2, 3, 4, 7, 8] 5 rfl rfl rfl (by decide) rfl rfl rfl (by decide) (by decide) (fun x w hp => ?_)
        obtain ⟨rfl, rfl⟩ := hp
        show ZZ _ _ _ _ _ _ _ _ _ _ _ _ _ _ _ _ _ _ 69 [(4, .ref au), (0, .ref k), (1, .int (zI (u : Int))), (2, .int (zI 0)), (3, .int (zI (i : Int)))] [.int (zI ((nd (nn (2 * u)) : Nat) : Int)), .int (zI (i : Int))] [oK k h ka kz (ns : Int) kw (nw : Int) j kb a b d g, oH h hl hs (n : Int), aI cI hl 1200 (shA nn), aI cI hs 100 (sgA sg), oF a (sg u) au al, oW al ala ((us (nn (2 * u + 1)) : Nat) : Int), aI cI ala 12 (wa (nn (2 * u + 1))), oW au aua ((us (nn (2 * u)) : Nat) : Int), aI cI aua 12 (wa (nn (2 * u)))]
        refine z_icmp_lt (tgt := 82) S d_K_digit_69 (by decide) (by omega) (by omega) (fun c4 => ?_) (fun c4 => ?_)
        · skip
          refine z_aload S d_K_digit_82 0 rfl ?_
          refine z_iload_n S d_K_digit_84 4 rfl ?_
          refine z_callVa (As := [.int (zI (i : Int))]) (st := []) (wc := [oW au aua ((us (nn (2 * u)) : Nat) : Int), aI cI aua 12 (wa (nn (2 * u)))]) (wr := [oK k h ka kz (ns : Int) kw (nw : Int) j kb a b d g, oH h hl hs (n : Int), aI cI hl 1200 (shA nn), aI cI hs 100 (sgA sg), oF a (sg u) au al, oW al ala ((us (nn (2 * u + 1)) : Nat) : Int), aI cI ala 12 (wa (nn (2 * u + 1)))]) S hGok hK hg hA (s_W_digitAt l dC dI cI cL qT au aua (nn (2 * u)) i ok1 (by omega)) (zcwV S (List.mem_cons_of_mem _ k_K_195) mV_W_digitAt k_K_195 hd_W_digitAt rfl rfl ⟨Nat.le_of_ble_eq_true rfl, Nat.le_of_ble_eq_true rfl⟩) rfl (Nat.le_of_ble_eq_true rfl) d_K_digit_85 ⟨Nat.le_of_ble_eq_true rfl, Nat.le_of_ble_eq_true rfl⟩ rfl [7, 8] [0, 1, 2, 3, 4, 5, 6] 7 rfl rfl rfl (by decide) rfl rfl rfl (by decide) (by decide) (fun x w hp => ?_)
          obtain ⟨rfl, rfl⟩ := hp
          show ZZ _ _ _ _ _ _ _ _ _ _ _ _ _ _ _ _ _ _ 88 [(4, .ref au), (0, .ref k), (1, .int (zI (u : Int))), (2, .int (zI 0)), (3, .int (zI (i : Int)))] [.int (zI ((dg 10 (nn (2 * u)) i : Nat) : Int))] [oK k h ka kz (ns : Int) kw (nw : Int) j kb a b d g, oH h hl hs (n : Int), aI cI hl 1200 (shA nn), aI cI hs 100 (sgA sg), oF a (sg u) au al, oW al ala ((us (nn (2 * u + 1)) : Nat) : Int), aI cI ala 12 (wa (nn (2 * u + 1))), oW au aua ((us (nn (2 * u)) : Nat) : Int), aI cI aua 12 (wa (nn (2 * u)))]
          exact z_iret (w := [oK k h ka kz (ns : Int) kw (nw : Int) j kb a b d g, oH h hl hs (n : Int), aI cI hl 1200 (shA nn), aI cI hs 100 (sgA sg), oF a (sg u) au al, oW au aua ((us (nn (2 * u)) : Nat) : Int), aI cI aua 12 (wa (nn (2 * u))), oW al ala ((us (nn (2 * u + 1)) : Nat) : Int), aI cI ala 12 (wa (nn (2 * u + 1)))]) S hr hlo hAe d_K_digit_88 [0, 1, 2, 3, 4, 7, 8, 5, 6] (by decide) rfl rfl ⟨Nat.le_refl _, Nat.le_refl _⟩ (⟨rfl, rfl⟩)
        · skip
          omega
  · skip
    exact absurd c1 (by omega)
set_option maxHeartbeats 4000000 in
set_option maxRecDepth 100000 in
theorem t3_K_digit0 (l : Launch) (dC : Nat → ClassId) (dI : Nat → Nat → Nat) (cI cL : ClassId) (qT : Nat) (hst : l.stackTraces = false) (k : Nat) (ka : Nat) (kz : Nat) (ns : Nat) (kw : Nat) (nw : Nat) (j : Nat) (kb : Nat) (a : Nat) (b : Nat) (d : Nat) (g : Nat) (h : Nat) (hl : Nat) (hs : Nat) (nn : Nat → Nat) (sg : Nat → Int) (n : Nat) (an : Int) (au : Nat) (aua : Nat) (ax : Nat) (al : Nat) (ala : Nat) (az : Nat) (u : Nat) (i : Int) (hn : n ≤ 100) (hV : okVs sg nn n) (hu : u < n) (hir : -2147483648 ≤ i ∧ i < 2147483648) (hi : ¬ (0 ≤ i ∧ i < ((nd (nn (2 * u)) : Nat) : Int))) (hax : ax < 1000000000 ^ 12) (haz : az < 1000000000 ^ 12) : Tm l y_K_digit (Cond.code y_K_digit c_K_digit 5 (some .int) :: zB) { frames := 7, cells := 1, slots := 6, locals := 131 } (dC, dI) zcl [(cI, .int), (cL, .long)] (zG cI cL qT) [.ref k, .int (zI (u : Int)), .int (zI 0), .int (zI i)] [oK k h ka kz (ns : Int) kw (nw : Int) j kb a b d g, oH h hl hs (n : Int), aI cI hl 1200 (shA nn), aI cI hs 100 (sgA sg), oF a an au al, oW au aua ((us ax : Nat) : Int), aI cI aua 12 (wa ax), oW al ala ((us az : Nat) : Int), aI cI ala 12 (wa az)] "java/lang/IndexOutOfBoundsException" (fun wv => wv = [oK k h ka kz (ns : Int) kw (nw : Int) j kb a b d g, oH h hl hs (n : Int), aI cI hl 1200 (shA nn), aI cI hs 100 (sgA sg), oF a (sg u) au al, oW au aua ((us (nn (2 * u)) : Nat) : Int), aI cI aua 12 (wa (nn (2 * u))), oW al ala ((us (nn (2 * u + 1)) : Nat) : Int), aI cI ala 12 (wa (nn (2 * u + 1)))]) 1 6 := by
  refine Tm.ofZ (cc := c_K_digit) (maxL := 5) (ret := (some .int)) (by decide) rfl (Nat.le_of_ble_eq_true rfl) rfl ?_
  intro p e s m below meth c A S hr hlo hnm hK hg hA hAe htab
  have hGok := zG_ok cI cL qT
  show ZZ _ _ _ _ _ _ _ _ _ _ _ _ _ _ _ _ _ _ 0 [(0, .ref k), (1, .int (zI (u : Int))), (2, .int (zI 0)), (3, .int (zI i))] [] [oK k h ka kz (ns : Int) kw (nw : Int) j kb a b d g, oH h hl hs (n : Int), aI cI hl 1200 (shA nn), aI cI hs 100 (sgA sg), oF a an au al, oW au aua ((us ax : Nat) : Int), aI cI aua 12 (wa ax), oW al ala ((us az : Nat) : Int), aI cI ala 12 (wa az)]
  obtain ⟨ok1, ok2⟩ := okV_12 (hV u hu)
  have hnr := nd_r ok1
  refine z_aload_n S d_K_digit_0 0 rfl ?_
  refine z_iload_n S d_K_digit_1 1 rfl ?_
  refine z_callVv (As := [.int (zI (u : Int))]) (st := []) (wc := [oK k h ka kz (ns : Int) kw (nw : Int) j kb a b d g, oH h hl hs (n : Int)]) (wr := [aI cI hl 1200 (shA nn), aI cI hs 100 (sgA sg), oF a an au al, oW au aua ((us ax : Nat) : Int), aI cI aua 12 (wa ax), oW al ala ((us az : Nat) : Int), aI cI ala 12 (wa az)]) S hGok hK hg hA (s_K_needValue l dC dI cI cL qT k ka kz ns kw nw j kb a b d g h hl hs n (u : Int) (by omega) (by omega)) (zcwV S (List.mem_cons_of_mem _ k_K_107) mV_K_needValue k_K_107 hd_K_needValue rfl rfl ⟨Nat.le_of_ble_eq_true rfl, Nat.le_of_ble_eq_true rfl⟩) rfl (Nat.le_of_ble_eq_true rfl) d_K_digit_2 ⟨Nat.le_of_ble_eq_true rfl, Nat.le_of_ble_eq_true rfl⟩ rfl [0, 1] [2, 3, 4, 5, 6, 7, 8] 0 rfl rfl rfl (by decide) rfl rfl rfl (by decide) (by decide) (fun w hp => ?_)
  subst hp
  show ZZ _ _ _ _ _ _ _ _ _ _ _ _ _ _ _ _ _ _ 5 [(0, .ref k), (1, .int (zI (u : Int))), (2, .int (zI 0)), (3, .int (zI i))] [] [aI cI hl 1200 (shA nn), aI cI hs 100 (sgA sg), oF a an au al, oW au aua ((us ax : Nat) : Int), aI cI aua 12 (wa ax), oW al ala ((us az : Nat) : Int), aI cI ala 12 (wa az), oK k h ka kz (ns : Int) kw (nw : Int) j kb a b d g, oH h hl hs (n : Int)]
  refine z_iload_n S d_K_digit_5 2 rfl ?_
  refine z_if_eq (tgt := 24) S d_K_digit_6 (by decide) (by omega) (fun c1 => ?_) (fun c1 => ?_)
  · skip
    refine z_aload_n S d_K_digit_24 0 rfl ?_
    refine z_get S hK la_K 7 rfl rfl 0 (by decide) k_K_10 rfl d_K_digit_25 ?_
    refine z_iload_n S d_K_digit_28 1 rfl ?_
    refine z_aload_n S d_K_digit_29 0 rfl ?_
    refine z_get S hK la_K 7 rfl rfl 8 (by decide) k_K_48 rfl d_K_digit_30 ?_
    refine z_callVv (As := [.int (zI (u : Int)), .ref a]) (st := []) (wc := [oH h hl hs (n : Int), aI cI hl 1200 (shA nn), aI cI hs 100 (sgA sg), oF a an au al, oW au aua ((us ax : Nat) : Int), aI cI aua 12 (wa ax), oW al ala ((us az : Nat) : Int), aI cI ala 12 (wa az)]) (wr := [oK k h ka kz (ns : Int) kw (nw : Int) j kb a b d g]) S hGok hK hg hA (s_H_fetch l dC dI cI cL qT h hl hs nn sg n u a an au aua ax al ala az (by omega) (okV_6 (hV u hu)).1 (okV_6 (hV u hu)).2 (by omega) (by omega)) (zcwV S (List.mem_cons_of_mem _ k_K_122) mV_H_fetch k_K_122 hd_H_fetch rfl rfl ⟨Nat.le_of_ble_eq_true rfl, Nat.le_of_ble_eq_true rfl⟩) rfl (Nat.le_of_ble_eq_true rfl) d_K_digit_33 ⟨Nat.le_of_ble_eq_true rfl, Nat.le_of_ble_eq_true rfl⟩ rfl [8, 0, 1, 2, 3, 4, 5, 6] [7] 8 rfl rfl rfl (by decide) rfl rfl rfl (by decide) (by decide) (fun w hp => ?_)
    subst hp
    show ZZ _ _ _ _ _ _ _ _ _ _ _ _ _ _ _ _ _ _ 36 [(0, .ref k), (1, .int (zI (u : Int))), (2, .int (zI 0)), (3, .int (zI i))] [] [oK k h ka kz (ns : Int) kw (nw : Int) j kb a b d g, oH h hl hs (n : Int), aI cI hl 1200 (shA nn), aI cI hs 100 (sgA sg), oF a (sg u) au al, oW au aua ((us (nn (2 * u)) : Nat) : Int), aI cI aua 12 (wa (nn (2 * u))), oW al ala ((us (nn (2 * u + 1)) : Nat) : Int), aI cI ala 12 (wa (nn (2 * u + 1)))]
    refine z_iload_n S d_K_digit_36 2 rfl ?_
    refine z_if_ne (tgt := 50) S d_K_digit_37 (by decide) (by omega) (fun c2 => ?_) (fun c2 => ?_)
    · skip
      exact absurd c2 (by omega)
    · skip
      refine z_aload_n S d_K_digit_40 0 rfl ?_
      refine z_get S hK la_K 0 rfl rfl 8 (by decide) k_K_48 rfl d_K_digit_41 ?_
      refine z_getN S hK la_F 4 rfl rfl 1 (by decide) (hg.1 _ kn_K_181) rfl d_K_digit_44 ?_
      refine z_goto (tgt := 57) S d_K_digit_47 (by decide) ?_
      refine z_astore (lv' := [(4, .ref au), (0, .ref k), (1, .int (zI (u : Int))), (2, .int (zI 0)), (3, .int (zI i))]) S d_K_digit_57 (by decide) rfl ?_
      refine z_iload_n S d_K_digit_59 4 rfl ?_
      refine z_if_lt (tgt := 72) S d_K_digit_60 (by decide) (by omega) (fun c3 => ?_) (fun c3 => ?_)
      · skip
        exact z_throwS (w := [oK k h ka kz (ns : Int) kw (nw : Int) j kb a b d g, oH h hl hs (n : Int), aI cI hl 1200 (shA nn), aI cI hs 100 (sgA sg), oF a (sg u) au al, oW au aua ((us (nn (2 * u)) : Nat) : Int), aI cI aua 12 (wa (nn (2 * u))), oW al ala ((us (nn (2 * u + 1)) : Nat) : Int), aI cI ala 12 (wa (nn (2 * u + 1)))]) S hst hg hlo hAe htab tw_114 k_K_110 (List.mem_of_getElem? (i := 16) rfl) d_K_digit_72 d_K_digit_75 d_K_digit_76 d_K_digit_78 d_K_digit_81 (Nat.le_of_ble_eq_true rfl) (Nat.le_of_ble_eq_true rfl) ⟨Nat.le_of_ble_eq_true rfl, Nat.le_of_ble_eq_true rfl⟩ ⟨Nat.le_refl _, Nat.le_refl _⟩ [0, 1, 2, 3, 4, 5, 6, 7, 8] (by decide) rfl (rfl)
      · skip
        refine z_iload_n S d_K_digit_63 4 rfl ?_
        refine z_aload S d_K_digit_64 0 rfl ?_
        refine z_callVa (As := []) (st := [.int (zI i)]) (wc := [oW au aua ((us (nn (2 * u)) : Nat) : Int), aI cI aua 12 (wa (nn (2 * u)))]) (wr := [oK k h ka kz (ns : Int) kw (nw : Int) j kb a b d g, oH h hl hs (n : Int), aI cI hl 1200 (shA nn), aI cI hs 100 (sgA sg), oF a (sg u) au al, oW al ala ((us (nn (2 * u + 1)) : Nat) : Int), aI cI ala 12 (wa (nn (2 * u + 1)))]) S hGok hK hg hA (s_W_countDigits l dC dI cI cL qT au aua (nn (2 * u)) ok1) (zcwV S (List.mem_cons_of_mem _ k_K_188) mV_W_countDigits k_K_188 hd_W_countDigits rfl rfl ⟨Nat.le_of_ble_eq_true rfl, Nat.le_of_ble_eq_true rfl⟩) rfl (Nat.le_of_ble_eq_true rfl) d_K_digit_66 ⟨Nat.le_of_ble_eq_true rfl, Nat.le_of_ble_eq_true rfl⟩ rfl [5, 6] [0, 1, 2, 3, 4, 7, 8] 5 rfl rfl rfl (by decide) rfl rfl rfl (by decide) (by decide) (fun x w hp => ?_)
        obtain ⟨rfl, rfl⟩ := hp
        show ZZ _ _ _ _ _ _ _ _ _ _ _ _ _ _ _ _ _ _ 69 [(4, .ref au), (0, .ref k), (1, .int (zI (u : Int))), (2, .int (zI 0)), (3, .int (zI i))] [.int (zI ((nd (nn (2 * u)) : Nat) : Int)), .int (zI i)] [oK k h ka kz (ns : Int) kw (nw : Int) j kb a b d g, oH h hl hs (n : Int), aI cI hl 1200 (shA nn), aI cI hs 100 (sgA sg), oF a (sg u) au al, oW al ala ((us (nn (2 * u + 1)) : Nat) : Int), aI cI ala 12 (wa (nn (2 * u + 1))), oW au aua ((us (nn (2 * u)) : Nat) : Int), aI cI aua 12 (wa (nn (2 * u)))]
        refine z_icmp_lt (tgt := 82) S d_K_digit_69 (by decide) (by omega) (by omega) (fun c4 => ?_) (fun c4 => ?_)
        · skip
          omega
        · skip
          exact z_throwS (w := [oK k h ka kz (ns : Int) kw (nw : Int) j kb a b d g, oH h hl hs (n : Int), aI cI hl 1200 (shA nn), aI cI hs 100 (sgA sg), oF a (sg u) au al, oW au aua ((us (nn (2 * u)) : Nat) : Int), aI cI aua 12 (wa (nn (2 * u))), oW al ala ((us (nn (2 * u + 1)) : Nat) : Int), aI cI ala 12 (wa (nn (2 * u + 1)))]) S hst hg hlo hAe htab tw_114 k_K_110 (List.mem_of_getElem? (i := 16) rfl) d_K_digit_72 d_K_digit_75 d_K_digit_76 d_K_digit_78 d_K_digit_81 (Nat.le_of_ble_eq_true rfl) (Nat.le_of_ble_eq_true rfl) ⟨Nat.le_of_ble_eq_true rfl, Nat.le_of_ble_eq_true rfl⟩ ⟨Nat.le_refl _, Nat.le_refl _⟩ [0, 1, 2, 3, 4, 7, 8, 5, 6] (by decide) rfl (rfl)
  · skip
    exact absurd c1 (by omega)
set_option maxHeartbeats 4000000 in
set_option maxRecDepth 100000 in
theorem s_K_digit1 (l : Launch) (dC : Nat → ClassId) (dI : Nat → Nat → Nat) (cI cL : ClassId) (qT : Nat) (k : Nat) (ka : Nat) (kz : Nat) (ns : Nat) (kw : Nat) (nw : Nat) (j : Nat) (kb : Nat) (a : Nat) (b : Nat) (d : Nat) (g : Nat) (h : Nat) (hl : Nat) (hs : Nat) (nn : Nat → Nat) (sg : Nat → Int) (n : Nat) (an : Int) (au : Nat) (aua : Nat) (ax : Nat) (al : Nat) (ala : Nat) (az : Nat) (u : Nat) (i : Nat) (hn : n ≤ 100) (hV : okVs sg nn n) (hu : u < n) (hi : i < nd (nn (2 * u + 1))) (hax : ax < 1000000000 ^ 12) (haz : az < 1000000000 ^ 12) : Ct l y_K_digit (Cond.code y_K_digit c_K_digit 5 (some .int) :: zB) { frames := 7, cells := 0, slots := 0, locals := 131 } (dC, dI) zcl [(cI, .int), (cL, .long)] (zG cI cL qT) [.ref k, .int (zI (u : Int)), .int (zI 1), .int (zI (i : Int))] [oK k h ka kz (ns : Int) kw (nw : Int) j kb a b d g, oH h hl hs (n : Int), aI cI hl 1200 (shA nn), aI cI hs 100 (sgA sg), oF a an au al, oW au aua ((us ax : Nat) : Int), aI cI aua 12 (wa ax), oW al ala ((us az : Nat) : Int), aI cI ala 12 (wa az)] (fun rv wv => rv = .int (zI ((dg 10 (nn (2 * u + 1)) i : Nat) : Int)) ∧ wv = [oK k h ka kz (ns : Int) kw (nw : Int) j kb a b d g, oH h hl hs (n : Int), aI cI hl 1200 (shA nn), aI cI hs 100 (sgA sg), oF a (sg u) au al, oW au aua ((us (nn (2 * u)) : Nat) : Int), aI cI aua 12 (wa (nn (2 * u))), oW al ala ((us (nn (2 * u + 1)) : Nat) : Int), aI cI ala 12 (wa (nn (2 * u + 1)))]) 0 0 := by
  refine Cm.ofZ (cc := c_K_digit) (maxL := 5) (ret := (some .int)) (by decide) rfl (Nat.le_of_ble_eq_true rfl) rfl ?_
  intro p e s m below meth c A S hr hlo hnm hK hg hA hAe
  have hGok := zG_ok cI cL qT
  show ZZ _ _ _ _ _ _ _ _ _ _ _ _ _ _ _ _ _ _ 0 [(0, .ref k), (1, .int (zI (u : Int))), (2, .int (zI 1)), (3, .int (zI (i : Int)))] [] [oK k h ka kz (ns : Int) kw (nw : Int) j kb a b d g, oH h hl hs (n : Int), aI cI hl 1200 (shA nn), aI cI hs 100 (sgA sg), oF a an au al, oW au aua ((us ax : Nat) : Int), aI cI aua 12 (wa ax), oW al ala ((us az : Nat) : Int), aI cI ala 12 (wa az)]
  obtain ⟨ok1, ok2⟩ := okV_12 (hV u hu)
  have hnr := nd_r ok2
  refine z_aload_n S d_K_digit_0 0 rfl ?_
  refine z_iload_n S d_K_digit_1 1 rfl ?_
  refine z_callVv (As := [.int (zI (u : Int))]) (st := []) (wc := [oK k h ka kz (ns : Int) kw (nw : Int) j kb a b d g, oH h hl hs (n : Int)]) (wr := [aI cI hl 1200 (shA nn), aI cI hs 100 (sgA sg), oF a an au al, oW au aua ((us ax : Nat) : Int), aI cI aua 12 (wa ax), oW al ala ((us az : Nat) : Int), aI cI ala 12 (wa az)]) S hGok hK hg hA (s_K_needValue l dC dI cI cL qT k ka kz ns kw nw j kb a b d g h hl hs n (u : Int) (by omega) (by omega)) (zcwV S (List.mem_cons_of_mem _ k_K_107) mV_K_needValue k_K_107 hd_K_needValue rfl rfl ⟨Nat.le_of_ble_eq_true rfl, Nat.le_of_ble_eq_true rfl⟩) rfl (Nat.le_of_ble_eq_true rfl) d_K_digit_2 ⟨Nat.le_of_ble_eq_true rfl, Nat.le_of_ble_eq_true rfl⟩ rfl [0, 1] [2, 3, 4, 5, 6, 7, 8] 0 rfl rfl rfl (by decide) rfl rfl rfl (by decide) (by decide) (fun w hp => ?_)
  subst hp
  show ZZ _ _ _ _ _ _ _ _ _ _ _ _ _ _ _ _ _ _ 5 [(0, .ref k), (1, .int (zI (u : Int))), (2, .int (zI 1)), (3, .int (zI (i : Int)))] [] [aI cI hl 1200 (shA nn), aI cI hs 100 (sgA sg), oF a an au al, oW au aua ((us ax : Nat) : Int), aI cI aua 12 (wa ax), oW al ala ((us az : Nat) : Int), aI cI ala 12 (wa az), oK k h ka kz (ns : Int) kw (nw : Int) j kb a b d g, oH h hl hs (n : Int)]
  refine z_iload_n S d_K_digit_5 2 rfl ?_
  refine z_if_eq (tgt := 24) S d_K_digit_6 (by decide) (by omega) (fun c1 => ?_) (fun c1 => ?_)
  · skip
    exact absurd c1 (by omega)
  · skip
    refine z_iload_n S d_K_digit_9 2 rfl ?_
    refine z_iconst S d_K_digit_10 ?_
    refine z_icmp_eq (tgt := 24) S d_K_digit_11 (by decide) (by omega) (by omega) (fun c2 => ?_) (fun c2 => ?_)
    · skip
      refine z_aload_n S d_K_digit_24 0 rfl ?_
      refine z_get S hK la_K 7 rfl rfl 0 (by decide) k_K_10 rfl d_K_digit_25 ?_
      refine z_iload_n S d_K_digit_28 1 rfl ?_
      refine z_aload_n S d_K_digit_29 0 rfl ?_
      refine z_get S hK la_K 7 rfl rfl 8 (by decide) k_K_48 rfl d_K_digit_30 ?_
      refine z_callVv (As := [.int (zI (u : Int)), .ref a]) (st := []) (wc := [oH h hl hs (n : Int), aI cI hl 1200 (shA nn), aI cI hs 100 (sgA sg), oF a an au al, oW au aua ((us ax : Nat) : Int), aI cI aua 12 (wa ax), oW al ala ((us az : Nat) : Int), aI cI ala 12 (wa az)]) (wr := [oK k h ka kz (ns : Int) kw (nw : Int) j kb a b d g]) S hGok hK hg hA (s_H_fetch l dC dI cI cL qT h hl hs nn sg n u a an au aua ax al ala az (by omega) (okV_6 (hV u hu)).1 (okV_6 (hV u hu)).2 (by omega) (by omega)) (zcwV S (List.mem_cons_of_mem _ k_K_122) mV_H_fetch k_K_122 hd_H_fetch rfl rfl ⟨Nat.le_of_ble_eq_true rfl, Nat.le_of_ble_eq_true rfl⟩) rfl (Nat.le_of_ble_eq_true rfl) d_K_digit_33 ⟨Nat.le_of_ble_eq_true rfl, Nat.le_of_ble_eq_true rfl⟩ rfl [8, 0, 1, 2, 3, 4, 5, 6] [7] 8 rfl rfl rfl (by decide) rfl rfl rfl (by decide) (by decide) (fun w hp => ?_)
      subst hp
      show ZZ _ _ _ _ _ _ _ _ _ _ _ _ _ _ _ _ _ _ 36 [(0, .ref k), (1, .int (zI (u : Int))), (2, .int (zI 1)), (3, .int (zI (i : Int)))] [] [oK k h ka kz (ns : Int) kw (nw : Int) j kb a b d g, oH h hl hs (n : Int), aI cI hl 1200 (shA nn), aI cI hs 100 (sgA sg), oF a (sg u) au al, oW au aua ((us (nn (2 * u)) : Nat) : Int), aI cI aua 12 (wa (nn (2 * u))), oW al ala ((us (nn (2 * u + 1)) : Nat) : Int), aI cI ala 12 (wa (nn (2 * u + 1)))]
      refine z_iload_n S d_K_digit_36 2 rfl ?_
      refine z_if_ne (tgt := 50) S d_K_digit_37 (by decide) (by omega) (fun c3 => ?_) (fun c3 => ?_)
      · skip
        refine z_aload_n S d_K_digit_50 0 rfl ?_
        refine z_get S hK la_K 0 rfl rfl 8 (by decide) k_K_48 rfl d_K_digit_51 ?_
        refine z_getN S hK la_F 4 rfl rfl 2 (by decide) (hg.1 _ kn_K_185) rfl d_K_digit_54 ?_
        refine z_astore (lv' := [(4, .ref al), (0, .ref k), (1, .int (zI (u : Int))), (2, .int (zI 1)), (3, .int (zI (i : Int)))]) S d_K_digit_57 (by decide) rfl ?_
        refine z_iload_n S d_K_digit_59 4 rfl ?_
        refine z_if_lt (tgt := 72) S d_K_digit_60 (by decide) (by omega) (fun c4 => ?_) (fun c4 => ?_)
        · skip
          exact absurd c4 (by omega)
        · skip
          refine z_iload_n S d_K_digit_63 4 rfl ?_
          refine z_aload S d_K_digit_64 0 rfl ?_
          refine z_callVa (As := []) (st := [.int (zI (i : Int))]) (wc := [oW al ala ((us (nn (2 * u + 1)) : Nat) : Int), aI cI ala 12 (wa (nn (2 * u + 1)))]) (wr := [oK k h ka kz (ns : Int) kw (nw : Int) j kb a b d g, oH h hl hs (n : Int), aI cI hl 1200 (shA nn), aI cI hs 100 (sgA sg), oF a (sg u) au al, oW au aua ((us (nn (2 * u)) : Nat) : Int), aI cI aua 12 (wa (nn (2 * u)))]) S hGok hK hg hA (s_W_countDigits l dC dI cI cL qT al ala (nn (2 * u + 1)) ok2) (zcwV S (List.mem_cons_of_mem _ k_K_188) mV_W_countDigits k_K_188 hd_W_countDigits rfl rfl ⟨Nat.le_of_ble_eq_true rfl, Nat.le_of_ble_eq_true rfl⟩) rfl (Nat.le_of_ble_eq_true rfl) d_K_digit_66 ⟨Nat.le_of_ble_eq_true rfl, Nat.le_of_ble_eq_true rfl⟩ rfl [7, 8] [0, 1, 2, 3, 4, 5, 6] 7 rfl rfl rfl (by decide) rfl rfl rfl (by decide) (by decide) (fun x w hp => ?_)
          obtain ⟨rfl, rfl⟩ := hp
          show ZZ _ _ _ _ _ _ _ _ _ _ _ _ _ _ _ _ _ _ 69 [(4, .ref al), (0, .ref k), (1, .int (zI (u : Int))), (2, .int (zI 1)), (3, .int (zI (i : Int)))] [.int (zI ((nd (nn (2 * u + 1)) : Nat) : Int)), .int (zI (i : Int))] [oK k h ka kz (ns : Int) kw (nw : Int) j kb a b d g, oH h hl hs (n : Int), aI cI hl 1200 (shA nn), aI cI hs 100 (sgA sg), oF a (sg u) au al, oW au aua ((us (nn (2 * u)) : Nat) : Int), aI cI aua 12 (wa (nn (2 * u))), oW al ala ((us (nn (2 * u + 1)) : Nat) : Int), aI cI ala 12 (wa (nn (2 * u + 1)))]
          refine z_icmp_lt (tgt := 82) S d_K_digit_69 (by decide) (by omega) (by omega) (fun c5 => ?_) (fun c5 => ?_)
          · skip
            refine z_aload S d_K_digit_82 0 rfl ?_
            refine z_iload_n S d_K_digit_84 4 rfl ?_
            refine z_callVa (As := [.int (zI (i : Int))]) (st := []) (wc := [oW al ala ((us (nn (2 * u + 1)) : Nat) : Int), aI cI ala 12 (wa (nn (2 * u + 1)))]) (wr := [oK k h ka kz (ns : Int) kw (nw : Int) j kb a b d g, oH h hl hs (n : Int), aI cI hl 1200 (shA nn), aI cI hs 100 (sgA sg), oF a (sg u) au al, oW au aua ((us (nn (2 * u)) : Nat) : Int), aI cI aua 12 (wa (nn (2 * u)))]) S hGok hK hg hA (s_W_digitAt l dC dI cI cL qT al ala (nn (2 * u + 1)) i ok2 (by omega)) (zcwV S (List.mem_cons_of_mem _ k_K_195) mV_W_digitAt k_K_195 hd_W_digitAt rfl rfl ⟨Nat.le_of_ble_eq_true rfl, Nat.le_of_ble_eq_true rfl⟩) rfl (Nat.le_of_ble_eq_true rfl) d_K_digit_85 ⟨Nat.le_of_ble_eq_true rfl, Nat.le_of_ble_eq_true rfl⟩ rfl [7, 8] [0, 1, 2, 3, 4, 5, 6] 7 rfl rfl rfl (by decide) rfl rfl rfl (by decide) (by decide) (fun x w hp => ?_)
            obtain ⟨rfl, rfl⟩ := hp
            show ZZ _ _ _ _ _ _ _ _ _ _ _ _ _ _ _ _ _ _ 88 [(4, .ref al), (0, .ref k), (1, .int (zI (u : Int))), (2, .int (zI 1)), (3, .int (zI (i : Int)))] [.int (zI ((dg 10 (nn (2 * u + 1)) i : Nat) : Int))] [oK k h ka kz (ns : Int) kw (nw : Int) j kb a b d g, oH h hl hs (n : Int), aI cI hl 1200 (shA nn), aI cI hs 100 (sgA sg), oF a (sg u) au al, oW au aua ((us (nn (2 * u)) : Nat) : Int), aI cI aua 12 (wa (nn (2 * u))), oW al ala ((us (nn (2 * u + 1)) : Nat) : Int), aI cI ala 12 (wa (nn (2 * u + 1)))]
            exact z_iret (w := [oK k h ka kz (ns : Int) kw (nw : Int) j kb a b d g, oH h hl hs (n : Int), aI cI hl 1200 (shA nn), aI cI hs 100 (sgA sg), oF a (sg u) au al, oW au aua ((us (nn (2 * u)) : Nat) : Int), aI cI aua 12 (wa (nn (2 * u))), oW al ala ((us (nn (2 * u + 1)) : Nat) : Int), aI cI ala 12 (wa (nn (2 * u + 1)))]) S hr hlo hAe d_K_digit_88 [0, 1, 2, 3, 4, 5, 6, 7, 8] (by decide) rfl rfl ⟨Nat.le_refl _, Nat.le_refl _⟩ (⟨rfl, rfl⟩)
          · skip
            omega
      · skip
        exact absurd c3 (by omega)
    · skip
      exact absurd c2 (by omega)
set_option maxHeartbeats 4000000 in
set_option maxRecDepth 100000 in
theorem t3_K_digit1 (l : Launch) (dC : Nat → ClassId) (dI : Nat → Nat → Nat) (cI cL : ClassId) (qT : Nat) (hst : l.stackTraces = false) (k : Nat) (ka : Nat) (kz : Nat) (ns : Nat) (kw : Nat) (nw : Nat) (j : Nat) (kb : Nat) (a : Nat) (b : Nat) (d : Nat) (g : Nat) (h : Nat) (hl : Nat) (hs : Nat) (nn : Nat → Nat) (sg : Nat → Int) (n : Nat) (an : Int) (au : Nat) (aua : Nat) (ax : Nat) (al : Nat) (ala : Nat) (az : Nat) (u : Nat) (i : Int) (hn : n ≤ 100) (hV : okVs sg nn n) (hu : u < n) (hir : -2147483648 ≤ i ∧ i < 2147483648) (hi : ¬ (0 ≤ i ∧ i < ((nd (nn (2 * u + 1)) : Nat) : Int))) (hax : ax < 1000000000 ^ 12) (haz : az < 1000000000 ^ 12) : Tm l y_K_digit (Cond.code y_K_digit c_K_digit 5 (some .int) :: zB) { frames := 7, cells := 1, slots := 6, locals := 131 } (dC, dI) zcl [(cI, .int), (cL, .long)] (zG cI cL qT) [.ref k, .int (zI (u : Int)), .int (zI 1), .int (zI i)] [oK k h ka kz (ns : Int) kw (nw : Int) j kb a b d g, oH h hl hs (n : Int), aI cI hl 1200 (shA nn), aI cI hs 100 (sgA sg), oF a an au al, oW au aua ((us ax : Nat) : Int), aI cI aua 12 (wa ax), oW al ala ((us az : Nat) : Int), aI cI ala 12 (wa az)] "java/lang/IndexOutOfBoundsException" (fun wv => wv = [oK k h ka kz (ns : Int) kw (nw : Int) j kb a b d g, oH h hl hs (n : Int), aI cI hl 1200 (shA nn), aI cI hs 100 (sgA sg), oF a (sg u) au al, oW au aua ((us (nn (2 * u)) : Nat) : Int), aI cI aua 12 (wa (nn (2 * u))), oW al ala ((us (nn (2 * u + 1)) : Nat) : Int), aI cI ala 12 (wa (nn (2 * u + 1)))]) 1 6 := by
  refine Tm.ofZ (cc := c_K_digit) (maxL := 5) (ret := (some .int)) (by decide) rfl (Nat.le_of_ble_eq_true rfl) rfl ?_
  intro p e s m below meth c A S hr hlo hnm hK hg hA hAe htab
  have hGok := zG_ok cI cL qT
  show ZZ _ _ _ _ _ _ _ _ _ _ _ _ _ _ _ _ _ _ 0 [(0, .ref k), (1, .int (zI (u : Int))), (2, .int (zI 1)), (3, .int (zI i))] [] [oK k h ka kz (ns : Int) kw (nw : Int) j kb a b d g, oH h hl hs (n : Int), aI cI hl 1200 (shA nn), aI cI hs 100 (sgA sg), oF a an au al, oW au aua ((us ax : Nat) : Int), aI cI aua 12 (wa ax), oW al ala ((us az : Nat) : Int), aI cI ala 12 (wa az)]
  obtain ⟨ok1, ok2⟩ := okV_12 (hV u hu)
  have hnr := nd_r ok2
  refine z_aload_n S d_K_digit_0 0 rfl ?_
  refine z_iload_n S d_K_digit_1 1 rfl ?_
  refine z_callVv (As := [.int (zI (u : Int))]) (st := []) (wc := [oK k h ka kz (ns : Int) kw (nw : Int) j kb a b d g, oH h hl hs (n : Int)]) (wr := [aI cI hl 1200 (shA nn), aI cI hs 100 (sgA sg), oF a an au al, oW au aua ((us ax : Nat) : Int), aI cI aua 12 (wa ax), oW al ala ((us az : Nat) : Int), aI cI ala 12 (wa az)]) S hGok hK hg hA (s_K_needValue l dC dI cI cL qT k ka kz ns kw nw j kb a b d g h hl hs n (u : Int) (by omega) (by omega)) (zcwV S (List.mem_cons_of_mem _ k_K_107) mV_K_needValue k_K_107 hd_K_needValue rfl rfl ⟨Nat.le_of_ble_eq_true rfl, Nat.le_of_ble_eq_true rfl⟩) rfl (Nat.le_of_ble_eq_true rfl) d_K_digit_2 ⟨Nat.le_of_ble_eq_true rfl, Nat.le_of_ble_eq_true rfl⟩ rfl [0, 1] [2, 3, 4, 5, 6, 7, 8] 0 rfl rfl rfl (by decide) rfl rfl rfl (by decide) (by decide) (fun w hp => ?_)
  subst hp
  show ZZ _ _ _ _ _ _ _ _ _ _ _ _ _ _ _ _ _ _ 5 [(0, .ref k), (1, .int (zI (u : Int))), (2, .int (zI 1)), (3, .int (zI i))] [] [aI cI hl 1200 (shA nn), aI cI hs 100 (sgA sg), oF a an au al, oW au aua ((us ax : Nat) : Int), aI cI aua 12 (wa ax), oW al ala ((us az : Nat) : Int), aI cI ala 12 (wa az), oK k h ka kz (ns : Int) kw (nw : Int) j kb a b d g, oH h hl hs (n : Int)]
  refine z_iload_n S d_K_digit_5 2 rfl ?_
  refine z_if_eq (tgt := 24) S d_K_digit_6 (by decide) (by omega) (fun c1 => ?_) (fun c1 => ?_)
  · skip
    exact absurd c1 (by omega)
  · skip
    refine z_iload_n S d_K_digit_9 2 rfl ?_
    refine z_iconst S d_K_digit_10 ?_
    refine z_icmp_eq (tgt := 24) S d_K_digit_11 (by decide) (by omega) (by omega) (fun c2 => ?_) (fun c2 => ?_)
    · skip
      refine z_aload_n S d_K_digit_24 0 rfl ?_
      refine z_get S hK la_K 7 rfl rfl 0 (by decide) k_K_10 rfl d_K_digit_25 ?_
      refine z_iload_n S d_K_digit_28 1 rfl ?_
      refine z_aload_n S d_K_digit_29 0 rfl ?_
      refine z_get S hK la_K 7 rfl rfl 8 (by decide) k_K_48 rfl d_K_digit_30 ?_
      refine z_callVv (As := [.int (zI (u : Int)), .ref a]) (st := []) (wc := [oH h hl hs (n : Int), aI cI hl 1200 (shA nn), aI cI hs 100 (sgA sg), oF a an au al, oW au aua ((us ax : Nat) : Int), aI cI aua 12 (wa ax), oW al ala ((us az : Nat) : Int), aI cI ala 12 (wa az)]) (wr := [oK k h ka kz (ns : Int) kw (nw : Int) j kb a b d g]) S hGok hK hg hA (s_H_fetch l dC dI cI cL qT h hl hs nn sg n u a an au aua ax al ala az (by omega) (okV_6 (hV u hu)).1 (okV_6 (hV u hu)).2 (by omega) (by omega)) (zcwV S (List.mem_cons_of_mem _ k_K_122) mV_H_fetch k_K_122 hd_H_fetch rfl rfl ⟨Nat.le_of_ble_eq_true rfl, Nat.le_of_ble_eq_true rfl⟩) rfl (Nat.le_of_ble_eq_true rfl) d_K_digit_33 ⟨Nat.le_of_ble_eq_true rfl, Nat.le_of_ble_eq_true rfl⟩ rfl [8, 0, 1, 2, 3, 4, 5, 6] [7] 8 rfl rfl rfl (by decide) rfl rfl rfl (by decide) (by decide) (fun w hp => ?_)
      subst hp
      show ZZ _ _ _ _ _ _ _ _ _ _ _ _ _ _ _ _ _ _ 36 [(0, .ref k), (1, .int (zI (u : Int))), (2, .int (zI 1)), (3, .int (zI i))] [] [oK k h ka kz (ns : Int) kw (nw : Int) j kb a b d g, oH h hl hs (n : Int), aI cI hl 1200 (shA nn), aI cI hs 100 (sgA sg), oF a (sg u) au al, oW au aua ((us (nn (2 * u)) : Nat) : Int), aI cI aua 12 (wa (nn (2 * u))), oW al ala ((us (nn (2 * u + 1)) : Nat) : Int), aI cI ala 12 (wa (nn (2 * u + 1)))]
      refine z_iload_n S d_K_digit_36 2 rfl ?_
      refine z_if_ne (tgt := 50) S d_K_digit_37 (by decide) (by omega) (fun c3 => ?_) (fun c3 => ?_)
      · skip
        refine z_aload_n S d_K_digit_50 0 rfl ?_
        refine z_get S hK la_K 0 rfl rfl 8 (by decide) k_K_48 rfl d_K_digit_51 ?_
        refine z_getN S hK la_F 4 rfl rfl 2 (by decide) (hg.1 _ kn_K_185) rfl d_K_digit_54 ?_
        refine z_astore (lv' := [(4, .ref al), (0, .ref k), (1, .int (zI (u : Int))), (2, .int (zI 1)), (3, .int (zI i))]) S d_K_digit_57 (by decide) rfl ?_
        refine z_iload_n S d_K_digit_59 4 rfl ?_
        refine z_if_lt (tgt := 72) S d_K_digit_60 (by decide) (by omega) (fun c4 => ?_) (fun c4 => ?_)
        · skip
          exact z_throwS (w := [oK k h ka kz (ns : Int) kw (nw : Int) j kb a b d g, oH h hl hs (n : Int), aI cI hl 1200 (shA nn), aI cI hs 100 (sgA sg), oF a (sg u) au al, oW au aua ((us (nn (2 * u)) : Nat) : Int), aI cI aua 12 (wa (nn (2 * u))), oW al ala ((us (nn (2 * u + 1)) : Nat) : Int), aI cI ala 12 (wa (nn (2 * u + 1)))]) S hst hg hlo hAe htab tw_114 k_K_110 (List.mem_of_getElem? (i := 16) rfl) d_K_digit_72 d_K_digit_75 d_K_digit_76 d_K_digit_78 d_K_digit_81 (Nat.le_of_ble_eq_true rfl) (Nat.le_of_ble_eq_true rfl) ⟨Nat.le_of_ble_eq_true rfl, Nat.le_of_ble_eq_true rfl⟩ ⟨Nat.le_refl _, Nat.le_refl _⟩ [0, 1, 2, 3, 4, 5, 6, 7, 8] (by decide) rfl (rfl)
        · skip
          refine z_iload_n S d_K_digit_63 4 rfl ?_
          refine z_aload S d_K_digit_64 0 rfl ?_
          refine z_callVa (As := []) (st := [.int (zI i)]) (wc := [oW al ala ((us (nn (2 * u + 1)) : Nat) : Int), aI cI ala 12 (wa (nn (2 * u + 1)))]) (wr := [oK k h ka kz (ns : Int) kw (nw : Int) j kb a b d g, oH h hl hs (n : Int), aI cI hl 1200 (shA nn), aI cI hs 100 (sgA sg), oF a (sg u) au al, oW au aua ((us (nn (2 * u)) : Nat) : Int), aI cI aua 12 (wa (nn (2 * u)))]) S hGok hK hg hA (s_W_countDigits l dC dI cI cL qT al ala (nn (2 * u + 1)) ok2) (zcwV S (List.mem_cons_of_mem _ k_K_188) mV_W_countDigits k_K_188 hd_W_countDigits rfl rfl ⟨Nat.le_of_ble_eq_true rfl, Nat.le_of_ble_eq_true rfl⟩) rfl (Nat.le_of_ble_eq_true rfl) d_K_digit_66 ⟨Nat.le_of_ble_eq_true rfl, Nat.le_of_ble_eq_true rfl⟩ rfl [7, 8] [0, 1, 2, 3, 4, 5, 6] 7 rfl rfl rfl (by decide) rfl rfl rfl (by decide) (by decide) (fun x w hp => ?_)
          obtain ⟨rfl, rfl⟩ := hp
          show ZZ _ _ _ _ _ _ _ _ _ _ _ _ _ _ _ _ _ _ 69 [(4, .ref al), (0, .ref k), (1, .int (zI (u : Int))), (2, .int (zI 1)), (3, .int (zI i))] [.int (zI ((nd (nn (2 * u + 1)) : Nat) : Int)), .int (zI i)] [oK k h ka kz (ns : Int) kw (nw : Int) j kb a b d g, oH h hl hs (n : Int), aI cI hl 1200 (shA nn), aI cI hs 100 (sgA sg), oF a (sg u) au al, oW au aua ((us (nn (2 * u)) : Nat) : Int), aI cI aua 12 (wa (nn (2 * u))), oW al ala ((us (nn (2 * u + 1)) : Nat) : Int), aI cI ala 12 (wa (nn (2 * u + 1)))]
          refine z_icmp_lt (tgt := 82) S d_K_digit_69 (by decide) (by omega) (by omega) (fun c5 => ?_) (fun c5 => ?_)
          · skip
            omega
          · skip
            exact z_throwS (w := [oK k h ka kz (ns : Int) kw (nw : Int) j kb a b d g, oH h hl hs (n : Int), aI cI hl 1200 (shA nn), aI cI hs 100 (sgA sg), oF a (sg u) au al, oW au aua ((us (nn (2 * u)) : Nat) : Int), aI cI aua 12 (wa (nn (2 * u))), oW al ala ((us (nn (2 * u + 1)) : Nat) : Int), aI cI ala 12 (wa (nn (2 * u + 1)))]) S hst hg hlo hAe htab tw_114 k_K_110 (List.mem_of_getElem? (i := 16) rfl) d_K_digit_72 d_K_digit_75 d_K_digit_76 d_K_digit_78 d_K_digit_81 (Nat.le_of_ble_eq_true rfl) (Nat.le_of_ble_eq_true rfl) ⟨Nat.le_of_ble_eq_true rfl, Nat.le_of_ble_eq_true rfl⟩ ⟨Nat.le_refl _, Nat.le_refl _⟩ [0, 1, 2, 3, 4, 5, 6, 7, 8] (by decide) rfl (rfl)
      · skip
        exact absurd c3 (by omega)
    · skip
      exact absurd c2 (by omega)
set_option maxHeartbeats 4000000 in
set_option maxRecDepth 100000 in
theorem t1_K_digit (l : Launch) (dC : Nat → ClassId) (dI : Nat → Nat → Nat) (cI cL : ClassId) (qT : Nat) (hst : l.stackTraces = false) (k : Nat) (ka : Nat) (kz : Nat) (ns : Nat) (kw : Nat) (nw : Nat) (j : Nat) (kb : Nat) (a : Nat) (b : Nat) (d : Nat) (g : Nat) (h : Nat) (hl : Nat) (hs : Nat) (n : Nat) (u : Int) (t : Int) (i : Int) (hn : n ≤ 100) (hur : -2147483648 ≤ u ∧ u < 2147483648) (hu : ¬ (0 ≤ u ∧ u < (n : Int))) : Tm l y_K_digit (Cond.code y_K_digit c_K_digit 5 (some .int) :: zB) { frames := 7, cells := 1, slots := 6, locals := 131 } (dC, dI) zcl [(cI, .int), (cL, .long)] (zG cI cL qT) [.ref k, .int (zI u), .int (zI t), .int (zI i)] [oK k h ka kz (ns : Int) kw (nw : Int) j kb a b d g, oH h hl hs (n : Int)] "java/lang/IndexOutOfBoundsException" (fun wv => wv = [oK k h ka kz (ns : Int) kw (nw : Int) j kb a b d g, oH h hl hs (n : Int)]) 1 6 := by
  refine Tm.ofZ (cc := c_K_digit) (maxL := 5) (ret := (some .int)) (by decide) rfl (Nat.le_of_ble_eq_true rfl) rfl ?_
  intro p e s m below meth c A S hr hlo hnm hK hg hA hAe htab
  have hGok := zG_ok cI cL qT
  show ZZ _ _ _ _ _ _ _ _ _ _ _ _ _ _ _ _ _ _ 0 [(0, .ref k), (1, .int (zI u)), (2, .int (zI t)), (3, .int (zI i))] [] [oK k h ka kz (ns : Int) kw (nw : Int) j kb a b d g, oH h hl hs (n : Int)]
  refine z_aload_n S d_K_digit_0 0 rfl ?_
  refine z_iload_n S d_K_digit_1 1 rfl ?_
  refine z_outV (As := [.int (zI u)]) (st := []) (wc := [oK k h ka kz (ns : Int) kw (nw : Int) j kb a b d g, oH h hl hs (n : Int)]) (wr := []) S hGok hK hg hA hlo hAe htab (t_K_needValue l dC dI cI cL qT hst k ka kz ns kw nw j kb a b d g h hl hs n u (by omega) (by omega) hu) (zcwV S (List.mem_cons_of_mem _ k_K_107) mV_K_needValue k_K_107 hd_K_needValue rfl rfl ⟨Nat.le_of_ble_eq_true rfl, Nat.le_of_ble_eq_true rfl⟩) rfl (Nat.le_of_ble_eq_true rfl) d_K_digit_2 ⟨Nat.le_of_ble_eq_true rfl, Nat.le_of_ble_eq_true rfl⟩ ⟨Nat.le_refl _, Nat.le_refl _⟩ rfl [0, 1] [] 0 rfl rfl rfl (by decide) rfl rfl rfl (by decide) (by decide) (fun w hp => ?_)
  subst hp
  exact ⟨[oK k h ka kz (ns : Int) kw (nw : Int) j kb a b d g, oH h hl hs (n : Int)], rfl, [0, 1], by decide, rfl⟩
set_option maxHeartbeats 4000000 in
set_option maxRecDepth 100000 in
theorem t2_K_digit (l : Launch) (dC : Nat → ClassId) (dI : Nat → Nat → Nat) (cI cL : ClassId) (qT : Nat) (hst : l.stackTraces = false) (k : Nat) (ka : Nat) (kz : Nat) (ns : Nat) (kw : Nat) (nw : Nat) (j : Nat) (kb : Nat) (a : Nat) (b : Nat) (d : Nat) (g : Nat) (h : Nat) (hl : Nat) (hs : Nat) (n : Nat) (u : Nat) (t : Int) (i : Int) (hn : n ≤ 100) (hu : u < n) (htr : -2147483648 ≤ t ∧ t < 2147483648) (ht : ¬ (t = 0 ∨ t = 1)) : Tm l y_K_digit (Cond.code y_K_digit c_K_digit 5 (some .int) :: zB) { frames := 7, cells := 1, slots := 6, locals := 131 } (dC, dI) zcl [(cI, .int), (cL, .long)] (zG cI cL qT) [.ref k, .int (zI (u : Int)), .int (zI t), .int (zI i)] [oK k h ka kz (ns : Int) kw (nw : Int) j kb a b d g, oH h hl hs (n : Int)] "java/lang/IndexOutOfBoundsException" (fun wv => wv = [oK k h ka kz (ns : Int) kw (nw : Int) j kb a b d g, oH h hl hs (n : Int)]) 1 6 := by
  refine Tm.ofZ (cc := c_K_digit) (maxL := 5) (ret := (some .int)) (by decide) rfl (Nat.le_of_ble_eq_true rfl) rfl ?_
  intro p e s m below meth c A S hr hlo hnm hK hg hA hAe htab
  have hGok := zG_ok cI cL qT
  show ZZ _ _ _ _ _ _ _ _ _ _ _ _ _ _ _ _ _ _ 0 [(0, .ref k), (1, .int (zI (u : Int))), (2, .int (zI t)), (3, .int (zI i))] [] [oK k h ka kz (ns : Int) kw (nw : Int) j kb a b d g, oH h hl hs (n : Int)]
  refine z_aload_n S d_K_digit_0 0 rfl ?_
  refine z_iload_n S d_K_digit_1 1 rfl ?_
  refine z_callVv (As := [.int (zI (u : Int))]) (st := []) (wc := [oK k h ka kz (ns : Int) kw (nw : Int) j kb a b d g, oH h hl hs (n : Int)]) (wr := []) S hGok hK hg hA (s_K_needValue l dC dI cI cL qT k ka kz ns kw nw j kb a b d g h hl hs n (u : Int) (by omega) (by omega)) (zcwV S (List.mem_cons_of_mem _ k_K_107) mV_K_needValue k_K_107 hd_K_needValue rfl rfl ⟨Nat.le_of_ble_eq_true rfl, Nat.le_of_ble_eq_true rfl⟩) rfl (Nat.le_of_ble_eq_true rfl) d_K_digit_2 ⟨Nat.le_of_ble_eq_true rfl, Nat.le_of_ble_eq_true rfl⟩ rfl [0, 1] [] 0 rfl rfl rfl (by decide) rfl rfl rfl (by decide) (by decide) (fun w hp => ?_)
  subst hp
  show ZZ _ _ _ _ _ _ _ _ _ _ _ _ _ _ _ _ _ _ 5 [(0, .ref k), (1, .int (zI (u : Int))), (2, .int (zI t)), (3, .int (zI i))] [] [oK k h ka kz (ns : Int) kw (nw : Int) j kb a b d g, oH h hl hs (n : Int)]
  refine z_iload_n S d_K_digit_5 2 rfl ?_
  refine z_if_eq (tgt := 24) S d_K_digit_6 (by decide) (by omega) (fun c1 => ?_) (fun c1 => ?_)
  · skip
    exact absurd c1 (by omega)
  · skip
    refine z_iload_n S d_K_digit_9 2 rfl ?_
    refine z_iconst S d_K_digit_10 ?_
    refine z_icmp_eq (tgt := 24) S d_K_digit_11 (by decide) (by omega) (by omega) (fun c2 => ?_) (fun c2 => ?_)
    · skip
      exact absurd c2 (by omega)
    · skip
      exact z_throwS (w := [oK k h ka kz (ns : Int) kw (nw : Int) j kb a b d g, oH h hl hs (n : Int)]) S hst hg hlo hAe htab tw_114 k_K_110 (List.mem_of_getElem? (i := 15) rfl) d_K_digit_14 d_K_digit_17 d_K_digit_18 d_K_digit_20 d_K_digit_23 (Nat.le_of_ble_eq_true rfl) (Nat.le_of_ble_eq_true rfl) ⟨Nat.le_of_ble_eq_true rfl, Nat.le_of_ble_eq_true rfl⟩ ⟨Nat.le_refl _, Nat.le_refl _⟩ [0, 1] (by decide) rfl (rfl)
set_option maxHeartbeats 4000000 in
set_option maxRecDepth 100000 in
theorem s_K_round (l : Launch) (dC : Nat → ClassId) (dI : Nat → Nat → Nat) (cI cL : ClassId) (qT : Nat) (k : Nat) (ka : Nat) (kz : Nat) (ns : Nat) (kw : Nat) (nw : Nat) (j : Nat) (kb : Nat) (a : Nat) (b : Nat) (d : Nat) (g : Nat) (h : Nat) (hl : Nat) (hs : Nat) (nn : Nat → Nat) (sg : Nat → Int) (n : Nat) (an : Int) (au : Nat) (aua : Nat) (ax : Nat) (al : Nat) (ala : Nat) (az : Nat) (dn : Int) (du : Nat) (dua : Nat) (dx : Nat) (dl : Nat) (dla : Nat) (dz : Nat) (kl : Nat) (kla : Nat) (lx : Nat) (kr : Nat) (kra : Nat) (rx : Nat) (kq : Nat) (kqa : Nat) (qx : Nat) (u : Nat) (ru : Int) (uu : Nat) (hn : n < 100) (hV : okVs sg nn n) (hu : u < n) (hru : 0 ≤ ru ∧ ru ≤ 6) (huu : 0 < uu ∧ uu ≤ 1000000000) (hax : ax < 1000000000 ^ 12) (haz : az < 1000000000 ^ 12) (hdx : dx < 1000000000 ^ 12) (hdz : dz < 1000000000 ^ 12) (hlx : lx < 1000000000 ^ 12) (hrx : rx < 1000000000 ^ 12) (hqx : qx < 1000000000 ^ 12) : Ct l y_K_round (Cond.code y_K_round c_K_round 5 (some .int) :: zB) { frames := 7, cells := 0, slots := 0, locals := 151 } (dC, dI) zcl [(cI, .int), (cL, .long)] (zG cI cL qT) [.ref k, .int (zI (u : Int)), .int (zI ru), .long (zL (uu : Int))] [oK k h ka kz (ns : Int) kw (nw : Int) j kb a b d g, oH h hl hs (n : Int), aI cI hl 1200 (shA nn), aI cI hs 100 (sgA sg), oF a an au al, oW au aua ((us ax : Nat) : Int), aI cI aua 12 (wa ax), oW al ala ((us az : Nat) : Int), aI cI ala 12 (wa az), oF d dn du dl, oW du dua ((us dx : Nat) : Int), aI cI dua 12 (wa dx), oW dl dla ((us dz : Nat) : Int), aI cI dla 12 (wa dz), oB kb kl kr kq, oW kl kla ((us lx : Nat) : Int), aI cI kla 12 (wa lx), oW kr kra ((us rx : Nat) : Int), aI cI kra 12 (wa rx), oW kq kqa ((us qx : Nat) : Int), aI cI kqa 12 (wa qx)] (fun rv wv => ∃ l2 : Nat, ∃ r2 : Nat, ∃ q2 : Nat, (l2 < 1000000000 ^ 12) ∧ (r2 < 1000000000 ^ 12) ∧ (q2 < 1000000000 ^ 12) ∧ rv = .int (zI (kpR n (lwX (rndN (nn (2 * u)) (nn (2 * u + 1)) (sg u) ru uu) uu) (lwZ (rndN (nn (2 * u)) (nn (2 * u + 1)) (sg u) ru uu) uu))) ∧ wv = [oK k h ka kz (ns : Int) kw (nw : Int) j kb a b d g, oH h hl hs ((kpC n (lwX (rndN (nn (2 * u)) (nn (2 * u + 1)) (sg u) ru uu) uu) (lwZ (rndN (nn (2 * u)) (nn (2 * u + 1)) (sg u) ru uu) uu) : Nat) : Int), aI cI hl 1200 (shA (kpN nn n (lwX (rndN (nn (2 * u)) (nn (2 * u + 1)) (sg u) ru uu) uu) (lwZ (rndN (nn (2 * u)) (nn (2 * u + 1)) (sg u) ru uu) uu))), aI cI hs 100 (sgA (kpS sg n (rndS (nn (2 * u)) (nn (2 * u + 1)) (sg u) ru uu) (lwX (rndN (nn (2 * u)) (nn (2 * u + 1)) (sg u) ru uu) uu) (lwZ (rndN (nn (2 * u)) (nn (2 * u + 1)) (sg u) ru uu) uu))), oF a (sg u) au al, oW au aua ((us (nn (2 * u)) : Nat) : Int), aI cI aua 12 (wa (nn (2 * u))), oW al ala ((us (nn (2 * u + 1)) : Nat) : Int), aI cI ala 12 (wa (nn (2 * u + 1))), oF d (rndS (nn (2 * u)) (nn (2 * u + 1)) (sg u) ru uu) du dl, oW du dua ((us (lwX (rndN (nn (2 * u)) (nn (2 * u + 1)) (sg u) ru uu) uu) : Nat) : Int), aI cI dua 12 (wa (lwX (rndN (nn (2 * u)) (nn (2 * u + 1)) (sg u) ru uu) uu)), oW dl dla ((us (lwZ (rndN (nn (2 * u)) (nn (2 * u + 1)) (sg u) ru uu) uu) : Nat) : Int), aI cI dla 12 (wa (lwZ (rndN (nn (2 * u)) (nn (2 * u + 1)) (sg u) ru uu) uu)), oB kb kl kr kq, oW kl kla ((us l2 : Nat) : Int), aI cI kla 12 (wa l2), oW kr kra ((us r2 : Nat) : Int), aI cI kra 12 (wa r2), oW kq kqa ((us q2 : Nat) : Int), aI cI kqa 12 (wa q2)]) 0 0 := by
  refine Cm.ofZ (cc := c_K_round) (maxL := 5) (ret := (some .int)) (by decide) rfl (Nat.le_of_ble_eq_true rfl) rfl ?_
  intro p e s m below meth c A S hr hlo hnm hK hg hA hAe
  have hGok := zG_ok cI cL qT
  show ZZ _ _ _ _ _ _ _ _ _ _ _ _ _ _ _ _ _ _ 0 [(0, .ref k), (1, .int (zI (u : Int))), (2, .int (zI ru)), (3, .long (zL (uu : Int)))] [] [oK k h ka kz (ns : Int) kw (nw : Int) j kb a b d g, oH h hl hs (n : Int), aI cI hl 1200 (shA nn), aI cI hs 100 (sgA sg), oF a an au al, oW au aua ((us ax : Nat) : Int), aI cI aua 12 (wa ax), oW al ala ((us az : Nat) : Int), aI cI ala 12 (wa az), oF d dn du dl, oW du dua ((us dx : Nat) : Int), aI cI dua 12 (wa dx), oW dl dla ((us dz : Nat) : Int), aI cI dla 12 (wa dz), oB kb kl kr kq, oW kl kla ((us lx : Nat) : Int), aI cI kla 12 (wa lx), oW kr kra ((us rx : Nat) : Int), aI cI kra 12 (wa rx), oW kq kqa ((us qx : Nat) : Int), aI cI kqa 12 (wa qx)]
  obtain ⟨u1, u2, u3, u4, u5, u6⟩ := id (hV u hu)
  have hNl : rndN (nn (2 * u)) (nn (2 * u + 1)) (sg u) ru uu ≤ nn (2 * u) * uu / (nn (2 * u + 1)) + 1 := rndN_le
  have hNd := Nat.div_le_self (nn (2 * u) * uu) (nn (2 * u + 1))
  have hNm := Nat.mul_le_mul (Nat.le_of_lt u3) huu.2
  have e57 : (10 : Nat) ^ 48 * 1000000000 = 10 ^ 57 := by decide
  have hN : rndN (nn (2 * u)) (nn (2 * u + 1)) (sg u) ru uu < 1000000000 ^ 12 := by omega
  have hD : uu < 1000000000 ^ 12 := by omega
  have hle := lw_le (rndN (nn (2 * u)) (nn (2 * u + 1)) (sg u) ru uu) (uu)
  refine z_aload_n S d_K_round_0 0 rfl ?_
  refine z_iload_n S d_K_round_1 1 rfl ?_
  refine z_callVv (As := [.int (zI (u : Int))]) (st := []) (wc := [oK k h ka kz (ns : Int) kw (nw : Int) j kb a b d g, oH h hl hs (n : Int)]) (wr := [aI cI hl 1200 (shA nn), aI cI hs 100 (sgA sg), oF a an au al, oW au aua ((us ax : Nat) : Int), aI cI aua 12 (wa ax), oW al ala ((us az : Nat) : Int), aI cI ala 12 (wa az), oF d dn du dl, oW du dua ((us dx : Nat) : Int), aI cI dua 12 (wa dx), oW dl dla ((us dz : Nat) : Int), aI cI dla 12 (wa dz), oB kb kl kr kq, oW kl kla ((us lx : Nat) : Int), aI cI kla 12 (wa lx), oW kr kra ((us rx : Nat) : Int), aI cI kra 12 (wa rx), oW kq kqa ((us qx : Nat) : Int), aI cI kqa 12 (wa qx)]) S hGok hK hg hA (s_K_needValue l dC dI cI cL qT k ka kz ns kw nw j kb a b d g h hl hs n (u : Int) (by omega) (by omega)) (zcwV S (List.mem_cons_of_mem _ k_K_107) mV_K_needValue k_K_107 hd_K_needValue rfl rfl ⟨Nat.le_of_ble_eq_true rfl, Nat.le_of_ble_eq_true rfl⟩) rfl (Nat.le_of_ble_eq_true rfl) d_K_round_2 ⟨Nat.le_of_ble_eq_true rfl, Nat.le_of_ble_eq_true rfl⟩ rfl [0, 1] [2, 3, 4, 5, 6, 7, 8, 9, 10, 11, 12, 13, 14, 15, 16, 17, 18, 19, 20] 0 rfl rfl rfl (by decide) rfl rfl rfl (by decide) (by decide) (fun w hp => ?_)
  subst hp
  show ZZ _ _ _ _ _ _ _ _ _ _ _ _ _ _ _ _ _ _ 5 [(0, .ref k), (1, .int (zI (u : Int))), (2, .int (zI ru)), (3, .long (zL (uu : Int)))] [] [aI cI hl 1200 (shA nn), aI cI hs 100 (sgA sg), oF a an au al, oW au aua ((us ax : Nat) : Int), aI cI aua 12 (wa ax), oW al ala ((us az : Nat) : Int), aI cI ala 12 (wa az), oF d dn du dl, oW du dua ((us dx : Nat) : Int), aI cI dua 12 (wa dx), oW dl dla ((us dz : Nat) : Int), aI cI dla 12 (wa dz), oB kb kl kr kq, oW kl kla ((us lx : Nat) : Int), aI cI kla 12 (wa lx), oW kr kra ((us rx : Nat) : Int), aI cI kra 12 (wa rx), oW kq kqa ((us qx : Nat) : Int), aI cI kqa 12 (wa qx), oK k h ka kz (ns : Int) kw (nw : Int) j kb a b d g, oH h hl hs (n : Int)]
  refine z_iload_n S d_K_round_5 2 rfl ?_
  refine z_if_lt (tgt := 15) S d_K_round_6 (by decide) (by omega) (fun c1 => ?_) (fun c1 => ?_)
  · skip
    exact absurd c1 (by omega)
  · skip
    refine z_iload_n S d_K_round_9 2 rfl ?_
    refine z_bipush S d_K_round_10 rfl ?_
    refine z_icmp_le (tgt := 25) S d_K_round_12 (by decide) (by omega) (by omega) (fun c2 => ?_) (fun c2 => ?_)
    · skip
      refine z_lload_n S d_K_round_25 3 rfl ?_
      refine z_lconst (z := 1) S d_K_round_26 rfl ?_
      refine z_lcmp_lt (tgt := 39) S d_K_round_27 d_K_round_28 (by decide) (by omega) (by omega) (fun c3 => ?_) (fun c3 => ?_)
      · skip
        omega
      · skip
        refine z_lload_n S d_K_round_31 3 rfl ?_
        refine z_ldc2 (v := 1000000000) (z := 1000000000) S k_K_115 d_K_round_32 (by decide) ?_
        refine z_lcmp_le (tgt := 49) S d_K_round_35 d_K_round_36 (by decide) (by omega) (by omega) (fun c4 => ?_) (fun c4 => ?_)
        · skip
          refine z_aload_n S d_K_round_49 0 rfl ?_
          refine z_iconst S d_K_round_50 ?_
          refine z_callVv (As := [.int (zI 1)]) (st := []) (wc := [oK k h ka kz (ns : Int) kw (nw : Int) j kb a b d g, oH h hl hs (n : Int)]) (wr := [aI cI hl 1200 (shA nn), aI cI hs 100 (sgA sg), oF a an au al, oW au aua ((us ax : Nat) : Int), aI cI aua 12 (wa ax), oW al ala ((us az : Nat) : Int), aI cI ala 12 (wa az), oF d dn du dl, oW du dua ((us dx : Nat) : Int), aI cI dua 12 (wa dx), oW dl dla ((us dz : Nat) : Int), aI cI dla 12 (wa dz), oB kb kl kr kq, oW kl kla ((us lx : Nat) : Int), aI cI kla 12 (wa lx), oW kr kra ((us rx : Nat) : Int), aI cI kra 12 (wa rx), oW kq kqa ((us qx : Nat) : Int), aI cI kqa 12 (wa qx)]) S hGok hK hg hA (s_K_needRoomFor l dC dI cI cL qT k ka kz ns kw nw j kb a b d g h hl hs n 1 (by omega) (by omega) (by omega)) (zcwV S (List.mem_cons_of_mem _ k_K_60) mV_K_needRoomFor k_K_60 hd_K_needRoomFor rfl rfl ⟨Nat.le_of_ble_eq_true rfl, Nat.le_of_ble_eq_true rfl⟩) rfl (Nat.le_of_ble_eq_true rfl) d_K_round_51 ⟨Nat.le_of_ble_eq_true rfl, Nat.le_of_ble_eq_true rfl⟩ rfl [19, 20] [0, 1, 2, 3, 4, 5, 6, 7, 8, 9, 10, 11, 12, 13, 14, 15, 16, 17, 18] 19 rfl rfl rfl (by decide) rfl rfl rfl (by decide) (by decide) (fun w hp => ?_)
          subst hp
          show ZZ _ _ _ _ _ _ _ _ _ _ _ _ _ _ _ _ _ _ 54 [(0, .ref k), (1, .int (zI (u : Int))), (2, .int (zI ru)), (3, .long (zL (uu : Int)))] [] [aI cI hl 1200 (shA nn), aI cI hs 100 (sgA sg), oF a an au al, oW au aua ((us ax : Nat) : Int), aI cI aua 12 (wa ax), oW al ala ((us az : Nat) : Int), aI cI ala 12 (wa az), oF d dn du dl, oW du dua ((us dx : Nat) : Int), aI cI dua 12 (wa dx), oW dl dla ((us dz : Nat) : Int), aI cI dla 12 (wa dz), oB kb kl kr kq, oW kl kla ((us lx : Nat) : Int), aI cI kla 12 (wa lx), oW kr kra ((us rx : Nat) : Int), aI cI kra 12 (wa rx), oW kq kqa ((us qx : Nat) : Int), aI cI kqa 12 (wa qx), oK k h ka kz (ns : Int) kw (nw : Int) j kb a b d g, oH h hl hs (n : Int)]
          refine z_aload_n S d_K_round_54 0 rfl ?_
          refine z_get S hK la_K 19 rfl rfl 0 (by decide) k_K_10 rfl d_K_round_55 ?_
          refine z_iload_n S d_K_round_58 1 rfl ?_
          refine z_aload_n S d_K_round_59 0 rfl ?_
          refine z_get S hK la_K 19 rfl rfl 8 (by decide) k_K_48 rfl d_K_round_60 ?_
          refine z_callVv (As := [.int (zI (u : Int)), .ref a]) (st := []) (wc := [oH h hl hs (n : Int), aI cI hl 1200 (shA nn), aI cI hs 100 (sgA sg), oF a an au al, oW au aua ((us ax : Nat) : Int), aI cI aua 12 (wa ax), oW al ala ((us az : Nat) : Int), aI cI ala 12 (wa az)]) (wr := [oF d dn du dl, oW du dua ((us dx : Nat) : Int), aI cI dua 12 (wa dx), oW dl dla ((us dz : Nat) : Int), aI cI dla 12 (wa dz), oB kb kl kr kq, oW kl kla ((us lx : Nat) : Int), aI cI kla 12 (wa lx), oW kr kra ((us rx : Nat) : Int), aI cI kra 12 (wa rx), oW kq kqa ((us qx : Nat) : Int), aI cI kqa 12 (wa qx), oK k h ka kz (ns : Int) kw (nw : Int) j kb a b d g]) S hGok hK hg hA (s_H_fetch l dC dI cI cL qT h hl hs nn sg n u a an au aua ax al ala az (by omega) (okV_6 (hV u hu)).1 (okV_6 (hV u hu)).2 (by omega) (by omega)) (zcwV S (List.mem_cons_of_mem _ k_K_122) mV_H_fetch k_K_122 hd_H_fetch rfl rfl ⟨Nat.le_of_ble_eq_true rfl, Nat.le_of_ble_eq_true rfl⟩) rfl (Nat.le_of_ble_eq_true rfl) d_K_round_63 ⟨Nat.le_of_ble_eq_true rfl, Nat.le_of_ble_eq_true rfl⟩ rfl [20, 0, 1, 2, 3, 4, 5, 6] [7, 8, 9, 10, 11, 12, 13, 14, 15, 16, 17, 18, 19] 20 rfl rfl rfl (by decide) rfl rfl rfl (by decide) (by decide) (fun w hp => ?_)
          subst hp
          show ZZ _ _ _ _ _ _ _ _ _ _ _ _ _ _ _ _ _ _ 66 [(0, .ref k), (1, .int (zI (u : Int))), (2, .int (zI ru)), (3, .long (zL (uu : Int)))] [] [oF d dn du dl, oW du dua ((us dx : Nat) : Int), aI cI dua 12 (wa dx), oW dl dla ((us dz : Nat) : Int), aI cI dla 12 (wa dz), oB kb kl kr kq, oW kl kla ((us lx : Nat) : Int), aI cI kla 12 (wa lx), oW kr kra ((us rx : Nat) : Int), aI cI kra 12 (wa rx), oW kq kqa ((us qx : Nat) : Int), aI cI kqa 12 (wa qx), oK k h ka kz (ns : Int) kw (nw : Int) j kb a b d g, oH h hl hs (n : Int), aI cI hl 1200 (shA nn), aI cI hs 100 (sgA sg), oF a (sg u) au al, oW au aua ((us (nn (2 * u)) : Nat) : Int), aI cI aua 12 (wa (nn (2 * u))), oW al ala ((us (nn (2 * u + 1)) : Nat) : Int), aI cI ala 12 (wa (nn (2 * u + 1)))]
          refine z_aload_n S d_K_round_66 0 rfl ?_
          refine z_get S hK la_K 12 rfl rfl 7 (by decide) k_K_44 rfl d_K_round_67 ?_
          refine z_aload_n S d_K_round_70 0 rfl ?_
          refine z_get S hK la_K 12 rfl rfl 8 (by decide) k_K_48 rfl d_K_round_71 ?_
          refine z_iload_n S d_K_round_74 2 rfl ?_
          refine z_lload_n S d_K_round_75 3 rfl ?_
          refine z_aload_n S d_K_round_76 0 rfl ?_
          refine z_get S hK la_K 12 rfl rfl 10 (by decide) k_K_54 rfl d_K_round_77 ?_
          refine z_callVv (As := [.ref a, .int (zI ru), .long (zL (uu : Int)), .ref d]) (st := []) (wc := [oB kb kl kr kq, oW kl kla ((us lx : Nat) : Int), aI cI kla 12 (wa lx), oW kr kra ((us rx : Nat) : Int), aI cI kra 12 (wa rx), oF a (sg u) au al, oW au aua ((us (nn (2 * u)) : Nat) : Int), aI cI aua 12 (wa (nn (2 * u))), oW al ala ((us (nn (2 * u + 1)) : Nat) : Int), aI cI ala 12 (wa (nn (2 * u + 1))), oF d dn du dl, oW du dua ((us dx : Nat) : Int), aI cI dua 12 (wa dx), oW dl dla ((us dz : Nat) : Int), aI cI dla 12 (wa dz)]) (wr := [oW kq kqa ((us qx : Nat) : Int), aI cI kqa 12 (wa qx), oK k h ka kz (ns : Int) kw (nw : Int) j kb a b d g, oH h hl hs (n : Int), aI cI hl 1200 (shA nn), aI cI hs 100 (sgA sg)]) S hGok hK hg hA (s_B_putRounded l dC dI cI cL qT kb kl kla lx kr kra rx kq a (sg u) au aua (nn (2 * u)) al ala (nn (2 * u + 1)) ru uu d dn du dua dx dl dla dz (by omega) (by omega) (by omega) (by omega) (by omega) (by omega) (by omega) (by omega) u4 huu.2) (zcwV S (List.mem_cons_of_mem _ k_K_126) mV_B_putRounded k_K_126 hd_B_putRounded rfl rfl ⟨Nat.le_of_ble_eq_true rfl, Nat.le_of_ble_eq_true rfl⟩) rfl (Nat.le_of_ble_eq_true rfl) d_K_round_80 ⟨Nat.le_of_ble_eq_true rfl, Nat.le_of_ble_eq_true rfl⟩ rfl [5, 6, 7, 8, 9, 16, 17, 18, 19, 20, 0, 1, 2, 3, 4] [10, 11, 12, 13, 14, 15] 5 rfl rfl rfl (by decide) rfl rfl rfl (by decide) (by decide) (fun w hp => ?_)
          obtain ⟨l4, r4, hl4, hr4, rfl⟩ := hp
          show ZZ _ _ _ _ _ _ _ _ _ _ _ _ _ _ _ _ _ _ 83 [(0, .ref k), (1, .int (zI (u : Int))), (2, .int (zI ru)), (3, .long (zL (uu : Int)))] [] [oW kq kqa ((us qx : Nat) : Int), aI cI kqa 12 (wa qx), oK k h ka kz (ns : Int) kw (nw : Int) j kb a b d g, oH h hl hs (n : Int), aI cI hl 1200 (shA nn), aI cI hs 100 (sgA sg), oB kb kl kr kq, oW kl kla ((us l4 : Nat) : Int), aI cI kla 12 (wa l4), oW kr kra ((us r4 : Nat) : Int), aI cI kra 12 (wa r4), oF a (sg u) au al, oW au aua ((us (nn (2 * u)) : Nat) : Int), aI cI aua 12 (wa (nn (2 * u))), oW al ala ((us (nn (2 * u + 1)) : Nat) : Int), aI cI ala 12 (wa (nn (2 * u + 1))), oF d (rndS (nn (2 * u)) (nn (2 * u + 1)) (sg u) ru uu) du dl, oW du dua ((us (rndN (nn (2 * u)) (nn (2 * u + 1)) (sg u) ru uu) : Nat) : Int), aI cI dua 12 (wa (rndN (nn (2 * u)) (nn (2 * u + 1)) (sg u) ru uu)), oW dl dla ((us uu : Nat) : Int), aI cI dla 12 (wa uu)]
          refine z_aload_n S d_K_round_83 0 rfl ?_
          refine z_get S hK la_K 2 rfl rfl 7 (by decide) k_K_44 rfl d_K_round_84 ?_
          refine z_aload_n S d_K_round_87 0 rfl ?_
          refine z_get S hK la_K 2 rfl rfl 10 (by decide) k_K_54 rfl d_K_round_88 ?_
          refine z_callVv (As := [.ref d]) (st := []) (wc := [oB kb kl kr kq, oW kl kla ((us l4 : Nat) : Int), aI cI kla 12 (wa l4), oW kr kra ((us r4 : Nat) : Int), aI cI kra 12 (wa r4), oW kq kqa ((us qx : Nat) : Int), aI cI kqa 12 (wa qx), oF d (rndS (nn (2 * u)) (nn (2 * u + 1)) (sg u) ru uu) du dl, oW du dua ((us (rndN (nn (2 * u)) (nn (2 * u + 1)) (sg u) ru uu) : Nat) : Int), aI cI dua 12 (wa (rndN (nn (2 * u)) (nn (2 * u + 1)) (sg u) ru uu)), oW dl dla ((us uu : Nat) : Int), aI cI dla 12 (wa uu)]) (wr := [oK k h ka kz (ns : Int) kw (nw : Int) j kb a b d g, oH h hl hs (n : Int), aI cI hl 1200 (shA nn), aI cI hs 100 (sgA sg), oF a (sg u) au al, oW au aua ((us (nn (2 * u)) : Nat) : Int), aI cI aua 12 (wa (nn (2 * u))), oW al ala ((us (nn (2 * u + 1)) : Nat) : Int), aI cI ala 12 (wa (nn (2 * u + 1)))]) S hGok hK hg hA (s_B_bringToLowest l dC dI cI cL qT kb kl kla l4 kr kra r4 kq kqa qx d (rndS (nn (2 * u)) (nn (2 * u + 1)) (sg u) ru uu) du dua (rndN (nn (2 * u)) (nn (2 * u + 1)) (sg u) ru uu) dl dla uu (by omega) (by omega) (by omega) hN hD huu.1) (zcwV S (List.mem_cons_of_mem _ k_K_75) mV_B_bringToLowest k_K_75 hd_B_bringToLowest rfl rfl ⟨Nat.le_of_ble_eq_true rfl, Nat.le_of_ble_eq_true rfl⟩) rfl (Nat.le_of_ble_eq_true rfl) d_K_round_91 ⟨Nat.le_of_ble_eq_true rfl, Nat.le_of_ble_eq_true rfl⟩ rfl [6, 7, 8, 9, 10, 0, 1, 16, 17, 18, 19, 20] [2, 3, 4, 5, 11, 12, 13, 14, 15] 6 rfl rfl rfl (by decide) rfl rfl rfl (by decide) (by decide) (fun w hp => ?_)
          obtain ⟨l3, r3, q3, hl3, hr3, hq3, rfl⟩ := hp
          show ZZ _ _ _ _ _ _ _ _ _ _ _ _ _ _ _ _ _ _ 94 [(0, .ref k), (1, .int (zI (u : Int))), (2, .int (zI ru)), (3, .long (zL (uu : Int)))] [] [oK k h ka kz (ns : Int) kw (nw : Int) j kb a b d g, oH h hl hs (n : Int), aI cI hl 1200 (shA nn), aI cI hs 100 (sgA sg), oF a (sg u) au al, oW au aua ((us (nn (2 * u)) : Nat) : Int), aI cI aua 12 (wa (nn (2 * u))), oW al ala ((us (nn (2 * u + 1)) : Nat) : Int), aI cI ala 12 (wa (nn (2 * u + 1))), oB kb kl kr kq, oW kl kla ((us l3 : Nat) : Int), aI cI kla 12 (wa l3), oW kr kra ((us r3 : Nat) : Int), aI cI kra 12 (wa r3), oW kq kqa ((us q3 : Nat) : Int), aI cI kqa 12 (wa q3), oF d (rndS (nn (2 * u)) (nn (2 * u + 1)) (sg u) ru uu) du dl, oW du dua ((us ((rndN (nn (2 * u)) (nn (2 * u + 1)) (sg u) ru uu) / Nat.gcd uu (rndN (nn (2 * u)) (nn (2 * u + 1)) (sg u) ru uu)) : Nat) : Int), aI cI dua 12 (wa ((rndN (nn (2 * u)) (nn (2 * u + 1)) (sg u) ru uu) / Nat.gcd uu (rndN (nn (2 * u)) (nn (2 * u + 1)) (sg u) ru uu))), oW dl dla ((us (uu / Nat.gcd uu (rndN (nn (2 * u)) (nn (2 * u + 1)) (sg u) ru uu)) : Nat) : Int), aI cI dla 12 (wa (uu / Nat.gcd uu (rndN (nn (2 * u)) (nn (2 * u + 1)) (sg u) ru uu)))]
          refine z_aload_n S d_K_round_94 0 rfl ?_
          refine z_callVa (As := []) (st := []) (wc := [oK k h ka kz (ns : Int) kw (nw : Int) j kb a b d g, oH h hl hs (n : Int), aI cI hl 1200 (shA nn), aI cI hs 100 (sgA sg), oF d (rndS (nn (2 * u)) (nn (2 * u + 1)) (sg u) ru uu) du dl, oW du dua ((us ((rndN (nn (2 * u)) (nn (2 * u + 1)) (sg u) ru uu) / Nat.gcd uu (rndN (nn (2 * u)) (nn (2 * u + 1)) (sg u) ru uu)) : Nat) : Int), aI cI dua 12 (wa ((rndN (nn (2 * u)) (nn (2 * u + 1)) (sg u) ru uu) / Nat.gcd uu (rndN (nn (2 * u)) (nn (2 * u + 1)) (sg u) ru uu))), oW dl dla ((us (uu / Nat.gcd uu (rndN (nn (2 * u)) (nn (2 * u + 1)) (sg u) ru uu)) : Nat) : Int), aI cI dla 12 (wa (uu / Nat.gcd uu (rndN (nn (2 * u)) (nn (2 * u + 1)) (sg u) ru uu)))]) (wr := [oF a (sg u) au al, oW au aua ((us (nn (2 * u)) : Nat) : Int), aI cI aua 12 (wa (nn (2 * u))), oW al ala ((us (nn (2 * u + 1)) : Nat) : Int), aI cI ala 12 (wa (nn (2 * u + 1))), oB kb kl kr kq, oW kl kla ((us l3 : Nat) : Int), aI cI kla 12 (wa l3), oW kr kra ((us r3 : Nat) : Int), aI cI kra 12 (wa r3), oW kq kqa ((us q3 : Nat) : Int), aI cI kqa 12 (wa q3)]) S hGok hK hg hA (s_K_keep l dC dI cI cL qT k ka kz ns kw nw j kb a b d g h hl hs nn sg n (rndS (nn (2 * u)) (nn (2 * u + 1)) (sg u) ru uu) du dua ((rndN (nn (2 * u)) (nn (2 * u + 1)) (sg u) ru uu) / Nat.gcd uu (rndN (nn (2 * u)) (nn (2 * u + 1)) (sg u) ru uu)) dl dla (uu / Nat.gcd uu (rndN (nn (2 * u)) (nn (2 * u + 1)) (sg u) ru uu)) (by omega) (Nat.lt_of_le_of_lt hle.1 hN) (Nat.lt_of_le_of_lt hle.2 hD)) (zcwV S (List.mem_cons_of_mem _ k_K_79) mV_K_keepUnlessTooLong k_K_79 hd_K_keepUnlessTooLong rfl rfl ⟨Nat.le_of_ble_eq_true rfl, Nat.le_of_ble_eq_true rfl⟩) rfl (Nat.le_of_ble_eq_true rfl) d_K_round_95 ⟨Nat.le_of_ble_eq_true rfl, Nat.le_of_ble_eq_true rfl⟩ rfl [0, 1, 2, 3, 16, 17, 18, 19, 20] [4, 5, 6, 7, 8, 9, 10, 11, 12, 13, 14, 15] 0 rfl rfl rfl (by decide) rfl rfl rfl (by decide) (by decide) (fun x w hp => ?_)
          obtain ⟨rfl, rfl⟩ := hp
          show ZZ _ _ _ _ _ _ _ _ _ _ _ _ _ _ _ _ _ _ 98 [(0, .ref k), (1, .int (zI (u : Int))), (2, .int (zI ru)), (3, .long (zL (uu : Int)))] [.int (zI (kpR n ((rndN (nn (2 * u)) (nn (2 * u + 1)) (sg u) ru uu) / Nat.gcd uu (rndN (nn (2 * u)) (nn (2 * u + 1)) (sg u) ru uu)) (uu / Nat.gcd uu (rndN (nn (2 * u)) (nn (2 * u + 1)) (sg u) ru uu))))] [oF a (sg u) au al, oW au aua ((us (nn (2 * u)) : Nat) : Int), aI cI aua 12 (wa (nn (2 * u))), oW al ala ((us (nn (2 * u + 1)) : Nat) : Int), aI cI ala 12 (wa (nn (2 * u + 1))), oB kb kl kr kq, oW kl kla ((us l3 : Nat) : Int), aI cI kla 12 (wa l3), oW kr kra ((us r3 : Nat) : Int), aI cI kra 12 (wa r3), oW kq kqa ((us q3 : Nat) : Int), aI cI kqa 12 (wa q3), oK k h ka kz (ns : Int) kw (nw : Int) j kb a b d g, oH h hl hs ((kpC n ((rndN (nn (2 * u)) (nn (2 * u + 1)) (sg u) ru uu) / Nat.gcd uu (rndN (nn (2 * u)) (nn (2 * u + 1)) (sg u) ru uu)) (uu / Nat.gcd uu (rndN (nn (2 * u)) (nn (2 * u + 1)) (sg u) ru uu)) : Nat) : Int), aI cI hl 1200 (shA (kpN nn n ((rndN (nn (2 * u)) (nn (2 * u + 1)) (sg u) ru uu) / Nat.gcd uu (rndN (nn (2 * u)) (nn (2 * u + 1)) (sg u) ru uu)) (uu / Nat.gcd uu (rndN (nn (2 * u)) (nn (2 * u + 1)) (sg u) ru uu)))), aI cI hs 100 (sgA (kpS sg n (rndS (nn (2 * u)) (nn (2 * u + 1)) (sg u) ru uu) ((rndN (nn (2 * u)) (nn (2 * u + 1)) (sg u) ru uu) / Nat.gcd uu (rndN (nn (2 * u)) (nn (2 * u + 1)) (sg u) ru uu)) (uu / Nat.gcd uu (rndN (nn (2 * u)) (nn (2 * u + 1)) (sg u) ru uu)))), oF d (rndS (nn (2 * u)) (nn (2 * u + 1)) (sg u) ru uu) du dl, oW du dua ((us ((rndN (nn (2 * u)) (nn (2 * u + 1)) (sg u) ru uu) / Nat.gcd uu (rndN (nn (2 * u)) (nn (2 * u + 1)) (sg u) ru uu)) : Nat) : Int), aI cI dua 12 (wa ((rndN (nn (2 * u)) (nn (2 * u + 1)) (sg u) ru uu) / Nat.gcd uu (rndN (nn (2 * u)) (nn (2 * u + 1)) (sg u) ru uu))), oW dl dla ((us (uu / Nat.gcd uu (rndN (nn (2 * u)) (nn (2 * u + 1)) (sg u) ru uu)) : Nat) : Int), aI cI dla 12 (wa (uu / Nat.gcd uu (rndN (nn (2 * u)) (nn (2 * u + 1)) (sg u) ru uu)))]
          exact z_iret (w := [oK k h ka kz (ns : Int) kw (nw : Int) j kb a b d g, oH h hl hs ((kpC n ((rndN (nn (2 * u)) (nn (2 * u + 1)) (sg u) ru uu) / Nat.gcd uu (rndN (nn (2 * u)) (nn (2 * u + 1)) (sg u) ru uu)) (uu / Nat.gcd uu (rndN (nn (2 * u)) (nn (2 * u + 1)) (sg u) ru uu)) : Nat) : Int), aI cI hl 1200 (shA (kpN nn n ((rndN (nn (2 * u)) (nn (2 * u + 1)) (sg u) ru uu) / Nat.gcd uu (rndN (nn (2 * u)) (nn (2 * u + 1)) (sg u) ru uu)) (uu / Nat.gcd uu (rndN (nn (2 * u)) (nn (2 * u + 1)) (sg u) ru uu)))), aI cI hs 100 (sgA (kpS sg n (rndS (nn (2 * u)) (nn (2 * u + 1)) (sg u) ru uu) ((rndN (nn (2 * u)) (nn (2 * u + 1)) (sg u) ru uu) / Nat.gcd uu (rndN (nn (2 * u)) (nn (2 * u + 1)) (sg u) ru uu)) (uu / Nat.gcd uu (rndN (nn (2 * u)) (nn (2 * u + 1)) (sg u) ru uu)))), oF a (sg u) au al, oW au aua ((us (nn (2 * u)) : Nat) : Int), aI cI aua 12 (wa (nn (2 * u))), oW al ala ((us (nn (2 * u + 1)) : Nat) : Int), aI cI ala 12 (wa (nn (2 * u + 1))), oF d (rndS (nn (2 * u)) (nn (2 * u + 1)) (sg u) ru uu) du dl, oW du dua ((us ((rndN (nn (2 * u)) (nn (2 * u + 1)) (sg u) ru uu) / Nat.gcd uu (rndN (nn (2 * u)) (nn (2 * u + 1)) (sg u) ru uu)) : Nat) : Int), aI cI dua 12 (wa ((rndN (nn (2 * u)) (nn (2 * u + 1)) (sg u) ru uu) / Nat.gcd uu (rndN (nn (2 * u)) (nn (2 * u + 1)) (sg u) ru uu))), oW dl dla ((us (uu / Nat.gcd uu (rndN (nn (2 * u)) (nn (2 * u + 1)) (sg u) ru uu)) : Nat) : Int), aI cI dla 12 (wa (uu / Nat.gcd uu (rndN (nn (2 * u)) (nn (2 * u + 1)) (sg u) ru uu))), oB kb kl kr kq, oW kl kla ((us l3 : Nat) : Int), aI cI kla 12 (wa l3), oW kr kra ((us r3 : Nat) : Int), aI cI kra 12 (wa r3), oW kq kqa ((us q3 : Nat) : Int), aI cI kqa 12 (wa q3)]) S hr hlo hAe d_K_round_98 [12, 13, 14, 15, 0, 1, 2, 3, 4, 16, 17, 18, 19, 20, 5, 6, 7, 8, 9, 10, 11] (by decide) rfl rfl ⟨Nat.le_refl _, Nat.le_refl _⟩ (⟨l3, r3, q3, hl3, hr3, hq3, rfl, rfl⟩)
        · skip
          omega
    · skip
      omega
set_option maxHeartbeats 4000000 in
set_option maxRecDepth 100000 in
theorem t1_K_round (l : Launch) (dC : Nat → ClassId) (dI : Nat → Nat → Nat) (cI cL : ClassId) (qT : Nat) (hst : l.stackTraces = false) (k : Nat) (ka : Nat) (kz : Nat) (ns : Nat) (kw : Nat) (nw : Nat) (j : Nat) (kb : Nat) (a : Nat) (b : Nat) (d : Nat) (g : Nat) (h : Nat) (hl : Nat) (hs : Nat) (n : Nat) (u : Int) (ru : Int) (uu : Int) (hn : n ≤ 100) (hur : -2147483648 ≤ u ∧ u < 2147483648) (hrr : -2147483648 ≤ ru ∧ ru < 2147483648) (hu : ¬ ((0 ≤ u ∧ u < (n : Int)) ∧ (0 ≤ ru ∧ ru ≤ 6))) : Tm l y_K_round (Cond.code y_K_round c_K_round 5 (some .int) :: zB) { frames := 7, cells := 1, slots := 6, locals := 151 } (dC, dI) zcl [(cI, .int), (cL, .long)] (zG cI cL qT) [.ref k, .int (zI u), .int (zI ru), .long (zL uu)] [oK k h ka kz (ns : Int) kw (nw : Int) j kb a b d g, oH h hl hs (n : Int)] "java/lang/IndexOutOfBoundsException" (fun wv => wv = [oK k h ka kz (ns : Int) kw (nw : Int) j kb a b d g, oH h hl hs (n : Int)]) 1 6 := by
  refine Tm.ofZ (cc := c_K_round) (maxL := 5) (ret := (some .int)) (by decide) rfl (Nat.le_of_ble_eq_true rfl) rfl ?_
  intro p e s m below meth c A S hr hlo hnm hK hg hA hAe htab
  have hGok := zG_ok cI cL qT
  show ZZ _ _ _ _ _ _ _ _ _ _ _ _ _ _ _ _ _ _ 0 [(0, .ref k), (1, .int (zI u)), (2, .int (zI ru)), (3, .long (zL uu))] [] [oK k h ka kz (ns : Int) kw (nw : Int) j kb a b d g, oH h hl hs (n : Int)]
  refine z_aload_n S d_K_round_0 0 rfl ?_
  refine z_iload_n S d_K_round_1 1 rfl ?_
  by_cases hu1 : 0 ≤ u ∧ u < (n : Int)
  · skip
    refine z_callVv (As := [.int (zI u)]) (st := []) (wc := [oK k h ka kz (ns : Int) kw (nw : Int) j kb a b d g, oH h hl hs (n : Int)]) (wr := []) S hGok hK hg hA (s_K_needValue l dC dI cI cL qT k ka kz ns kw nw j kb a b d g h hl hs n u (by omega) hu1) (zcwV S (List.mem_cons_of_mem _ k_K_107) mV_K_needValue k_K_107 hd_K_needValue rfl rfl ⟨Nat.le_of_ble_eq_true rfl, Nat.le_of_ble_eq_true rfl⟩) rfl (Nat.le_of_ble_eq_true rfl) d_K_round_2 ⟨Nat.le_of_ble_eq_true rfl, Nat.le_of_ble_eq_true rfl⟩ rfl [0, 1] [] 0 rfl rfl rfl (by decide) rfl rfl rfl (by decide) (by decide) (fun w hp => ?_)
    subst hp
    show ZZ _ _ _ _ _ _ _ _ _ _ _ _ _ _ _ _ _ _ 5 [(0, .ref k), (1, .int (zI u)), (2, .int (zI ru)), (3, .long (zL uu))] [] [oK k h ka kz (ns : Int) kw (nw : Int) j kb a b d g, oH h hl hs (n : Int)]
    refine z_iload_n S d_K_round_5 2 rfl ?_
    refine z_if_lt (tgt := 15) S d_K_round_6 (by decide) (by omega) (fun c1 => ?_) (fun c1 => ?_)
    · skip
      exact z_throwS (w := [oK k h ka kz (ns : Int) kw (nw : Int) j kb a b d g, oH h hl hs (n : Int)]) S hst hg hlo hAe htab tw_114 k_K_110 (List.mem_of_getElem? (i := 4) rfl) d_K_round_15 d_K_round_18 d_K_round_19 d_K_round_21 d_K_round_24 (Nat.le_of_ble_eq_true rfl) (Nat.le_of_ble_eq_true rfl) ⟨Nat.le_of_ble_eq_true rfl, Nat.le_of_ble_eq_true rfl⟩ ⟨Nat.le_refl _, Nat.le_refl _⟩ [0, 1] (by decide) rfl (rfl)
    · skip
      refine z_iload_n S d_K_round_9 2 rfl ?_
      refine z_bipush S d_K_round_10 rfl ?_
      refine z_icmp_le (tgt := 25) S d_K_round_12 (by decide) (by omega) (by omega) (fun c2 => ?_) (fun c2 => ?_)
      · skip
        omega
      · skip
        exact z_throwS (w := [oK k h ka kz (ns : Int) kw (nw : Int) j kb a b d g, oH h hl hs (n : Int)]) S hst hg hlo hAe htab tw_114 k_K_110 (List.mem_of_getElem? (i := 4) rfl) d_K_round_15 d_K_round_18 d_K_round_19 d_K_round_21 d_K_round_24 (Nat.le_of_ble_eq_true rfl) (Nat.le_of_ble_eq_true rfl) ⟨Nat.le_of_ble_eq_true rfl, Nat.le_of_ble_eq_true rfl⟩ ⟨Nat.le_refl _, Nat.le_refl _⟩ [0, 1] (by decide) rfl (rfl)
  · skip
    refine z_outV (As := [.int (zI u)]) (st := []) (wc := [oK k h ka kz (ns : Int) kw (nw : Int) j kb a b d g, oH h hl hs (n : Int)]) (wr := []) S hGok hK hg hA hlo hAe htab (t_K_needValue l dC dI cI cL qT hst k ka kz ns kw nw j kb a b d g h hl hs n u (by omega) (by omega) hu1) (zcwV S (List.mem_cons_of_mem _ k_K_107) mV_K_needValue k_K_107 hd_K_needValue rfl rfl ⟨Nat.le_of_ble_eq_true rfl, Nat.le_of_ble_eq_true rfl⟩) rfl (Nat.le_of_ble_eq_true rfl) d_K_round_2 ⟨Nat.le_of_ble_eq_true rfl, Nat.le_of_ble_eq_true rfl⟩ ⟨Nat.le_refl _, Nat.le_refl _⟩ rfl [0, 1] [] 0 rfl rfl rfl (by decide) rfl rfl rfl (by decide) (by decide) (fun w hp => ?_)
    subst hp
    exact ⟨[oK k h ka kz (ns : Int) kw (nw : Int) j kb a b d g, oH h hl hs (n : Int)], rfl, [0, 1], by decide, rfl⟩
set_option maxHeartbeats 4000000 in
set_option maxRecDepth 100000 in
theorem t2_K_round (l : Launch) (dC : Nat → ClassId) (dI : Nat → Nat → Nat) (cI cL : ClassId) (qT : Nat) (hst : l.stackTraces = false) (k : Nat) (ka : Nat) (kz : Nat) (ns : Nat) (kw : Nat) (nw : Nat) (j : Nat) (kb : Nat) (a : Nat) (b : Nat) (d : Nat) (g : Nat) (h : Nat) (hl : Nat) (hs : Nat) (n : Nat) (u : Nat) (ru : Int) (uu : Int) (hn : n ≤ 100) (hu : u < n) (hru : 0 ≤ ru ∧ ru ≤ 6) (hur : -9223372036854775808 ≤ uu ∧ uu < 9223372036854775808) (huu : ¬ (1 ≤ uu ∧ uu ≤ 1000000000)) : Tm l y_K_round (Cond.code y_K_round c_K_round 5 (some .int) :: zB) { frames := 7, cells := 1, slots := 6, locals := 151 } (dC, dI) zcl [(cI, .int), (cL, .long)] (zG cI cL qT) [.ref k, .int (zI (u : Int)), .int (zI ru), .long (zL uu)] [oK k h ka kz (ns : Int) kw (nw : Int) j kb a b d g, oH h hl hs (n : Int)] "java/lang/IllegalArgumentException" (fun wv => wv = [oK k h ka kz (ns : Int) kw (nw : Int) j kb a b d g, oH h hl hs (n : Int)]) 1 6 := by
  refine Tm.ofZ (cc := c_K_round) (maxL := 5) (ret := (some .int)) (by decide) rfl (Nat.le_of_ble_eq_true rfl) rfl ?_
  intro p e s m below meth c A S hr hlo hnm hK hg hA hAe htab
  have hGok := zG_ok cI cL qT
  show ZZ _ _ _ _ _ _ _ _ _ _ _ _ _ _ _ _ _ _ 0 [(0, .ref k), (1, .int (zI (u : Int))), (2, .int (zI ru)), (3, .long (zL uu))] [] [oK k h ka kz (ns : Int) kw (nw : Int) j kb a b d g, oH h hl hs (n : Int)]
  refine z_aload_n S d_K_round_0 0 rfl ?_
  refine z_iload_n S d_K_round_1 1 rfl ?_
  refine z_callVv (As := [.int (zI (u : Int))]) (st := []) (wc := [oK k h ka kz (ns : Int) kw (nw : Int) j kb a b d g, oH h hl hs (n : Int)]) (wr := []) S hGok hK hg hA (s_K_needValue l dC dI cI cL qT k ka kz ns kw nw j kb a b d g h hl hs n (u : Int) (by omega) (by omega)) (zcwV S (List.mem_cons_of_mem _ k_K_107) mV_K_needValue k_K_107 hd_K_needValue rfl rfl ⟨Nat.le_of_ble_eq_true rfl, Nat.le_of_ble_eq_true rfl⟩) rfl (Nat.le_of_ble_eq_true rfl) d_K_round_2 ⟨Nat.le_of_ble_eq_true rfl, Nat.le_of_ble_eq_true rfl⟩ rfl [0, 1] [] 0 rfl rfl rfl (by decide) rfl rfl rfl (by decide) (by decide) (fun w hp => ?_)
  subst hp
  show ZZ _ _ _ _ _ _ _ _ _ _ _ _ _ _ _ _ _ _ 5 [(0, .ref k), (1, .int (zI (u : Int))), (2, .int (zI ru)), (3, .long (zL uu))] [] [oK k h ka kz (ns : Int) kw (nw : Int) j kb a b d g, oH h hl hs (n : Int)]
  refine z_iload_n S d_K_round_5 2 rfl ?_
  refine z_if_lt (tgt := 15) S d_K_round_6 (by decide) (by omega) (fun c1 => ?_) (fun c1 => ?_)
  · skip
    exact absurd c1 (by omega)
  · skip
    refine z_iload_n S d_K_round_9 2 rfl ?_
    refine z_bipush S d_K_round_10 rfl ?_
    refine z_icmp_le (tgt := 25) S d_K_round_12 (by decide) (by omega) (by omega) (fun c2 => ?_) (fun c2 => ?_)
    · skip
      refine z_lload_n S d_K_round_25 3 rfl ?_
      refine z_lconst (z := 1) S d_K_round_26 rfl ?_
      refine z_lcmp_lt (tgt := 39) S d_K_round_27 d_K_round_28 (by decide) (by omega) (by omega) (fun c3 => ?_) (fun c3 => ?_)
      · skip
        exact z_throwS (w := [oK k h ka kz (ns : Int) kw (nw : Int) j kb a b d g, oH h hl hs (n : Int)]) S hst hg hlo hAe htab tw_121 k_K_117 (List.mem_of_getElem? (i := 5) rfl) d_K_round_39 d_K_round_42 d_K_round_43 d_K_round_45 d_K_round_48 (Nat.le_of_ble_eq_true rfl) (Nat.le_of_ble_eq_true rfl) ⟨Nat.le_of_ble_eq_true rfl, Nat.le_of_ble_eq_true rfl⟩ ⟨Nat.le_refl _, Nat.le_refl _⟩ [0, 1] (by decide) rfl (rfl)
      · skip
        refine z_lload_n S d_K_round_31 3 rfl ?_
        refine z_ldc2 (v := 1000000000) (z := 1000000000) S k_K_115 d_K_round_32 (by decide) ?_
        refine z_lcmp_le (tgt := 49) S d_K_round_35 d_K_round_36 (by decide) (by omega) (by omega) (fun c4 => ?_) (fun c4 => ?_)
        · skip
          omega
        · skip
          exact z_throwS (w := [oK k h ka kz (ns : Int) kw (nw : Int) j kb a b d g, oH h hl hs (n : Int)]) S hst hg hlo hAe htab tw_121 k_K_117 (List.mem_of_getElem? (i := 5) rfl) d_K_round_39 d_K_round_42 d_K_round_43 d_K_round_45 d_K_round_48 (Nat.le_of_ble_eq_true rfl) (Nat.le_of_ble_eq_true rfl) ⟨Nat.le_of_ble_eq_true rfl, Nat.le_of_ble_eq_true rfl⟩ ⟨Nat.le_refl _, Nat.le_refl _⟩ [0, 1] (by decide) rfl (rfl)
    · skip
      omega
set_option maxHeartbeats 4000000 in
set_option maxRecDepth 100000 in
theorem t3_K_round (l : Launch) (dC : Nat → ClassId) (dI : Nat → Nat → Nat) (cI cL : ClassId) (qT : Nat) (hst : l.stackTraces = false) (k : Nat) (ka : Nat) (kz : Nat) (ns : Nat) (kw : Nat) (nw : Nat) (j : Nat) (kb : Nat) (a : Nat) (b : Nat) (d : Nat) (g : Nat) (h : Nat) (hl : Nat) (hs : Nat) (n : Nat) (u : Nat) (ru : Int) (uu : Int) (hn : n = 100) (hu : u < n) (hru : 0 ≤ ru ∧ ru ≤ 6) (huu : 1 ≤ uu ∧ uu ≤ 1000000000) : Tm l y_K_round (Cond.code y_K_round c_K_round 5 (some .int) :: zB) { frames := 7, cells := 1, slots := 6, locals := 151 } (dC, dI) zcl [(cI, .int), (cL, .long)] (zG cI cL qT) [.ref k, .int (zI (u : Int)), .int (zI ru), .long (zL uu)] [oK k h ka kz (ns : Int) kw (nw : Int) j kb a b d g, oH h hl hs (n : Int)] "java/lang/UnsupportedOperationException" (fun wv => wv = [oK k h ka kz (ns : Int) kw (nw : Int) j kb a b d g, oH h hl hs (n : Int)]) 1 6 := by
  refine Tm.ofZ (cc := c_K_round) (maxL := 5) (ret := (some .int)) (by decide) rfl (Nat.le_of_ble_eq_true rfl) rfl ?_
  intro p e s m below meth c A S hr hlo hnm hK hg hA hAe htab
  have hGok := zG_ok cI cL qT
  show ZZ _ _ _ _ _ _ _ _ _ _ _ _ _ _ _ _ _ _ 0 [(0, .ref k), (1, .int (zI (u : Int))), (2, .int (zI ru)), (3, .long (zL uu))] [] [oK k h ka kz (ns : Int) kw (nw : Int) j kb a b d g, oH h hl hs (n : Int)]
  refine z_aload_n S d_K_round_0 0 rfl ?_
  refine z_iload_n S d_K_round_1 1 rfl ?_
  refine z_callVv (As := [.int (zI (u : Int))]) (st := []) (wc := [oK k h ka kz (ns : Int) kw (nw : Int) j kb a b d g, oH h hl hs (n : Int)]) (wr := []) S hGok hK hg hA (s_K_needValue l dC dI cI cL qT k ka kz ns kw nw j kb a b d g h hl hs n (u : Int) (by omega) (by omega)) (zcwV S (List.mem_cons_of_mem _ k_K_107) mV_K_needValue k_K_107 hd_K_needValue rfl rfl ⟨Nat.le_of_ble_eq_true rfl, Nat.le_of_ble_eq_true rfl⟩) rfl (Nat.le_of_ble_eq_true rfl) d_K_round_2 ⟨Nat.le_of_ble_eq_true rfl, Nat.le_of_ble_eq_true rfl⟩ rfl [0, 1] [] 0 rfl rfl rfl (by decide) rfl rfl rfl (by decide) (by decide) (fun w hp => ?_)
  subst hp
  show ZZ _ _ _ _ _ _ _ _ _ _ _ _ _ _ _ _ _ _ 5 [(0, .ref k), (1, .int (zI (u : Int))), (2, .int (zI ru)), (3, .long (zL uu))] [] [oK k h ka kz (ns : Int) kw (nw : Int) j kb a b d g, oH h hl hs (n : Int)]
  refine z_iload_n S d_K_round_5 2 rfl ?_
  refine z_if_lt (tgt := 15) S d_K_round_6 (by decide) (by omega) (fun c1 => ?_) (fun c1 => ?_)
  · skip
    exact absurd c1 (by omega)
  · skip
    refine z_iload_n S d_K_round_9 2 rfl ?_
    refine z_bipush S d_K_round_10 rfl ?_
    refine z_icmp_le (tgt := 25) S d_K_round_12 (by decide) (by omega) (by omega) (fun c2 => ?_) (fun c2 => ?_)
    · skip
      refine z_lload_n S d_K_round_25 3 rfl ?_
      refine z_lconst (z := 1) S d_K_round_26 rfl ?_
      refine z_lcmp_lt (tgt := 39) S d_K_round_27 d_K_round_28 (by decide) (by omega) (by omega) (fun c3 => ?_) (fun c3 => ?_)
      · skip
        omega
      · skip
        refine z_lload_n S d_K_round_31 3 rfl ?_
        refine z_ldc2 (v := 1000000000) (z := 1000000000) S k_K_115 d_K_round_32 (by decide) ?_
        refine z_lcmp_le (tgt := 49) S d_K_round_35 d_K_round_36 (by decide) (by omega) (by omega) (fun c4 => ?_) (fun c4 => ?_)
        · skip
          refine z_aload_n S d_K_round_49 0 rfl ?_
          refine z_iconst S d_K_round_50 ?_
          refine z_outV (As := [.int (zI 1)]) (st := []) (wc := [oK k h ka kz (ns : Int) kw (nw : Int) j kb a b d g, oH h hl hs (n : Int)]) (wr := []) S hGok hK hg hA hlo hAe htab (t_K_needRoomFor l dC dI cI cL qT hst k ka kz ns kw nw j kb a b d g h hl hs n 1 (by omega) (by omega) (by omega)) (zcwV S (List.mem_cons_of_mem _ k_K_60) mV_K_needRoomFor k_K_60 hd_K_needRoomFor rfl rfl ⟨Nat.le_of_ble_eq_true rfl, Nat.le_of_ble_eq_true rfl⟩) rfl (Nat.le_of_ble_eq_true rfl) d_K_round_51 ⟨Nat.le_of_ble_eq_true rfl, Nat.le_of_ble_eq_true rfl⟩ ⟨Nat.le_refl _, Nat.le_refl _⟩ rfl [0, 1] [] 0 rfl rfl rfl (by decide) rfl rfl rfl (by decide) (by decide) (fun w hp => ?_)
          subst hp
          exact ⟨[oK k h ka kz (ns : Int) kw (nw : Int) j kb a b d g, oH h hl hs (n : Int)], rfl, [0, 1], by decide, rfl⟩
        · skip
          omega
    · skip
      omega
set_option maxHeartbeats 4000000 in
set_option maxRecDepth 100000 in
theorem s_K_weight (l : Launch) (dC : Nat → ClassId) (dI : Nat → Nat → Nat) (cI cL : ClassId) (qT : Nat) (k : Nat) (ka : Nat) (kz : Nat) (ns : Nat) (kw : Nat) (nw : Nat) (j : Nat) (kb : Nat) (a : Nat) (b : Nat) (d : Nat) (g : Nat) (h : Nat) (we : Nat → Nat) (wt : Nat) (hw : wt ≤ 1000000000) (hnw : nw < 20) : Ct l y_K_weight (Cond.code y_K_weight c_K_weight 3 (some .int) :: zB) { frames := 6, cells := 0, slots := 0, locals := 110 } (dC, dI) zcl [(cI, .int), (cL, .long)] (zG cI cL qT) [.ref k, .long (zL (wt : Int))] [oK k h ka kz (ns : Int) kw (nw : Int) j kb a b d g, aL cL kw 20 (wA we)] (fun rv wv => rv = .int (zI ((nw + 1 : Nat) : Int)) ∧ wv = [oK k h ka kz (ns : Int) kw ((nw + 1 : Nat) : Int) j kb a b d g, aL cL kw 20 (wA (un we nw wt))]) 0 0 := by
  refine Cm.ofZ (cc := c_K_weight) (maxL := 3) (ret := (some .int)) (by decide) rfl (Nat.le_of_ble_eq_true rfl) rfl ?_
  intro p e s m below meth c A S hr hlo hnm hK hg hA hAe
  have hGok := zG_ok cI cL qT
  show ZZ _ _ _ _ _ _ _ _ _ _ _ _ _ _ _ _ _ _ 0 [(0, .ref k), (1, .long (zL (wt : Int)))] [] [oK k h ka kz (ns : Int) kw (nw : Int) j kb a b d g, aL cL kw 20 (wA we)]
  refine z_lload_n S d_K_weight_0 1 rfl ?_
  refine z_lconst (z := 0) S d_K_weight_1 rfl ?_
  refine z_lcmp_lt (tgt := 14) S d_K_weight_2 d_K_weight_3 (by decide) (by omega) (by omega) (fun c1 => ?_) (fun c1 => ?_)
  · skip
    omega
  · skip
    refine z_lload_n S d_K_weight_6 1 rfl ?_
    refine z_ldc2 (v := 1000000000) (z := 1000000000) S k_K_115 d_K_weight_7 (by decide) ?_
    refine z_lcmp_le (tgt := 24) S d_K_weight_10 d_K_weight_11 (by decide) (by omega) (by omega) (fun c2 => ?_) (fun c2 => ?_)
    · skip
      refine z_aload_n S d_K_weight_24 0 rfl ?_
      refine z_get S hK la_K 0 rfl rfl 5 (by decide) k_K_31 rfl d_K_weight_25 ?_
      refine z_bipush S d_K_weight_28 rfl ?_
      refine z_icmp_lt (tgt := 43) S d_K_weight_30 (by decide) (by omega) (by omega) (fun c3 => ?_) (fun c3 => ?_)
      · skip
        refine z_aload_n S d_K_weight_43 0 rfl ?_
        refine z_get S hK la_K 0 rfl rfl 4 (by decide) k_K_27 rfl d_K_weight_44 ?_
        refine z_aload_n S d_K_weight_47 0 rfl ?_
        refine z_get S hK la_K 0 rfl rfl 5 (by decide) k_K_31 rfl d_K_weight_48 ?_
        refine z_lload_n S d_K_weight_51 1 rfl ?_
        refine z_last (f' := wA (un we nw wt)) (ws' := [oK k h ka kz (ns : Int) kw (nw : Int) j kb a b d g, aL cL kw 20 (wA (un we nw wt))]) S hK 1 1 rfl rfl nw rfl (by omega) (by decide) (wA_u rfl) rfl d_K_weight_52 ?_
        refine z_aload_n S d_K_weight_53 0 rfl ?_
        refine z_dup S d_K_weight_54 rfl ?_
        refine z_get S hK la_K 0 rfl rfl 5 (by decide) k_K_31 rfl d_K_weight_55 ?_
        refine z_iconst S d_K_weight_58 ?_
        refine z_iadd S d_K_weight_59 ?_
        refine z_put (ws' := [oK k h ka kz (ns : Int) kw ((nw : Int) + 1) j kb a b d g, aL cL kw 20 (wA (un we nw wt))]) S hK la_K ty_K tyok_K nm_K 0 rfl rfl 5 (by decide) k_K_31 rfl (ty := .int) (by decide +kernel) rfl rfl (Nat.le_of_ble_eq_true rfl) rfl d_K_weight_60 ?_
        refine z_wq (ws' := [oK k h ka kz (ns : Int) kw ((nw + 1 : Nat) : Int) j kb a b d g, aL cL kw 20 (wA (un we nw wt))]) (by rw [show (nw : Int) + 1 = ((nw + 1 : Nat) : Int) by omega]) ?_
        refine z_aload_n S d_K_weight_63 0 rfl ?_
        refine z_get S hK la_K 0 rfl rfl 5 (by decide) k_K_31 rfl d_K_weight_64 ?_
        exact z_iret (w := [oK k h ka kz (ns : Int) kw ((nw + 1 : Nat) : Int) j kb a b d g, aL cL kw 20 (wA (un we nw wt))]) S hr hlo hAe d_K_weight_67 [0, 1] (by decide) rfl rfl ⟨Nat.le_refl _, Nat.le_refl _⟩ (⟨rfl, rfl⟩)
      · skip
        omega
    · skip
      omega
set_option maxHeartbeats 4000000 in
set_option maxRecDepth 100000 in
theorem t1_K_weight (l : Launch) (dC : Nat → ClassId) (dI : Nat → Nat → Nat) (cI cL : ClassId) (qT : Nat) (hst : l.stackTraces = false) (k : Nat) (ka : Nat) (kz : Nat) (ns : Nat) (kw : Nat) (nw : Nat) (j : Nat) (kb : Nat) (a : Nat) (b : Nat) (d : Nat) (g : Nat) (h : Nat) (wt : Int) (hwr : -9223372036854775808 ≤ wt ∧ wt < 9223372036854775808) (hw : ¬ (0 ≤ wt ∧ wt ≤ 1000000000)) : Tm l y_K_weight (Cond.code y_K_weight c_K_weight 3 (some .int) :: zB) { frames := 6, cells := 1, slots := 6, locals := 110 } (dC, dI) zcl [(cI, .int), (cL, .long)] (zG cI cL qT) [.ref k, .long (zL wt)] [oK k h ka kz (ns : Int) kw (nw : Int) j kb a b d g] "java/lang/IllegalArgumentException" (fun wv => wv = [oK k h ka kz (ns : Int) kw (nw : Int) j kb a b d g]) 1 6 := by
  refine Tm.ofZ (cc := c_K_weight) (maxL := 3) (ret := (some .int)) (by decide) rfl (Nat.le_of_ble_eq_true rfl) rfl ?_
  intro p e s m below meth c A S hr hlo hnm hK hg hA hAe htab
  have hGok := zG_ok cI cL qT
  show ZZ _ _ _ _ _ _ _ _ _ _ _ _ _ _ _ _ _ _ 0 [(0, .ref k), (1, .long (zL wt))] [] [oK k h ka kz (ns : Int) kw (nw : Int) j kb a b d g]
  refine z_lload_n S d_K_weight_0 1 rfl ?_
  refine z_lconst (z := 0) S d_K_weight_1 rfl ?_
  refine z_lcmp_lt (tgt := 14) S d_K_weight_2 d_K_weight_3 (by decide) (by omega) (by omega) (fun c1 => ?_) (fun c1 => ?_)
  · skip
    exact z_throwS (w := [oK k h ka kz (ns : Int) kw (nw : Int) j kb a b d g]) S hst hg hlo hAe htab tw_121 k_K_117 (List.mem_of_getElem? (i := 10) rfl) d_K_weight_14 d_K_weight_17 d_K_weight_18 d_K_weight_20 d_K_weight_23 (Nat.le_of_ble_eq_true rfl) (Nat.le_of_ble_eq_true rfl) ⟨Nat.le_of_ble_eq_true rfl, Nat.le_of_ble_eq_true rfl⟩ ⟨Nat.le_refl _, Nat.le_refl _⟩ [0] (by decide) rfl (rfl)
  · skip
    refine z_lload_n S d_K_weight_6 1 rfl ?_
    refine z_ldc2 (v := 1000000000) (z := 1000000000) S k_K_115 d_K_weight_7 (by decide) ?_
    refine z_lcmp_le (tgt := 24) S d_K_weight_10 d_K_weight_11 (by decide) (by omega) (by omega) (fun c2 => ?_) (fun c2 => ?_)
    · skip
      omega
    · skip
      exact z_throwS (w := [oK k h ka kz (ns : Int) kw (nw : Int) j kb a b d g]) S hst hg hlo hAe htab tw_121 k_K_117 (List.mem_of_getElem? (i := 10) rfl) d_K_weight_14 d_K_weight_17 d_K_weight_18 d_K_weight_20 d_K_weight_23 (Nat.le_of_ble_eq_true rfl) (Nat.le_of_ble_eq_true rfl) ⟨Nat.le_of_ble_eq_true rfl, Nat.le_of_ble_eq_true rfl⟩ ⟨Nat.le_refl _, Nat.le_refl _⟩ [0] (by decide) rfl (rfl)
set_option maxHeartbeats 4000000 in
set_option maxRecDepth 100000 in
theorem t2_K_weight (l : Launch) (dC : Nat → ClassId) (dI : Nat → Nat → Nat) (cI cL : ClassId) (qT : Nat) (hst : l.stackTraces = false) (k : Nat) (ka : Nat) (kz : Nat) (ns : Nat) (kw : Nat) (nw : Nat) (j : Nat) (kb : Nat) (a : Nat) (b : Nat) (d : Nat) (g : Nat) (h : Nat) (wt : Int) (hw : 0 ≤ wt ∧ wt ≤ 1000000000) (hnw : nw = 20) : Tm l y_K_weight (Cond.code y_K_weight c_K_weight 3 (some .int) :: zB) { frames := 6, cells := 1, slots := 6, locals := 110 } (dC, dI) zcl [(cI, .int), (cL, .long)] (zG cI cL qT) [.ref k, .long (zL wt)] [oK k h ka kz (ns : Int) kw (nw : Int) j kb a b d g] "java/lang/UnsupportedOperationException" (fun wv => wv = [oK k h ka kz (ns : Int) kw (nw : Int) j kb a b d g]) 1 6 := by
  refine Tm.ofZ (cc := c_K_weight) (maxL := 3) (ret := (some .int)) (by decide) rfl (Nat.le_of_ble_eq_true rfl) rfl ?_
  intro p e s m below meth c A S hr hlo hnm hK hg hA hAe htab
  have hGok := zG_ok cI cL qT
  show ZZ _ _ _ _ _ _ _ _ _ _ _ _ _ _ _ _ _ _ 0 [(0, .ref k), (1, .long (zL wt))] [] [oK k h ka kz (ns : Int) kw (nw : Int) j kb a b d g]
  refine z_lload_n S d_K_weight_0 1 rfl ?_
  refine z_lconst (z := 0) S d_K_weight_1 rfl ?_
  refine z_lcmp_lt (tgt := 14) S d_K_weight_2 d_K_weight_3 (by decide) (by omega) (by omega) (fun c1 => ?_) (fun c1 => ?_)
  · skip
    omega
  · skip
    refine z_lload_n S d_K_weight_6 1 rfl ?_
    refine z_ldc2 (v := 1000000000) (z := 1000000000) S k_K_115 d_K_weight_7 (by decide) ?_
    refine z_lcmp_le (tgt := 24) S d_K_weight_10 d_K_weight_11 (by decide) (by omega) (by omega) (fun c2 => ?_) (fun c2 => ?_)
    · skip
      refine z_aload_n S d_K_weight_24 0 rfl ?_
      refine z_get S hK la_K 0 rfl rfl 5 (by decide) k_K_31 rfl d_K_weight_25 ?_
      refine z_bipush S d_K_weight_28 rfl ?_
      refine z_icmp_lt (tgt := 43) S d_K_weight_30 (by decide) (by omega) (by omega) (fun c3 => ?_) (fun c3 => ?_)
      · skip
        omega
      · skip
        exact z_throwS (w := [oK k h ka kz (ns : Int) kw (nw : Int) j kb a b d g]) S hst hg hlo hAe htab tw_134 k_K_130 (List.mem_of_getElem? (i := 11) rfl) d_K_weight_33 d_K_weight_36 d_K_weight_37 d_K_weight_39 d_K_weight_42 (Nat.le_of_ble_eq_true rfl) (Nat.le_of_ble_eq_true rfl) ⟨Nat.le_of_ble_eq_true rfl, Nat.le_of_ble_eq_true rfl⟩ ⟨Nat.le_refl _, Nat.le_refl _⟩ [0] (by decide) rfl (rfl)
    · skip
      omega
