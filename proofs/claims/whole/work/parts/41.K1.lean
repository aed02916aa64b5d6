set_option maxHeartbeats 4000000 in
set_option maxRecDepth 100000 in
theorem s_K_needValue (l : Launch) (dC : Nat → ClassId) (dI : Nat → Nat → Nat) (cI cL : ClassId) (qT : Nat) (k : Nat) (ka : Nat) (kz : Nat) (ns : Nat) (kw : Nat) (nw : Nat) (j : Nat) (kb : Nat) (a : Nat) (b : Nat) (d : Nat) (g : Nat) (h : Nat) (hl : Nat) (hs : Nat) (n : Nat) (u : Int) (hn : n ≤ 100) (hu : 0 ≤ u ∧ u < (n : Int)) : Cv l y_K_needValue (Cond.code y_K_needValue c_K_needValue 2 none :: zB) { frames := 6, cells := 0, slots := 0, locals := 110 } (dC, dI) zcl [(cI, .int), (cL, .long)] (zG cI cL qT) [.ref k, .int (zI u)] [oK k h ka kz (ns : Int) kw (nw : Int) j kb a b d g, oH h hl hs (n : Int)] (fun wv => wv = [oK k h ka kz (ns : Int) kw (nw : Int) j kb a b d g, oH h hl hs (n : Int)]) 0 0 := by
  refine Cm.ofZ (cc := c_K_needValue) (maxL := 2) (ret := none) (by decide) rfl (Nat.le_of_ble_eq_true rfl) rfl ?_
  intro p e s m below meth c A S hr hlo hnm hK hg hA hAe
  have hGok := zG_ok cI cL qT
  show ZZ _ _ _ _ _ _ _ _ _ _ _ _ _ _ _ _ _ _ 0 [(0, .ref k), (1, .int (zI u))] [] [oK k h ka kz (ns : Int) kw (nw : Int) j kb a b d g, oH h hl hs (n : Int)]
  have hb := b2_t (P := 0 ≤ u ∧ u < (n : Int)) hu
  have hbr := b2_r (0 ≤ u ∧ u < (n : Int))
  refine z_aload_n S d_K_needValue_0 0 rfl ?_
  refine z_get S hK la_K 0 rfl rfl 0 (by decide) k_K_10 rfl d_K_needValue_1 ?_
  refine z_iload_n S d_K_needValue_4 1 rfl ?_
  refine z_callVa (As := [.int (zI u)]) (st := []) (wc := [oH h hl hs (n : Int)]) (wr := [oK k h ka kz (ns : Int) kw (nw : Int) j kb a b d g]) S hGok hK hg hA (s_H_has l dC dI cI cL qT h hl hs n u (by omega) (by omega)) (zcwV S (List.mem_cons_of_mem _ k_K_199) mV_H_has k_K_199 hd_H_has rfl rfl ⟨Nat.le_of_ble_eq_true rfl, Nat.le_of_ble_eq_true rfl⟩) rfl (Nat.le_of_ble_eq_true rfl) d_K_needValue_5 ⟨Nat.le_of_ble_eq_true rfl, Nat.le_of_ble_eq_true rfl⟩ rfl [1] [0] 1 rfl rfl rfl (by decide) rfl rfl rfl (by decide) (by decide) (fun x w hp => ?_)
  obtain ⟨rfl, rfl⟩ := hp
  show ZZ _ _ _ _ _ _ _ _ _ _ _ _ _ _ _ _ _ _ 8 [(0, .ref k), (1, .int (zI u))] [.int (zI (b2 (0 ≤ u ∧ u < (n : Int))))] [oK k h ka kz (ns : Int) kw (nw : Int) j kb a b d g, oH h hl hs (n : Int)]
  refine z_if_ne (tgt := 21) S d_K_needValue_8 (by decide) (by omega) (fun c1 => ?_) (fun c1 => ?_)
  · skip
    exact z_vret (w := [oK k h ka kz (ns : Int) kw (nw : Int) j kb a b d g, oH h hl hs (n : Int)]) S hr hlo hAe d_K_needValue_21 [0, 1] (by decide) rfl rfl ⟨Nat.le_refl _, Nat.le_refl _⟩ (rfl)
  · skip
    exact absurd c1 (by omega)
set_option maxHeartbeats 4000000 in
set_option maxRecDepth 100000 in
theorem t_K_needValue (l : Launch) (dC : Nat → ClassId) (dI : Nat → Nat → Nat) (cI cL : ClassId) (qT : Nat) (hst : l.stackTraces = false) (k : Nat) (ka : Nat) (kz : Nat) (ns : Nat) (kw : Nat) (nw : Nat) (j : Nat) (kb : Nat) (a : Nat) (b : Nat) (d : Nat) (g : Nat) (h : Nat) (hl : Nat) (hs : Nat) (n : Nat) (u : Int) (hn : n ≤ 100) (hur : -2147483648 ≤ u ∧ u < 2147483648) (hu : ¬ (0 ≤ u ∧ u < (n : Int))) : Tm l y_K_needValue (Cond.code y_K_needValue c_K_needValue 2 none :: zB) { frames := 6, cells := 1, slots := 6, locals := 110 } (dC, dI) zcl [(cI, .int), (cL, .long)] (zG cI cL qT) [.ref k, .int (zI u)] [oK k h ka kz (ns : Int) kw (nw : Int) j kb a b d g, oH h hl hs (n : Int)] "java/lang/IndexOutOfBoundsException" (fun wv => wv = [oK k h ka kz (ns : Int) kw (nw : Int) j kb a b d g, oH h hl hs (n : Int)]) 1 6 := by
  refine Tm.ofZ (cc := c_K_needValue) (maxL := 2) (ret := none) (by decide) rfl (Nat.le_of_ble_eq_true rfl) rfl ?_
  intro p e s m below meth c A S hr hlo hnm hK hg hA hAe htab
  have hGok := zG_ok cI cL qT
  show ZZ _ _ _ _ _ _ _ _ _ _ _ _ _ _ _ _ _ _ 0 [(0, .ref k), (1, .int (zI u))] [] [oK k h ka kz (ns : Int) kw (nw : Int) j kb a b d g, oH h hl hs (n : Int)]
  have hb := b2_f (P := 0 ≤ u ∧ u < (n : Int)) hu
  have hbr := b2_r (0 ≤ u ∧ u < (n : Int))
  refine z_aload_n S d_K_needValue_0 0 rfl ?_
  refine z_get S hK la_K 0 rfl rfl 0 (by decide) k_K_10 rfl d_K_needValue_1 ?_
  refine z_iload_n S d_K_needValue_4 1 rfl ?_
  refine z_callVa (As := [.int (zI u)]) (st := []) (wc := [oH h hl hs (n : Int)]) (wr := [oK k h ka kz (ns : Int) kw (nw : Int) j kb a b d g]) S hGok hK hg hA (s_H_has l dC dI cI cL qT h hl hs n u (by omega) (by omega)) (zcwV S (List.mem_cons_of_mem _ k_K_199) mV_H_has k_K_199 hd_H_has rfl rfl ⟨Nat.le_of_ble_eq_true rfl, Nat.le_of_ble_eq_true rfl⟩) rfl (Nat.le_of_ble_eq_true rfl) d_K_needValue_5 ⟨Nat.le_of_ble_eq_true rfl, Nat.le_of_ble_eq_true rfl⟩ rfl [1] [0] 1 rfl rfl rfl (by decide) rfl rfl rfl (by decide) (by decide) (fun x w hp => ?_)
  obtain ⟨rfl, rfl⟩ := hp
  show ZZ _ _ _ _ _ _ _ _ _ _ _ _ _ _ _ _ _ _ 8 [(0, .ref k), (1, .int (zI u))] [.int (zI (b2 (0 ≤ u ∧ u < (n : Int))))] [oK k h ka kz (ns : Int) kw (nw : Int) j kb a b d g, oH h hl hs (n : Int)]
  refine z_if_ne (tgt := 21) S d_K_needValue_8 (by decide) (by omega) (fun c1 => ?_) (fun c1 => ?_)
  · skip
    exact absurd c1 (by omega)
  · skip
    exact z_throwS (w := [oK k h ka kz (ns : Int) kw (nw : Int) j kb a b d g, oH h hl hs (n : Int)]) S hst hg hlo hAe htab tw_114 k_K_110 (List.mem_of_getElem? (i := 2) rfl) d_K_needValue_11 d_K_needValue_14 d_K_needValue_15 d_K_needValue_17 d_K_needValue_20 (Nat.le_of_ble_eq_true rfl) (Nat.le_of_ble_eq_true rfl) ⟨Nat.le_of_ble_eq_true rfl, Nat.le_of_ble_eq_true rfl⟩ ⟨Nat.le_refl _, Nat.le_refl _⟩ [0, 1] (by decide) rfl (rfl)
set_option maxHeartbeats 4000000 in
set_option maxRecDepth 100000 in
theorem s_K_needRoomFor (l : Launch) (dC : Nat → ClassId) (dI : Nat → Nat → Nat) (cI cL : ClassId) (qT : Nat) (k : Nat) (ka : Nat) (kz : Nat) (ns : Nat) (kw : Nat) (nw : Nat) (j : Nat) (kb : Nat) (a : Nat) (b : Nat) (d : Nat) (g : Nat) (h : Nat) (hl : Nat) (hs : Nat) (n : Nat) (t : Nat) (hn : n ≤ 100) (ht : t ≤ 2) (hu : n + t ≤ 100) : Cv l y_K_needRoomFor (Cond.code y_K_needRoomFor c_K_needRoomFor 2 none :: zB) { frames := 6, cells := 0, slots := 0, locals := 110 } (dC, dI) zcl [(cI, .int), (cL, .long)] (zG cI cL qT) [.ref k, .int (zI (t : Int))] [oK k h ka kz (ns : Int) kw (nw : Int) j kb a b d g, oH h hl hs (n : Int)] (fun wv => wv = [oK k h ka kz (ns : Int) kw (nw : Int) j kb a b d g, oH h hl hs (n : Int)]) 0 0 := by
  refine Cm.ofZ (cc := c_K_needRoomFor) (maxL := 2) (ret := none) (by decide) rfl (Nat.le_of_ble_eq_true rfl) rfl ?_
  intro p e s m below meth c A S hr hlo hnm hK hg hA hAe
  have hGok := zG_ok cI cL qT
  show ZZ _ _ _ _ _ _ _ _ _ _ _ _ _ _ _ _ _ _ 0 [(0, .ref k), (1, .int (zI (t : Int)))] [] [oK k h ka kz (ns : Int) kw (nw : Int) j kb a b d g, oH h hl hs (n : Int)]
  have hb := b2_t (P := n + t ≤ 100) hu
  have hbr := b2_r (n + t ≤ 100)
  refine z_aload_n S d_K_needRoomFor_0 0 rfl ?_
  refine z_get S hK la_K 0 rfl rfl 0 (by decide) k_K_10 rfl d_K_needRoomFor_1 ?_
  refine z_iload_n S d_K_needRoomFor_4 1 rfl ?_
  refine z_callVa (As := [.int (zI (t : Int))]) (st := []) (wc := [oH h hl hs (n : Int)]) (wr := [oK k h ka kz (ns : Int) kw (nw : Int) j kb a b d g]) S hGok hK hg hA (s_H_hasRoomFor l dC dI cI cL qT h hl hs n t (by omega) (by omega)) (zcwV S (List.mem_cons_of_mem _ k_K_207) mV_H_hasRoomFor k_K_207 hd_H_hasRoomFor rfl rfl ⟨Nat.le_of_ble_eq_true rfl, Nat.le_of_ble_eq_true rfl⟩) rfl (Nat.le_of_ble_eq_true rfl) d_K_needRoomFor_5 ⟨Nat.le_of_ble_eq_true rfl, Nat.le_of_ble_eq_true rfl⟩ rfl [1] [0] 1 rfl rfl rfl (by decide) rfl rfl rfl (by decide) (by decide) (fun x w hp => ?_)
  obtain ⟨rfl, rfl⟩ := hp
  show ZZ _ _ _ _ _ _ _ _ _ _ _ _ _ _ _ _ _ _ 8 [(0, .ref k), (1, .int (zI (t : Int)))] [.int (zI (b2 (n + t ≤ 100)))] [oK k h ka kz (ns : Int) kw (nw : Int) j kb a b d g, oH h hl hs (n : Int)]
  refine z_if_ne (tgt := 21) S d_K_needRoomFor_8 (by decide) (by omega) (fun c1 => ?_) (fun c1 => ?_)
  · skip
    exact z_vret (w := [oK k h ka kz (ns : Int) kw (nw : Int) j kb a b d g, oH h hl hs (n : Int)]) S hr hlo hAe d_K_needRoomFor_21 [0, 1] (by decide) rfl rfl ⟨Nat.le_refl _, Nat.le_refl _⟩ (rfl)
  · skip
    exact absurd c1 (by omega)
set_option maxHeartbeats 4000000 in
set_option maxRecDepth 100000 in
theorem t_K_needRoomFor (l : Launch) (dC : Nat → ClassId) (dI : Nat → Nat → Nat) (cI cL : ClassId) (qT : Nat) (hst : l.stackTraces = false) (k : Nat) (ka : Nat) (kz : Nat) (ns : Nat) (kw : Nat) (nw : Nat) (j : Nat) (kb : Nat) (a : Nat) (b : Nat) (d : Nat) (g : Nat) (h : Nat) (hl : Nat) (hs : Nat) (n : Nat) (t : Nat) (hn : n ≤ 100) (ht : t ≤ 2) (hu : ¬ n + t ≤ 100) : Tm l y_K_needRoomFor (Cond.code y_K_needRoomFor c_K_needRoomFor 2 none :: zB) { frames := 6, cells := 1, slots := 6, locals := 110 } (dC, dI) zcl [(cI, .int), (cL, .long)] (zG cI cL qT) [.ref k, .int (zI (t : Int))] [oK k h ka kz (ns : Int) kw (nw : Int) j kb a b d g, oH h hl hs (n : Int)] "java/lang/UnsupportedOperationException" (fun wv => wv = [oK k h ka kz (ns : Int) kw (nw : Int) j kb a b d g, oH h hl hs (n : Int)]) 1 6 := by
  refine Tm.ofZ (cc := c_K_needRoomFor) (maxL := 2) (ret := none) (by decide) rfl (Nat.le_of_ble_eq_true rfl) rfl ?_
  intro p e s m below meth c A S hr hlo hnm hK hg hA hAe htab
  have hGok := zG_ok cI cL qT
  show ZZ _ _ _ _ _ _ _ _ _ _ _ _ _ _ _ _ _ _ 0 [(0, .ref k), (1, .int (zI (t : Int)))] [] [oK k h ka kz (ns : Int) kw (nw : Int) j kb a b d g, oH h hl hs (n : Int)]
  have hb := b2_f (P := n + t ≤ 100) hu
  have hbr := b2_r (n + t ≤ 100)
  refine z_aload_n S d_K_needRoomFor_0 0 rfl ?_
  refine z_get S hK la_K 0 rfl rfl 0 (by decide) k_K_10 rfl d_K_needRoomFor_1 ?_
  refine z_iload_n S d_K_needRoomFor_4 1 rfl ?_
  refine z_callVa (As := [.int (zI (t : Int))]) (st := []) (wc := [oH h hl hs (n : Int)]) (wr := [oK k h ka kz (ns : Int) kw (nw : Int) j kb a b d g]) S hGok hK hg hA (s_H_hasRoomFor l dC dI cI cL qT h hl hs n t (by omega) (by omega)) (zcwV S (List.mem_cons_of_mem _ k_K_207) mV_H_hasRoomFor k_K_207 hd_H_hasRoomFor rfl rfl ⟨Nat.le_of_ble_eq_true rfl, Nat.le_of_ble_eq_true rfl⟩) rfl (Nat.le_of_ble_eq_true rfl) d_K_needRoomFor_5 ⟨Nat.le_of_ble_eq_true rfl, Nat.le_of_ble_eq_true rfl⟩ rfl [1] [0] 1 rfl rfl rfl (by decide) rfl rfl rfl (by decide) (by decide) (fun x w hp => ?_)
  obtain ⟨rfl, rfl⟩ := hp
  show ZZ _ _ _ _ _ _ _ _ _ _ _ _ _ _ _ _ _ _ 8 [(0, .ref k), (1, .int (zI (t : Int)))] [.int (zI (b2 (n + t ≤ 100)))] [oK k h ka kz (ns : Int) kw (nw : Int) j kb a b d g, oH h hl hs (n : Int)]
  refine z_if_ne (tgt := 21) S d_K_needRoomFor_8 (by decide) (by omega) (fun c1 => ?_) (fun c1 => ?_)
  · skip
    exact absurd c1 (by omega)
  · skip
    exact z_throwS (w := [oK k h ka kz (ns : Int) kw (nw : Int) j kb a b d g, oH h hl hs (n : Int)]) S hst hg hlo hAe htab tw_134 k_K_130 (List.mem_of_getElem? (i := 0) rfl) d_K_needRoomFor_11 d_K_needRoomFor_14 d_K_needRoomFor_15 d_K_needRoomFor_17 d_K_needRoomFor_20 (Nat.le_of_ble_eq_true rfl) (Nat.le_of_ble_eq_true rfl) ⟨Nat.le_of_ble_eq_true rfl, Nat.le_of_ble_eq_true rfl⟩ ⟨Nat.le_refl _, Nat.le_refl _⟩ [0, 1] (by decide) rfl (rfl)
set_option maxHeartbeats 4000000 in
set_option maxRecDepth 100000 in
theorem s_K_needSpan (l : Launch) (dC : Nat → ClassId) (dI : Nat → Nat → Nat) (cI cL : ClassId) (qT : Nat) (k : Nat) (ka : Nat) (kz : Nat) (ns : Nat) (kw : Nat) (nw : Nat) (j : Nat) (kb : Nat) (a : Nat) (b : Nat) (d : Nat) (g : Nat) (h : Nat) (u : Int) (hns : ns ≤ 30) (hu : 0 ≤ u ∧ u < (ns : Int)) : Cv l y_K_needSpan (Cond.code y_K_needSpan c_K_needSpan 2 none :: zB) { frames := 6, cells := 0, slots := 0, locals := 110 } (dC, dI) zcl [(cI, .int), (cL, .long)] (zG cI cL qT) [.ref k, .int (zI u)] [oK k h ka kz (ns : Int) kw (nw : Int) j kb a b d g] (fun wv => wv = [oK k h ka kz (ns : Int) kw (nw : Int) j kb a b d g]) 0 0 := by
  refine Cm.ofZ (cc := c_K_needSpan) (maxL := 2) (ret := none) (by decide) rfl (Nat.le_of_ble_eq_true rfl) rfl ?_
  intro p e s m below meth c A S hr hlo hnm hK hg hA hAe
  have hGok := zG_ok cI cL qT
  show ZZ _ _ _ _ _ _ _ _ _ _ _ _ _ _ _ _ _ _ 0 [(0, .ref k), (1, .int (zI u))] [] [oK k h ka kz (ns : Int) kw (nw : Int) j kb a b d g]
  refine z_iload_n S d_K_needSpan_0 1 rfl ?_
  refine z_if_lt (tgt := 12) S d_K_needSpan_1 (by decide) (by omega) (fun c1 => ?_) (fun c1 => ?_)
  · skip
    exact absurd c1 (by omega)
  · skip
    refine z_iload_n S d_K_needSpan_4 1 rfl ?_
    refine z_aload_n S d_K_needSpan_5 0 rfl ?_
    refine z_get S hK la_K 0 rfl rfl 3 (by decide) k_K_23 rfl d_K_needSpan_6 ?_
    refine z_icmp_lt (tgt := 22) S d_K_needSpan_9 (by decide) (by omega) (by omega) (fun c2 => ?_) (fun c2 => ?_)
    · skip
      exact z_vret (w := [oK k h ka kz (ns : Int) kw (nw : Int) j kb a b d g]) S hr hlo hAe d_K_needSpan_22 [0] (by decide) rfl rfl ⟨Nat.le_refl _, Nat.le_refl _⟩ (rfl)
    · skip
      omega
set_option maxHeartbeats 4000000 in
set_option maxRecDepth 100000 in
theorem t_K_needSpan (l : Launch) (dC : Nat → ClassId) (dI : Nat → Nat → Nat) (cI cL : ClassId) (qT : Nat) (hst : l.stackTraces = false) (k : Nat) (ka : Nat) (kz : Nat) (ns : Nat) (kw : Nat) (nw : Nat) (j : Nat) (kb : Nat) (a : Nat) (b : Nat) (d : Nat) (g : Nat) (h : Nat) (u : Int) (hns : ns ≤ 30) (hur : -2147483648 ≤ u ∧ u < 2147483648) (hu : ¬ (0 ≤ u ∧ u < (ns : Int))) : Tm l y_K_needSpan (Cond.code y_K_needSpan c_K_needSpan 2 none :: zB) { frames := 6, cells := 1, slots := 6, locals := 110 } (dC, dI) zcl [(cI, .int), (cL, .long)] (zG cI cL qT) [.ref k, .int (zI u)] [oK k h ka kz (ns : Int) kw (nw : Int) j kb a b d g] "java/lang/IndexOutOfBoundsException" (fun wv => wv = [oK k h ka kz (ns : Int) kw (nw : Int) j kb a b d g]) 1 6 := by
  refine Tm.ofZ (cc := c_K_needSpan) (maxL := 2) (ret := none) (by decide) rfl (Nat.le_of_ble_eq_true rfl) rfl ?_
  intro p e s m below meth c A S hr hlo hnm hK hg hA hAe htab
  have hGok := zG_ok cI cL qT
  show ZZ _ _ _ _ _ _ _ _ _ _ _ _ _ _ _ _ _ _ 0 [(0, .ref k), (1, .int (zI u))] [] [oK k h ka kz (ns : Int) kw (nw : Int) j kb a b d g]
  refine z_iload_n S d_K_needSpan_0 1 rfl ?_
  refine z_if_lt (tgt := 12) S d_K_needSpan_1 (by decide) (by omega) (fun c1 => ?_) (fun c1 => ?_)
  · skip
    exact z_throwS (w := [oK k h ka kz (ns : Int) kw (nw : Int) j kb a b d g]) S hst hg hlo hAe htab tw_114 k_K_110 (List.mem_of_getElem? (i := 8) rfl) d_K_needSpan_12 d_K_needSpan_15 d_K_needSpan_16 d_K_needSpan_18 d_K_needSpan_21 (Nat.le_of_ble_eq_true rfl) (Nat.le_of_ble_eq_true rfl) ⟨Nat.le_of_ble_eq_true rfl, Nat.le_of_ble_eq_true rfl⟩ ⟨Nat.le_refl _, Nat.le_refl _⟩ [0] (by decide) rfl (rfl)
  · skip
    refine z_iload_n S d_K_needSpan_4 1 rfl ?_
    refine z_aload_n S d_K_needSpan_5 0 rfl ?_
    refine z_get S hK la_K 0 rfl rfl 3 (by decide) k_K_23 rfl d_K_needSpan_6 ?_
    refine z_icmp_lt (tgt := 22) S d_K_needSpan_9 (by decide) (by omega) (by omega) (fun c2 => ?_) (fun c2 => ?_)
    · skip
      omega
    · skip
      exact z_throwS (w := [oK k h ka kz (ns : Int) kw (nw : Int) j kb a b d g]) S hst hg hlo hAe htab tw_114 k_K_110 (List.mem_of_getElem? (i := 8) rfl) d_K_needSpan_12 d_K_needSpan_15 d_K_needSpan_16 d_K_needSpan_18 d_K_needSpan_21 (Nat.le_of_ble_eq_true rfl) (Nat.le_of_ble_eq_true rfl) ⟨Nat.le_of_ble_eq_true rfl, Nat.le_of_ble_eq_true rfl⟩ ⟨Nat.le_refl _, Nat.le_refl _⟩ [0] (by decide) rfl (rfl)
set_option maxHeartbeats 4000000 in
set_option maxRecDepth 100000 in
theorem s_K_needRoomForSpan (l : Launch) (dC : Nat → ClassId) (dI : Nat → Nat → Nat) (cI cL : ClassId) (qT : Nat) (k : Nat) (ka : Nat) (kz : Nat) (ns : Nat) (kw : Nat) (nw : Nat) (j : Nat) (kb : Nat) (a : Nat) (b : Nat) (d : Nat) (g : Nat) (h : Nat) (hns : ns ≤ 30) (hu : ns < 30) : Cv l y_K_needRoomForSpan (Cond.code y_K_needRoomForSpan c_K_needRoomForSpan 1 none :: zB) { frames := 6, cells := 0, slots := 0, locals := 110 } (dC, dI) zcl [(cI, .int), (cL, .long)] (zG cI cL qT) [.ref k] [oK k h ka kz (ns : Int) kw (nw : Int) j kb a b d g] (fun wv => wv = [oK k h ka kz (ns : Int) kw (nw : Int) j kb a b d g]) 0 0 := by
  refine Cm.ofZ (cc := c_K_needRoomForSpan) (maxL := 1) (ret := none) (by decide) rfl (Nat.le_of_ble_eq_true rfl) rfl ?_
  intro p e s m below meth c A S hr hlo hnm hK hg hA hAe
  have hGok := zG_ok cI cL qT
  show ZZ _ _ _ _ _ _ _ _ _ _ _ _ _ _ _ _ _ _ 0 [(0, .ref k)] [] [oK k h ka kz (ns : Int) kw (nw : Int) j kb a b d g]
  refine z_aload_n S d_K_needRoomForSpan_0 0 rfl ?_
  refine z_get S hK la_K 0 rfl rfl 3 (by decide) k_K_23 rfl d_K_needRoomForSpan_1 ?_
  refine z_bipush S d_K_needRoomForSpan_4 rfl ?_
  refine z_icmp_lt (tgt := 19) S d_K_needRoomForSpan_6 (by decide) (by omega) (by omega) (fun c1 => ?_) (fun c1 => ?_)
  · skip
    exact z_vret (w := [oK k h ka kz (ns : Int) kw (nw : Int) j kb a b d g]) S hr hlo hAe d_K_needRoomForSpan_19 [0] (by decide) rfl rfl ⟨Nat.le_refl _, Nat.le_refl _⟩ (rfl)
  · skip
    omega
set_option maxHeartbeats 4000000 in
set_option maxRecDepth 100000 in
theorem t_K_needRoomForSpan (l : Launch) (dC : Nat → ClassId) (dI : Nat → Nat → Nat) (cI cL : ClassId) (qT : Nat) (hst : l.stackTraces = false) (k : Nat) (ka : Nat) (kz : Nat) (ns : Nat) (kw : Nat) (nw : Nat) (j : Nat) (kb : Nat) (a : Nat) (b : Nat) (d : Nat) (g : Nat) (h : Nat) (hns : ns ≤ 30) (hu : ¬ ns < 30) : Tm l y_K_needRoomForSpan (Cond.code y_K_needRoomForSpan c_K_needRoomForSpan 1 none :: zB) { frames := 6, cells := 1, slots := 6, locals := 110 } (dC, dI) zcl [(cI, .int), (cL, .long)] (zG cI cL qT) [.ref k] [oK k h ka kz (ns : Int) kw (nw : Int) j kb a b d g] "java/lang/UnsupportedOperationException" (fun wv => wv = [oK k h ka kz (ns : Int) kw (nw : Int) j kb a b d g]) 1 6 := by
  refine Tm.ofZ (cc := c_K_needRoomForSpan) (maxL := 1) (ret := none) (by decide) rfl (Nat.le_of_ble_eq_true rfl) rfl ?_
  intro p e s m below meth c A S hr hlo hnm hK hg hA hAe htab
  have hGok := zG_ok cI cL qT
  show ZZ _ _ _ _ _ _ _ _ _ _ _ _ _ _ _ _ _ _ 0 [(0, .ref k)] [] [oK k h ka kz (ns : Int) kw (nw : Int) j kb a b d g]
  refine z_aload_n S d_K_needRoomForSpan_0 0 rfl ?_
  refine z_get S hK la_K 0 rfl rfl 3 (by decide) k_K_23 rfl d_K_needRoomForSpan_1 ?_
  refine z_bipush S d_K_needRoomForSpan_4 rfl ?_
  refine z_icmp_lt (tgt := 19) S d_K_needRoomForSpan_6 (by decide) (by omega) (by omega) (fun c1 => ?_) (fun c1 => ?_)
  · skip
    omega
  · skip
    exact z_throwS (w := [oK k h ka kz (ns : Int) kw (nw : Int) j kb a b d g]) S hst hg hlo hAe htab tw_134 k_K_130 (List.mem_of_getElem? (i := 7) rfl) d_K_needRoomForSpan_9 d_K_needRoomForSpan_12 d_K_needRoomForSpan_13 d_K_needRoomForSpan_15 d_K_needRoomForSpan_18 (Nat.le_of_ble_eq_true rfl) (Nat.le_of_ble_eq_true rfl) ⟨Nat.le_of_ble_eq_true rfl, Nat.le_of_ble_eq_true rfl⟩ ⟨Nat.le_refl _, Nat.le_refl _⟩ [0] (by decide) rfl (rfl)
set_option maxHeartbeats 4000000 in
set_option maxRecDepth 100000 in
theorem s_K_takeBoth (l : Launch) (dC : Nat → ClassId) (dI : Nat → Nat → Nat) (cI cL : ClassId) (qT : Nat) (k : Nat) (ka : Nat) (kz : Nat) (ns : Nat) (kw : Nat) (nw : Nat) (j : Nat) (kb : Nat) (a : Nat) (b : Nat) (d : Nat) (g : Nat) (h : Nat) (hl : Nat) (hs : Nat) (nn : Nat → Nat) (sg : Nat → Int) (n : Nat) (an : Int) (au : Nat) (aua : Nat) (ax : Nat) (al : Nat) (ala : Nat) (az : Nat) (bn : Int) (bu : Nat) (bua : Nat) (bx : Nat) (bl : Nat) (bla : Nat) (bz : Nat) (u : Nat) (v : Nat) (hn : n ≤ 100) (hV : okVs sg nn n) (hu : u < n) (hv : v < n) (hax : ax < 1000000000 ^ 12) (haz : az < 1000000000 ^ 12) (hbx : bx < 1000000000 ^ 12) (hbz : bz < 1000000000 ^ 12) : Cv l y_K_takeBoth (Cond.code y_K_takeBoth c_K_takeBoth 3 none :: zB) { frames := 7, cells := 0, slots := 0, locals := 131 } (dC, dI) zcl [(cI, .int), (cL, .long)] (zG cI cL qT) [.ref k, .int (zI (u : Int)), .int (zI (v : Int))] [oK k h ka kz (ns : Int) kw (nw : Int) j kb a b d g, oH h hl hs (n : Int), aI cI hl 1200 (shA nn), aI cI hs 100 (sgA sg), oF a an au al, oW au aua ((us ax : Nat) : Int), aI cI aua 12 (wa ax), oW al ala ((us az : Nat) : Int), aI cI ala 12 (wa az), oF b bn bu bl, oW bu bua ((us bx : Nat) : Int), aI cI bua 12 (wa bx), oW bl bla ((us bz : Nat) : Int), aI cI bla 12 (wa bz)] (fun wv => wv = [oK k h ka kz (ns : Int) kw (nw : Int) j kb a b d g, oH h hl hs (n : Int), aI cI hl 1200 (shA nn), aI cI hs 100 (sgA sg), oF a (sg u) au al, oW au aua ((us (nn (2 * u)) : Nat) : Int), aI cI aua 12 (wa (nn (2 * u))), oW al ala ((us (nn (2 * u + 1)) : Nat) : Int), aI cI ala 12 (wa (nn (2 * u + 1))), oF b (sg v) bu bl, oW bu bua ((us (nn (2 * v)) : Nat) : Int), aI cI bua 12 (wa (nn (2 * v))), oW bl bla ((us (nn (2 * v + 1)) : Nat) : Int), aI cI bla 12 (wa (nn (2 * v + 1)))]) 0 0 := by
  refine Cm.ofZ (cc := c_K_takeBoth) (maxL := 3) (ret := none) (by decide) rfl (Nat.le_of_ble_eq_true rfl) rfl ?_
  intro p e s m below meth c A S hr hlo hnm hK hg hA hAe
  have hGok := zG_ok cI cL qT
  show ZZ _ _ _ _ _ _ _ _ _ _ _ _ _ _ _ _ _ _ 0 [(0, .ref k), (1, .int (zI (u : Int))), (2, .int (zI (v : Int)))] [] [oK k h ka kz (ns : Int) kw (nw : Int) j kb a b d g, oH h hl hs (n : Int), aI cI hl 1200 (shA nn), aI cI hs 100 (sgA sg), oF a an au al, oW au aua ((us ax : Nat) : Int), aI cI aua 12 (wa ax), oW al ala ((us az : Nat) : Int), aI cI ala 12 (wa az), oF b bn bu bl, oW bu bua ((us bx : Nat) : Int), aI cI bua 12 (wa bx), oW bl bla ((us bz : Nat) : Int), aI cI bla 12 (wa bz)]
  refine z_aload_n S d_K_takeBoth_0 0 rfl ?_
  refine z_iload_n S d_K_takeBoth_1 1 rfl ?_
  refine z_callVv (As := [.int (zI (u : Int))]) (st := []) (wc := [oK k h ka kz (ns : Int) kw (nw : Int) j kb a b d g, oH h hl hs (n : Int)]) (wr := [aI cI hl 1200 (shA nn), aI cI hs 100 (sgA sg), oF a an au al, oW au aua ((us ax : Nat) : Int), aI cI aua 12 (wa ax), oW al ala ((us az : Nat) : Int), aI cI ala 12 (wa az), oF b bn bu bl, oW bu bua ((us bx : Nat) : Int), aI cI bua 12 (wa bx), oW bl bla ((us bz : Nat) : Int), aI cI bla 12 (wa bz)]) S hGok hK hg hA (s_K_needValue l dC dI cI cL qT k ka kz ns kw nw j kb a b d g h hl hs n (u : Int) (by omega) (by omega)) (zcwV S (List.mem_cons_of_mem _ k_K_107) mV_K_needValue k_K_107 hd_K_needValue rfl rfl ⟨Nat.le_of_ble_eq_true rfl, Nat.le_of_ble_eq_true rfl⟩) rfl (Nat.le_of_ble_eq_true rfl) d_K_takeBoth_2 ⟨Nat.le_of_ble_eq_true rfl, Nat.le_of_ble_eq_true rfl⟩ rfl [0, 1] [2, 3, 4, 5, 6, 7, 8, 9, 10, 11, 12, 13] 0 rfl rfl rfl (by decide) rfl rfl rfl (by decide) (by decide) (fun w hp => ?_)
  subst hp
  show ZZ _ _ _ _ _ _ _ _ _ _ _ _ _ _ _ _ _ _ 5 [(0, .ref k), (1, .int (zI (u : Int))), (2, .int (zI (v : Int)))] [] [aI cI hl 1200 (shA nn), aI cI hs 100 (sgA sg), oF a an au al, oW au aua ((us ax : Nat) : Int), aI cI aua 12 (wa ax), oW al ala ((us az : Nat) : Int), aI cI ala 12 (wa az), oF b bn bu bl, oW bu bua ((us bx : Nat) : Int), aI cI bua 12 (wa bx), oW bl bla ((us bz : Nat) : Int), aI cI bla 12 (wa bz), oK k h ka kz (ns : Int) kw (nw : Int) j kb a b d g, oH h hl hs (n : Int)]
  refine z_aload_n S d_K_takeBoth_5 0 rfl ?_
  refine z_iload_n S d_K_takeBoth_6 2 rfl ?_
  refine z_callVv (As := [.int (zI (v : Int))]) (st := []) (wc := [oK k h ka kz (ns : Int) kw (nw : Int) j kb a b d g, oH h hl hs (n : Int)]) (wr := [aI cI hl 1200 (shA nn), aI cI hs 100 (sgA sg), oF a an au al, oW au aua ((us ax : Nat) : Int), aI cI aua 12 (wa ax), oW al ala ((us az : Nat) : Int), aI cI ala 12 (wa az), oF b bn bu bl, oW bu bua ((us bx : Nat) : Int), aI cI bua 12 (wa bx), oW bl bla ((us bz : Nat) : Int), aI cI bla 12 (wa bz)]) S hGok hK hg hA (s_K_needValue l dC dI cI cL qT k ka kz ns kw nw j kb a b d g h hl hs n (v : Int) (by omega) (by omega)) (zcwV S (List.mem_cons_of_mem _ k_K_107) mV_K_needValue k_K_107 hd_K_needValue rfl rfl ⟨Nat.le_of_ble_eq_true rfl, Nat.le_of_ble_eq_true rfl⟩) rfl (Nat.le_of_ble_eq_true rfl) d_K_takeBoth_7 ⟨Nat.le_of_ble_eq_true rfl, Nat.le_of_ble_eq_true rfl⟩ rfl [12, 13] [0, 1, 2, 3, 4, 5, 6, 7, 8, 9, 10, 11] 12 rfl rfl rfl (by decide) rfl rfl rfl (by decide) (by decide) (fun w hp => ?_)
  subst hp
  show ZZ _ _ _ _ _ _ _ _ _ _ _ _ _ _ _ _ _ _ 10 [(0, .ref k), (1, .int (zI (u : Int))), (2, .int (zI (v : Int)))] [] [aI cI hl 1200 (shA nn), aI cI hs 100 (sgA sg), oF a an au al, oW au aua ((us ax : Nat) : Int), aI cI aua 12 (wa ax), oW al ala ((us az : Nat) : Int), aI cI ala 12 (wa az), oF b bn bu bl, oW bu bua ((us bx : Nat) : Int), aI cI bua 12 (wa bx), oW bl bla ((us bz : Nat) : Int), aI cI bla 12 (wa bz), oK k h ka kz (ns : Int) kw (nw : Int) j kb a b d g, oH h hl hs (n : Int)]
  refine z_aload_n S d_K_takeBoth_10 0 rfl ?_
  refine z_get S hK la_K 12 rfl rfl 0 (by decide) k_K_10 rfl d_K_takeBoth_11 ?_
  refine z_iload_n S d_K_takeBoth_14 1 rfl ?_
  refine z_aload_n S d_K_takeBoth_15 0 rfl ?_
  refine z_get S hK la_K 12 rfl rfl 8 (by decide) k_K_48 rfl d_K_takeBoth_16 ?_
  refine z_callVv (As := [.int (zI (u : Int)), .ref a]) (st := []) (wc := [oH h hl hs (n : Int), aI cI hl 1200 (shA nn), aI cI hs 100 (sgA sg), oF a an au al, oW au aua ((us ax : Nat) : Int), aI cI aua 12 (wa ax), oW al ala ((us az : Nat) : Int), aI cI ala 12 (wa az)]) (wr := [oF b bn bu bl, oW bu bua ((us bx : Nat) : Int), aI cI bua 12 (wa bx), oW bl bla ((us bz : Nat) : Int), aI cI bla 12 (wa bz), oK k h ka kz (ns : Int) kw (nw : Int) j kb a b d g]) S hGok hK hg hA (s_H_fetch l dC dI cI cL qT h hl hs nn sg n u a an au aua ax al ala az (by omega) (okV_6 (hV u hu)).1 (okV_6 (hV u hu)).2 (by omega) (by omega)) (zcwV S (List.mem_cons_of_mem _ k_K_122) mV_H_fetch k_K_122 hd_H_fetch rfl rfl ⟨Nat.le_of_ble_eq_true rfl, Nat.le_of_ble_eq_true rfl⟩) rfl (Nat.le_of_ble_eq_true rfl) d_K_takeBoth_19 ⟨Nat.le_of_ble_eq_true rfl, Nat.le_of_ble_eq_true rfl⟩ rfl [13, 0, 1, 2, 3, 4, 5, 6] [7, 8, 9, 10, 11, 12] 13 rfl rfl rfl (by decide) rfl rfl rfl (by decide) (by decide) (fun w hp => ?_)
  subst hp
  show ZZ _ _ _ _ _ _ _ _ _ _ _ _ _ _ _ _ _ _ 22 [(0, .ref k), (1, .int (zI (u : Int))), (2, .int (zI (v : Int)))] [] [oF b bn bu bl, oW bu bua ((us bx : Nat) : Int), aI cI bua 12 (wa bx), oW bl bla ((us bz : Nat) : Int), aI cI bla 12 (wa bz), oK k h ka kz (ns : Int) kw (nw : Int) j kb a b d g, oH h hl hs (n : Int), aI cI hl 1200 (shA nn), aI cI hs 100 (sgA sg), oF a (sg u) au al, oW au aua ((us (nn (2 * u)) : Nat) : Int), aI cI aua 12 (wa (nn (2 * u))), oW al ala ((us (nn (2 * u + 1)) : Nat) : Int), aI cI ala 12 (wa (nn (2 * u + 1)))]
  refine z_aload_n S d_K_takeBoth_22 0 rfl ?_
  refine z_get S hK la_K 5 rfl rfl 0 (by decide) k_K_10 rfl d_K_takeBoth_23 ?_
  refine z_iload_n S d_K_takeBoth_26 2 rfl ?_
  refine z_aload_n S d_K_takeBoth_27 0 rfl ?_
  refine z_get S hK la_K 5 rfl rfl 9 (by decide) k_K_51 rfl d_K_takeBoth_28 ?_
  refine z_callVv (As := [.int (zI (v : Int)), .ref b]) (st := []) (wc := [oH h hl hs (n : Int), aI cI hl 1200 (shA nn), aI cI hs 100 (sgA sg), oF b bn bu bl, oW bu bua ((us bx : Nat) : Int), aI cI bua 12 (wa bx), oW bl bla ((us bz : Nat) : Int), aI cI bla 12 (wa bz)]) (wr := [oK k h ka kz (ns : Int) kw (nw : Int) j kb a b d g, oF a (sg u) au al, oW au aua ((us (nn (2 * u)) : Nat) : Int), aI cI aua 12 (wa (nn (2 * u))), oW al ala ((us (nn (2 * u + 1)) : Nat) : Int), aI cI ala 12 (wa (nn (2 * u + 1)))]) S hGok hK hg hA (s_H_fetch l dC dI cI cL qT h hl hs nn sg n v b bn bu bua bx bl bla bz (by omega) (okV_6 (hV v hv)).1 (okV_6 (hV v hv)).2 (by omega) (by omega)) (zcwV S (List.mem_cons_of_mem _ k_K_122) mV_H_fetch k_K_122 hd_H_fetch rfl rfl ⟨Nat.le_of_ble_eq_true rfl, Nat.le_of_ble_eq_true rfl⟩) rfl (Nat.le_of_ble_eq_true rfl) d_K_takeBoth_31 ⟨Nat.le_of_ble_eq_true rfl, Nat.le_of_ble_eq_true rfl⟩ rfl [6, 7, 8, 0, 1, 2, 3, 4] [5, 9, 10, 11, 12, 13] 6 rfl rfl rfl (by decide) rfl rfl rfl (by decide) (by decide) (fun w hp => ?_)
  subst hp
  show ZZ _ _ _ _ _ _ _ _ _ _ _ _ _ _ _ _ _ _ 34 [(0, .ref k), (1, .int (zI (u : Int))), (2, .int (zI (v : Int)))] [] [oK k h ka kz (ns : Int) kw (nw : Int) j kb a b d g, oF a (sg u) au al, oW au aua ((us (nn (2 * u)) : Nat) : Int), aI cI aua 12 (wa (nn (2 * u))), oW al ala ((us (nn (2 * u + 1)) : Nat) : Int), aI cI ala 12 (wa (nn (2 * u + 1))), oH h hl hs (n : Int), aI cI hl 1200 (shA nn), aI cI hs 100 (sgA sg), oF b (sg v) bu bl, oW bu bua ((us (nn (2 * v)) : Nat) : Int), aI cI bua 12 (wa (nn (2 * v))), oW bl bla ((us (nn (2 * v + 1)) : Nat) : Int), aI cI bla 12 (wa (nn (2 * v + 1)))]
  exact z_vret (w := [oK k h ka kz (ns : Int) kw (nw : Int) j kb a b d g, oH h hl hs (n : Int), aI cI hl 1200 (shA nn), aI cI hs 100 (sgA sg), oF a (sg u) au al, oW au aua ((us (nn (2 * u)) : Nat) : Int), aI cI aua 12 (wa (nn (2 * u))), oW al ala ((us (nn (2 * u + 1)) : Nat) : Int), aI cI ala 12 (wa (nn (2 * u + 1))), oF b (sg v) bu bl, oW bu bua ((us (nn (2 * v)) : Nat) : Int), aI cI bua 12 (wa (nn (2 * v))), oW bl bla ((us (nn (2 * v + 1)) : Nat) : Int), aI cI bla 12 (wa (nn (2 * v + 1)))]) S hr hlo hAe d_K_takeBoth_34 [0, 6, 7, 8, 1, 2, 3, 4, 5, 9, 10, 11, 12, 13] (by decide) rfl rfl ⟨Nat.le_refl _, Nat.le_refl _⟩ (rfl)
set_option maxHeartbeats 4000000 in
set_option maxRecDepth 100000 in
theorem t_K_takeBoth (l : Launch) (dC : Nat → ClassId) (dI : Nat → Nat → Nat) (cI cL : ClassId) (qT : Nat) (hst : l.stackTraces = false) (k : Nat) (ka : Nat) (kz : Nat) (ns : Nat) (kw : Nat) (nw : Nat) (j : Nat) (kb : Nat) (a : Nat) (b : Nat) (d : Nat) (g : Nat) (h : Nat) (hl : Nat) (hs : Nat) (nn : Nat → Nat) (sg : Nat → Int) (n : Nat) (an : Int) (au : Nat) (aua : Nat) (ax : Nat) (al : Nat) (ala : Nat) (az : Nat) (bn : Int) (bu : Nat) (bua : Nat) (bx : Nat) (bl : Nat) (bla : Nat) (bz : Nat) (u : Int) (v : Int) (hn : n ≤ 100) (hur : -2147483648 ≤ u ∧ u < 2147483648) (hvr : -2147483648 ≤ v ∧ v < 2147483648) (hu : ¬ ((0 ≤ u ∧ u < (n : Int)) ∧ (0 ≤ v ∧ v < (n : Int)))) : Tm l y_K_takeBoth (Cond.code y_K_takeBoth c_K_takeBoth 3 none :: zB) { frames := 7, cells := 1, slots := 6, locals := 131 } (dC, dI) zcl [(cI, .int), (cL, .long)] (zG cI cL qT) [.ref k, .int (zI u), .int (zI v)] [oK k h ka kz (ns : Int) kw (nw : Int) j kb a b d g, oH h hl hs (n : Int), aI cI hl 1200 (shA nn), aI cI hs 100 (sgA sg), oF a an au al, oW au aua ((us ax : Nat) : Int), aI cI aua 12 (wa ax), oW al ala ((us az : Nat) : Int), aI cI ala 12 (wa az), oF b bn bu bl, oW bu bua ((us bx : Nat) : Int), aI cI bua 12 (wa bx), oW bl bla ((us bz : Nat) : Int), aI cI bla 12 (wa bz)] "java/lang/IndexOutOfBoundsException" (fun wv => wv = [oK k h ka kz (ns : Int) kw (nw : Int) j kb a b d g, oH h hl hs (n : Int), aI cI hl 1200 (shA nn), aI cI hs 100 (sgA sg), oF a an au al, oW au aua ((us ax : Nat) : Int), aI cI aua 12 (wa ax), oW al ala ((us az : Nat) : Int), aI cI ala 12 (wa az), oF b bn bu bl, oW bu bua ((us bx : Nat) : Int), aI cI bua 12 (wa bx), oW bl bla ((us bz : Nat) : Int), aI cI bla 12 (wa bz)]) 1 6 := by
  refine Tm.ofZ (cc := c_K_takeBoth) (maxL := 3) (ret := none) (by decide) rfl (Nat.le_of_ble_eq_true rfl) rfl ?_
  intro p e s m below meth c A S hr hlo hnm hK hg hA hAe htab
  have hGok := zG_ok cI cL qT
  show ZZ _ _ _ _ _ _ _ _ _ _ _ _ _ _ _ _ _ _ 0 [(0, .ref k), (1, .int (zI u)), (2, .int (zI v))] [] [oK k h ka kz (ns : Int) kw (nw : Int) j kb a b d g, oH h hl hs (n : Int), aI cI hl 1200 (shA nn), aI cI hs 100 (sgA sg), oF a an au al, oW au aua ((us ax : Nat) : Int), aI cI aua 12 (wa ax), oW al ala ((us az : Nat) : Int), aI cI ala 12 (wa az), oF b bn bu bl, oW bu bua ((us bx : Nat) : Int), aI cI bua 12 (wa bx), oW bl bla ((us bz : Nat) : Int), aI cI bla 12 (wa bz)]
  refine z_aload_n S d_K_takeBoth_0 0 rfl ?_
  refine z_iload_n S d_K_takeBoth_1 1 rfl ?_
  by_cases hu1 : 0 ≤ u ∧ u < (n : Int)
  · skip
    refine z_callVv (As := [.int (zI u)]) (st := []) (wc := [oK k h ka kz (ns : Int) kw (nw : Int) j kb a b d g, oH h hl hs (n : Int)]) (wr := [aI cI hl 1200 (shA nn), aI cI hs 100 (sgA sg), oF a an au al, oW au aua ((us ax : Nat) : Int), aI cI aua 12 (wa ax), oW al ala ((us az : Nat) : Int), aI cI ala 12 (wa az), oF b bn bu bl, oW bu bua ((us bx : Nat) : Int), aI cI bua 12 (wa bx), oW bl bla ((us bz : Nat) : Int), aI cI bla 12 (wa bz)]) S hGok hK hg hA (s_K_needValue l dC dI cI cL qT k ka kz ns kw nw j kb a b d g h hl hs n u (by omega) hu1) (zcwV S (List.mem_cons_of_mem _ k_K_107) mV_K_needValue k_K_107 hd_K_needValue rfl rfl ⟨Nat.le_of_ble_eq_true rfl, Nat.le_of_ble_eq_true rfl⟩) rfl (Nat.le_of_ble_eq_true rfl) d_K_takeBoth_2 ⟨Nat.le_of_ble_eq_true rfl, Nat.le_of_ble_eq_true rfl⟩ rfl [0, 1] [2, 3, 4, 5, 6, 7, 8, 9, 10, 11, 12, 13] 0 rfl rfl rfl (by decide) rfl rfl rfl (by decide) (by decide) (fun w hp => ?_)
    subst hp
    show ZZ _ _ _ _ _ _ _ _ _ _ _ _ _ _ _ _ _ _ 5 [(0, .ref k), (1, .int (zI u)), (2, .int (zI v))] [] [aI cI hl 1200 (shA nn), aI cI hs 100 (sgA sg), oF a an au al, oW au aua ((us ax : Nat) : Int), aI cI aua 12 (wa ax), oW al ala ((us az : Nat) : Int), aI cI ala 12 (wa az), oF b bn bu bl, oW bu bua ((us bx : Nat) : Int), aI cI bua 12 (wa bx), oW bl bla ((us bz : Nat) : Int), aI cI bla 12 (wa bz), oK k h ka kz (ns : Int) kw (nw : Int) j kb a b d g, oH h hl hs (n : Int)]
    refine z_aload_n S d_K_takeBoth_5 0 rfl ?_
    refine z_iload_n S d_K_takeBoth_6 2 rfl ?_
    refine z_outV (As := [.int (zI v)]) (st := []) (wc := [oK k h ka kz (ns : Int) kw (nw : Int) j kb a b d g, oH h hl hs (n : Int)]) (wr := [aI cI hl 1200 (shA nn), aI cI hs 100 (sgA sg), oF a an au al, oW au aua ((us ax : Nat) : Int), aI cI aua 12 (wa ax), oW al ala ((us az : Nat) : Int), aI cI ala 12 (wa az), oF b bn bu bl, oW bu bua ((us bx : Nat) : Int), aI cI bua 12 (wa bx), oW bl bla ((us bz : Nat) : Int), aI cI bla 12 (wa bz)]) S hGok hK hg hA hlo hAe htab (t_K_needValue l dC dI cI cL qT hst k ka kz ns kw nw j kb a b d g h hl hs n v (by omega) (by omega) (fun z => hu ⟨hu1, z⟩)) (zcwV S (List.mem_cons_of_mem _ k_K_107) mV_K_needValue k_K_107 hd_K_needValue rfl rfl ⟨Nat.le_of_ble_eq_true rfl, Nat.le_of_ble_eq_true rfl⟩) rfl (Nat.le_of_ble_eq_true rfl) d_K_takeBoth_7 ⟨Nat.le_of_ble_eq_true rfl, Nat.le_of_ble_eq_true rfl⟩ ⟨Nat.le_refl _, Nat.le_refl _⟩ rfl [12, 13] [0, 1, 2, 3, 4, 5, 6, 7, 8, 9, 10, 11] 12 rfl rfl rfl (by decide) rfl rfl rfl (by decide) (by decide) (fun w hp => ?_)
    subst hp
    exact ⟨[oK k h ka kz (ns : Int) kw (nw : Int) j kb a b d g, oH h hl hs (n : Int), aI cI hl 1200 (shA nn), aI cI hs 100 (sgA sg), oF a an au al, oW au aua ((us ax : Nat) : Int), aI cI aua 12 (wa ax), oW al ala ((us az : Nat) : Int), aI cI ala 12 (wa az), oF b bn bu bl, oW bu bua ((us bx : Nat) : Int), aI cI bua 12 (wa bx), oW bl bla ((us bz : Nat) : Int), aI cI bla 12 (wa bz)], rfl, [12, 13, 0, 1, 2, 3, 4, 5, 6, 7, 8, 9, 10, 11], by decide, rfl⟩
  · skip
    refine z_outV (As := [.int (zI u)]) (st := []) (wc := [oK k h ka kz (ns : Int) kw (nw : Int) j kb a b d g, oH h hl hs (n : Int)]) (wr := [aI cI hl 1200 (shA nn), aI cI hs 100 (sgA sg), oF a an au al, oW au aua ((us ax : Nat) : Int), aI cI aua 12 (wa ax), oW al ala ((us az : Nat) : Int), aI cI ala 12 (wa az), oF b bn bu bl, oW bu bua ((us bx : Nat) : Int), aI cI bua 12 (wa bx), oW bl bla ((us bz : Nat) : Int), aI cI bla 12 (wa bz)]) S hGok hK hg hA hlo hAe htab (t_K_needValue l dC dI cI cL qT hst k ka kz ns kw nw j kb a b d g h hl hs n u (by omega) (by omega) hu1) (zcwV S (List.mem_cons_of_mem _ k_K_107) mV_K_needValue k_K_107 hd_K_needValue rfl rfl ⟨Nat.le_of_ble_eq_true rfl, Nat.le_of_ble_eq_true rfl⟩) rfl (Nat.le_of_ble_eq_true rfl) d_K_takeBoth_2 ⟨Nat.le_of_ble_eq_true rfl, Nat.le_of_ble_eq_true rfl⟩ ⟨Nat.le_refl _, Nat.le_refl _⟩ rfl [0, 1] [2, 3, 4, 5, 6, 7, 8, 9, 10, 11, 12, 13] 0 rfl rfl rfl (by decide) rfl rfl rfl (by decide) (by decide) (fun w hp => ?_)
    subst hp
    exact ⟨[oK k h ka kz (ns : Int) kw (nw : Int) j kb a b d g, oH h hl hs (n : Int), aI cI hl 1200 (shA nn), aI cI hs 100 (sgA sg), oF a an au al, oW au aua ((us ax : Nat) : Int), aI cI aua 12 (wa ax), oW al ala ((us az : Nat) : Int), aI cI ala 12 (wa az), oF b bn bu bl, oW bu bua ((us bx : Nat) : Int), aI cI bua 12 (wa bx), oW bl bla ((us bz : Nat) : Int), aI cI bla 12 (wa bz)], rfl, [12, 13, 0, 1, 2, 3, 4, 5, 6, 7, 8, 9, 10, 11], by decide, rfl⟩
set_option maxHeartbeats 4000000 in
set_option maxRecDepth 100000 in
theorem s_K_keepUnlessTooLong (l : Launch) (dC : Nat → ClassId) (dI : Nat → Nat → Nat) (cI cL : ClassId) (qT : Nat) (k : Nat) (ka : Nat) (kz : Nat) (ns : Nat) (kw : Nat) (nw : Nat) (j : Nat) (kb : Nat) (a : Nat) (b : Nat) (d : Nat) (g : Nat) (h : Nat) (hl : Nat) (hs : Nat) (nn : Nat → Nat) (sg : Nat → Int) (n : Nat) (dn : Int) (du : Nat) (dua : Nat) (dx : Nat) (dl : Nat) (dla : Nat) (dz : Nat) (hn : n < 100) (hx : dx < 10 ^ 48) (hz : dz < 10 ^ 48) : Ct l y_K_keepUnlessTooLong (Cond.code y_K_keepUnlessTooLong c_K_keepUnlessTooLong 1 (some .int) :: zB) { frames := 2, cells := 0, slots := 0, locals := 46 } (dC, dI) zcl [(cI, .int), (cL, .long)] (zG cI cL qT) [.ref k] [oK k h ka kz (ns : Int) kw (nw : Int) j kb a b d g, oH h hl hs (n : Int), aI cI hl 1200 (shA nn), aI cI hs 100 (sgA sg), oF d dn du dl, oW du dua ((us dx : Nat) : Int), aI cI dua 12 (wa dx), oW dl dla ((us dz : Nat) : Int), aI cI dla 12 (wa dz)] (fun rv wv => rv = .int (zI (n : Int)) ∧ wv = [oK k h ka kz (ns : Int) kw (nw : Int) j kb a b d g, oH h hl hs ((n + 1 : Nat) : Int), aI cI hl 1200 (shA (un (un nn (2 * n) dx) (2 * n + 1) dz)), aI cI hs 100 (sgA (uz sg n dn)), oF d dn du dl, oW du dua ((us dx : Nat) : Int), aI cI dua 12 (wa dx), oW dl dla ((us dz : Nat) : Int), aI cI dla 12 (wa dz)]) 0 0 := by
  refine Cm.ofZ (cc := c_K_keepUnlessTooLong) (maxL := 1) (ret := (some .int)) (by decide) rfl (Nat.le_of_ble_eq_true rfl) rfl ?_
  intro p e s m below meth c A S hr hlo hnm hK hg hA hAe
  have hGok := zG_ok cI cL qT
  show ZZ _ _ _ _ _ _ _ _ _ _ _ _ _ _ _ _ _ _ 0 [(0, .ref k)] [] [oK k h ka kz (ns : Int) kw (nw : Int) j kb a b d g, oH h hl hs (n : Int), aI cI hl 1200 (shA nn), aI cI hs 100 (sgA sg), oF d dn du dl, oW du dua ((us dx : Nat) : Int), aI cI dua 12 (wa dx), oW dl dla ((us dz : Nat) : Int), aI cI dla 12 (wa dz)]
  have hb := b2_f (P := ¬ (dx < 10 ^ 48 ∧ dz < 10 ^ 48)) (by omega)
  have hbr := b2_r (¬ (dx < 10 ^ 48 ∧ dz < 10 ^ 48))
  refine z_aload_n S d_K_keepUnlessTooLong_0 0 rfl ?_
  refine z_get S hK la_K 0 rfl rfl 10 (by decide) k_K_54 rfl d_K_keepUnlessTooLong_1 ?_
  refine z_callVa (As := []) (st := []) (wc := [oF d dn du dl, oW du dua ((us dx : Nat) : Int), aI cI dua 12 (wa dx), oW dl dla ((us dz : Nat) : Int), aI cI dla 12 (wa dz)]) (wr := [oK k h ka kz (ns : Int) kw (nw : Int) j kb a b d g, oH h hl hs (n : Int), aI cI hl 1200 (shA nn), aI cI hs 100 (sgA sg)]) S hGok hK hg hA (s_F_isTooLong l dC dI cI cL qT d dn du dua dx dl dla dz (by omega) (by omega)) (zcwV S (List.mem_cons_of_mem _ k_K_145) mV_F_isTooLong k_K_145 hd_F_isTooLong rfl rfl ⟨Nat.le_of_ble_eq_true rfl, Nat.le_of_ble_eq_true rfl⟩) rfl (Nat.le_of_ble_eq_true rfl) d_K_keepUnlessTooLong_4 ⟨Nat.le_of_ble_eq_true rfl, Nat.le_of_ble_eq_true rfl⟩ rfl [4, 5, 6, 7, 8] [0, 1, 2, 3] 4 rfl rfl rfl (by decide) rfl rfl rfl (by decide) (by decide) (fun x w hp => ?_)
  obtain ⟨rfl, rfl⟩ := hp
  show ZZ _ _ _ _ _ _ _ _ _ _ _ _ _ _ _ _ _ _ 7 [(0, .ref k)] [.int (zI (b2 (¬ (dx < 10 ^ 48 ∧ dz < 10 ^ 48))))] [oK k h ka kz (ns : Int) kw (nw : Int) j kb a b d g, oH h hl hs (n : Int), aI cI hl 1200 (shA nn), aI cI hs 100 (sgA sg), oF d dn du dl, oW du dua ((us dx : Nat) : Int), aI cI dua 12 (wa dx), oW dl dla ((us dz : Nat) : Int), aI cI dla 12 (wa dz)]
  refine z_if_eq (tgt := 14) S d_K_keepUnlessTooLong_7 (by decide) (by omega) (fun c1 => ?_) (fun c1 => ?_)
  · skip
    refine z_aload_n S d_K_keepUnlessTooLong_14 0 rfl ?_
    refine z_get S hK la_K 0 rfl rfl 0 (by decide) k_K_10 rfl d_K_keepUnlessTooLong_15 ?_
    refine z_aload_n S d_K_keepUnlessTooLong_18 0 rfl ?_
    refine z_get S hK la_K 0 rfl rfl 10 (by decide) k_K_54 rfl d_K_keepUnlessTooLong_19 ?_
    refine z_callVa (As := [.ref d]) (st := []) (wc := [oH h hl hs (n : Int), aI cI hl 1200 (shA nn), aI cI hs 100 (sgA sg), oF d dn du dl, oW du dua ((us dx : Nat) : Int), aI cI dua 12 (wa dx), oW dl dla ((us dz : Nat) : Int), aI cI dla 12 (wa dz)]) (wr := [oK k h ka kz (ns : Int) kw (nw : Int) j kb a b d g]) S hGok hK hg hA (s_H_keep l dC dI cI cL qT h hl hs nn sg n d dn du dua dx dl dla dz (by omega)) (zcwV S (List.mem_cons_of_mem _ k_K_149) mV_H_keep k_K_149 hd_H_keep rfl rfl ⟨Nat.le_of_ble_eq_true rfl, Nat.le_of_ble_eq_true rfl⟩) rfl (Nat.le_of_ble_eq_true rfl) d_K_keepUnlessTooLong_22 ⟨Nat.le_of_ble_eq_true rfl, Nat.le_of_ble_eq_true rfl⟩ rfl [1, 2, 3, 4, 5, 6, 7, 8] [0] 1 rfl rfl rfl (by decide) rfl rfl rfl (by decide) (by decide) (fun x w hp => ?_)
    obtain ⟨rfl, rfl⟩ := hp
    show ZZ _ _ _ _ _ _ _ _ _ _ _ _ _ _ _ _ _ _ 25 [(0, .ref k)] [.int (zI (n : Int))] [oK k h ka kz (ns : Int) kw (nw : Int) j kb a b d g, oH h hl hs ((n + 1 : Nat) : Int), aI cI hl 1200 (shA (un (un nn (2 * n) dx) (2 * n + 1) dz)), aI cI hs 100 (sgA (uz sg n dn)), oF d dn du dl, oW du dua ((us dx : Nat) : Int), aI cI dua 12 (wa dx), oW dl dla ((us dz : Nat) : Int), aI cI dla 12 (wa dz)]
    exact z_iret (w := [oK k h ka kz (ns : Int) kw (nw : Int) j kb a b d g, oH h hl hs ((n + 1 : Nat) : Int), aI cI hl 1200 (shA (un (un nn (2 * n) dx) (2 * n + 1) dz)), aI cI hs 100 (sgA (uz sg n dn)), oF d dn du dl, oW du dua ((us dx : Nat) : Int), aI cI dua 12 (wa dx), oW dl dla ((us dz : Nat) : Int), aI cI dla 12 (wa dz)]) S hr hlo hAe d_K_keepUnlessTooLong_25 [0, 1, 2, 3, 4, 5, 6, 7, 8] (by decide) rfl rfl ⟨Nat.le_refl _, Nat.le_refl _⟩ (⟨rfl, rfl⟩)
  · skip
    exact absurd c1 (by omega)
set_option maxHeartbeats 4000000 in
set_option maxRecDepth 100000 in
theorem s_K_keepTooLong (l : Launch) (dC : Nat → ClassId) (dI : Nat → Nat → Nat) (cI cL : ClassId) (qT : Nat) (k : Nat) (ka : Nat) (kz : Nat) (ns : Nat) (kw : Nat) (nw : Nat) (j : Nat) (kb : Nat) (a : Nat) (b : Nat) (d : Nat) (g : Nat) (h : Nat) (hl : Nat) (hs : Nat) (nn : Nat → Nat) (sg : Nat → Int) (n : Nat) (dn : Int) (du : Nat) (dua : Nat) (dx : Nat) (dl : Nat) (dla : Nat) (dz : Nat) (hdx : dx < 1000000000 ^ 12) (hdz : dz < 1000000000 ^ 12) (hlong : ¬ (dx < 10 ^ 48 ∧ dz < 10 ^ 48)) : Ct l y_K_keepUnlessTooLong (Cond.code y_K_keepUnlessTooLong c_K_keepUnlessTooLong 1 (some .int) :: zB) { frames := 2, cells := 0, slots := 0, locals := 46 } (dC, dI) zcl [(cI, .int), (cL, .long)] (zG cI cL qT) [.ref k] [oK k h ka kz (ns : Int) kw (nw : Int) j kb a b d g, oH h hl hs (n : Int), aI cI hl 1200 (shA nn), aI cI hs 100 (sgA sg), oF d dn du dl, oW du dua ((us dx : Nat) : Int), aI cI dua 12 (wa dx), oW dl dla ((us dz : Nat) : Int), aI cI dla 12 (wa dz)] (fun rv wv => rv = .int (zI (-1)) ∧ wv = [oK k h ka kz (ns : Int) kw (nw : Int) j kb a b d g, oH h hl hs (n : Int), aI cI hl 1200 (shA nn), aI cI hs 100 (sgA sg), oF d dn du dl, oW du dua ((us dx : Nat) : Int), aI cI dua 12 (wa dx), oW dl dla ((us dz : Nat) : Int), aI cI dla 12 (wa dz)]) 0 0 := by
  refine Cm.ofZ (cc := c_K_keepUnlessTooLong) (maxL := 1) (ret := (some .int)) (by decide) rfl (Nat.le_of_ble_eq_true rfl) rfl ?_
  intro p e s m below meth c A S hr hlo hnm hK hg hA hAe
  have hGok := zG_ok cI cL qT
  show ZZ _ _ _ _ _ _ _ _ _ _ _ _ _ _ _ _ _ _ 0 [(0, .ref k)] [] [oK k h ka kz (ns : Int) kw (nw : Int) j kb a b d g, oH h hl hs (n : Int), aI cI hl 1200 (shA nn), aI cI hs 100 (sgA sg), oF d dn du dl, oW du dua ((us dx : Nat) : Int), aI cI dua 12 (wa dx), oW dl dla ((us dz : Nat) : Int), aI cI dla 12 (wa dz)]
  have hb := b2_t hlong
  have hbr := b2_r (¬ (dx < 10 ^ 48 ∧ dz < 10 ^ 48))
  refine z_aload_n S d_K_keepUnlessTooLong_0 0 rfl ?_
  refine z_get S hK la_K 0 rfl rfl 10 (by decide) k_K_54 rfl d_K_keepUnlessTooLong_1 ?_
  refine z_callVa (As := []) (st := []) (wc := [oF d dn du dl, oW du dua ((us dx : Nat) : Int), aI cI dua 12 (wa dx), oW dl dla ((us dz : Nat) : Int), aI cI dla 12 (wa dz)]) (wr := [oK k h ka kz (ns : Int) kw (nw : Int) j kb a b d g, oH h hl hs (n : Int), aI cI hl 1200 (shA nn), aI cI hs 100 (sgA sg)]) S hGok hK hg hA (s_F_isTooLong l dC dI cI cL qT d dn du dua dx dl dla dz (by omega) (by omega)) (zcwV S (List.mem_cons_of_mem _ k_K_145) mV_F_isTooLong k_K_145 hd_F_isTooLong rfl rfl ⟨Nat.le_of_ble_eq_true rfl, Nat.le_of_ble_eq_true rfl⟩) rfl (Nat.le_of_ble_eq_true rfl) d_K_keepUnlessTooLong_4 ⟨Nat.le_of_ble_eq_true rfl, Nat.le_of_ble_eq_true rfl⟩ rfl [4, 5, 6, 7, 8] [0, 1, 2, 3] 4 rfl rfl rfl (by decide) rfl rfl rfl (by decide) (by decide) (fun x w hp => ?_)
  obtain ⟨rfl, rfl⟩ := hp
  show ZZ _ _ _ _ _ _ _ _ _ _ _ _ _ _ _ _ _ _ 7 [(0, .ref k)] [.int (zI (b2 (¬ (dx < 10 ^ 48 ∧ dz < 10 ^ 48))))] [oK k h ka kz (ns : Int) kw (nw : Int) j kb a b d g, oH h hl hs (n : Int), aI cI hl 1200 (shA nn), aI cI hs 100 (sgA sg), oF d dn du dl, oW du dua ((us dx : Nat) : Int), aI cI dua 12 (wa dx), oW dl dla ((us dz : Nat) : Int), aI cI dla 12 (wa dz)]
  refine z_if_eq (tgt := 14) S d_K_keepUnlessTooLong_7 (by decide) (by omega) (fun c1 => ?_) (fun c1 => ?_)
  · skip
    exact absurd c1 (by omega)
  · skip
    refine z_iconst S d_K_keepUnlessTooLong_10 ?_
    refine z_goto (tgt := 25) S d_K_keepUnlessTooLong_11 (by decide) ?_
    exact z_iret (w := [oK k h ka kz (ns : Int) kw (nw : Int) j kb a b d g, oH h hl hs (n : Int), aI cI hl 1200 (shA nn), aI cI hs 100 (sgA sg), oF d dn du dl, oW du dua ((us dx : Nat) : Int), aI cI dua 12 (wa dx), oW dl dla ((us dz : Nat) : Int), aI cI dla 12 (wa dz)]) S hr hlo hAe d_K_keepUnlessTooLong_25 [0, 1, 2, 3, 4, 5, 6, 7, 8] (by decide) rfl rfl ⟨Nat.le_refl _, Nat.le_refl _⟩ (⟨rfl, rfl⟩)
set_option maxHeartbeats 4000000 in
set_option maxRecDepth 100000 in
theorem s_K_keepSpan (l : Launch) (dC : Nat → ClassId) (dI : Nat → Nat → Nat) (cI cL : ClassId) (qT : Nat) (k : Nat) (ka : Nat) (kz : Nat) (ns : Nat) (kw : Nat) (nw : Nat) (j : Nat) (kb : Nat) (a : Nat) (b : Nat) (d : Nat) (g : Nat) (h : Nat) (lo : Nat → Nat) (hi : Nat → Nat) (u : Nat) (v : Nat) (hns : ns < 30) : Ct l y_K_keepSpan (Cond.code y_K_keepSpan c_K_keepSpan 3 (some .int) :: zB) { frames := 0, cells := 0, slots := 0, locals := 0 } (dC, dI) zcl [(cI, .int), (cL, .long)] (zG cI cL qT) [.ref k, .int (zI (u : Int)), .int (zI (v : Int))] [oK k h ka kz (ns : Int) kw (nw : Int) j kb a b d g, aI cI ka 30 (eA lo), aI cI kz 30 (eA hi)] (fun rv wv => rv = .int (zI (ns : Int)) ∧ wv = [oK k h ka kz ((ns + 1 : Nat) : Int) kw (nw : Int) j kb a b d g, aI cI ka 30 (eA (un lo ns u)), aI cI kz 30 (eA (un hi ns v))]) 0 0 := by
  refine Cm.ofZ (cc := c_K_keepSpan) (maxL := 3) (ret := (some .int)) (by decide) rfl (Nat.le_of_ble_eq_true rfl) rfl ?_
  intro p e s m below meth c A S hr hlo hnm hK hg hA hAe
  have hGok := zG_ok cI cL qT
  show ZZ _ _ _ _ _ _ _ _ _ _ _ _ _ _ _ _ _ _ 0 [(0, .ref k), (1, .int (zI (u : Int))), (2, .int (zI (v : Int)))] [] [oK k h ka kz (ns : Int) kw (nw : Int) j kb a b d g, aI cI ka 30 (eA lo), aI cI kz 30 (eA hi)]
  refine z_aload_n S d_K_keepSpan_0 0 rfl ?_
  refine z_get S hK la_K 0 rfl rfl 1 (by decide) k_K_16 rfl d_K_keepSpan_1 ?_
  refine z_aload_n S d_K_keepSpan_4 0 rfl ?_
  refine z_get S hK la_K 0 rfl rfl 3 (by decide) k_K_23 rfl d_K_keepSpan_5 ?_
  refine z_iload_n S d_K_keepSpan_8 1 rfl ?_
  refine z_iast (f' := eA (un lo ns u)) (ws' := [oK k h ka kz (ns : Int) kw (nw : Int) j kb a b d g, aI cI ka 30 (eA (un lo ns u)), aI cI kz 30 (eA hi)]) S hK 1 0 rfl rfl ns rfl (by omega) (by decide) (eA_u rfl) rfl d_K_keepSpan_9 ?_
  refine z_aload_n S d_K_keepSpan_10 0 rfl ?_
  refine z_get S hK la_K 0 rfl rfl 2 (by decide) k_K_20 rfl d_K_keepSpan_11 ?_
  refine z_aload_n S d_K_keepSpan_14 0 rfl ?_
  refine z_get S hK la_K 0 rfl rfl 3 (by decide) k_K_23 rfl d_K_keepSpan_15 ?_
  refine z_iload_n S d_K_keepSpan_18 2 rfl ?_
  refine z_iast (f' := eA (un hi ns v)) (ws' := [oK k h ka kz (ns : Int) kw (nw : Int) j kb a b d g, aI cI ka 30 (eA (un lo ns u)), aI cI kz 30 (eA (un hi ns v))]) S hK 2 0 rfl rfl ns rfl (by omega) (by decide) (eA_u rfl) rfl d_K_keepSpan_19 ?_
  refine z_aload_n S d_K_keepSpan_20 0 rfl ?_
  refine z_dup S d_K_keepSpan_21 rfl ?_
  refine z_get S hK la_K 0 rfl rfl 3 (by decide) k_K_23 rfl d_K_keepSpan_22 ?_
  refine z_iconst S d_K_keepSpan_25 ?_
  refine z_iadd S d_K_keepSpan_26 ?_
  refine z_put (ws' := [oK k h ka kz ((ns : Int) + 1) kw (nw : Int) j kb a b d g, aI cI ka 30 (eA (un lo ns u)), aI cI kz 30 (eA (un hi ns v))]) S hK la_K ty_K tyok_K nm_K 0 rfl rfl 3 (by decide) k_K_23 rfl (ty := .int) (by decide +kernel) rfl rfl (Nat.le_of_ble_eq_true rfl) rfl d_K_keepSpan_27 ?_
  refine z_wq (ws' := [oK k h ka kz ((ns + 1 : Nat) : Int) kw (nw : Int) j kb a b d g, aI cI ka 30 (eA (un lo ns u)), aI cI kz 30 (eA (un hi ns v))]) (by rw [show (ns : Int) + 1 = ((ns + 1 : Nat) : Int) by omega]) ?_
  refine z_aload_n S d_K_keepSpan_30 0 rfl ?_
  refine z_get S hK la_K 0 rfl rfl 3 (by decide) k_K_23 rfl d_K_keepSpan_31 ?_
  refine z_iconst S d_K_keepSpan_34 ?_
  refine z_isub S d_K_keepSpan_35 ?_
  exact z_iret (w := [oK k h ka kz ((ns + 1 : Nat) : Int) kw (nw : Int) j kb a b d g, aI cI ka 30 (eA (un lo ns u)), aI cI kz 30 (eA (un hi ns v))]) S hr hlo hAe d_K_keepSpan_36 [0, 1, 2] (by decide) rfl rfl ⟨Nat.le_refl _, Nat.le_refl _⟩ (⟨congrArg Value.int (zI_c (by omega)), rfl⟩)
