set_option maxHeartbeats 4000000 in
set_option maxRecDepth 100000 in
theorem s_B_commonDivisorOf (l : Launch) (dC : Nat → ClassId) (dI : Nat → Nat → Nat) (cI cL : ClassId) (qT : Nat) (ga : Nat) (gb : Nat) (ha : ga < 4000000000000000000) (hb : gb < 4000000000000000000) : Ct l y_B_commonDivisorOf (Cond.code y_B_commonDivisorOf c_B_commonDivisorOf 11 (some .long) :: zB) { frames := 0, cells := 0, slots := 0, locals := 0 } (dC, dI) zcl [(cI, .int), (cL, .long)] (zG cI cL qT) [.long (zL (ga : Int)), .long (zL (gb : Int))] [] (fun rv wv => rv = .long (zL ((Nat.gcd ga gb : Nat) : Int)) ∧ wv = []) 0 0 := by
  refine Cm.ofZ (cc := c_B_commonDivisorOf) (maxL := 11) (ret := (some .long)) (by decide) rfl (Nat.le_of_ble_eq_true rfl) rfl ?_
  intro p e s m below meth c A S hr hlo hnm hK hg hA hAe
  have hGok := zG_ok cI cL qT
  show ZZ _ _ _ _ _ _ _ _ _ _ _ _ _ _ _ _ _ _ 0 [(0, .long (zL (ga : Int))), (2, .long (zL (gb : Int)))] [] []
  refine z_lload_n S d_B_commonDivisorOf_0 0 rfl ?_
  refine z_lstore (lv' := [(4, .long (zL (ga : Int))), (0, .long (zL (ga : Int))), (2, .long (zL (gb : Int)))]) S d_B_commonDivisorOf_1 (by decide) rfl ?_
  refine z_lload_n S d_B_commonDivisorOf_3 2 rfl ?_
  refine z_lstore (lv' := [(6, .long (zL (gb : Int))), (4, .long (zL (ga : Int))), (0, .long (zL (ga : Int))), (2, .long (zL (gb : Int)))]) S d_B_commonDivisorOf_4 (by decide) rfl ?_
  refine z_iconst S d_B_commonDivisorOf_6 ?_
  refine z_istore (lv' := [(8, .int (zI 0)), (6, .long (zL (gb : Int))), (4, .long (zL (ga : Int))), (0, .long (zL (ga : Int))), (2, .long (zL (gb : Int)))]) S d_B_commonDivisorOf_7 (by decide) rfl ?_
  refine z_lv (lv' := [(4, .long (zL (ga : Int))), (6, .long (zL (gb : Int))), (8, .int (zI 0))]) [2, 1, 0] rfl ?_
  refine z_lq (lv' := [(4, .long (zL (ga : Int))), (6, .long (zL (gb : Int))), (8, .int (zI ((0 : Nat) : Int)))]) (congrArg (fun zzz : Int => ([(4, .long (zL (ga : Int))), (6, .long (zL (gb : Int))), (8, .int (zI zzz))] : List (Nat × Value))) (show (0 : Int) = ((0 : Nat) : Int) by omega)) ?_
  refine z_loop (I := fun (zz : Nat × Nat × Nat × Nat) => match zz with | (i, x, y, n) => (Nat.gcd x y = Nat.gcd ga gb) ∧ (x < 4000000000000000000) ∧ (y < 4000000000000000000) ∧ (gJ x y i n)) (μ := fun (zz : Nat × Nat × Nat × Nat) => match zz with | (i, x, y, n) => y) (LV := fun (zz : Nat × Nat × Nat × Nat) => match zz with | (i, x, y, n) => [(4, .long (zL (x : Int))), (6, .long (zL (y : Int))), (8, .int (zI (i : Int)))]) (WS := fun (zz : Nat × Nat × Nat × Nat) => match zz with | (i, x, y, n) => []) (a := (0, ga, gb, 62)) ?_ ?_
  · exact (show (Nat.gcd ga gb = Nat.gcd ga gb) ∧ (ga < 4000000000000000000) ∧ (gb < 4000000000000000000) ∧ (gJ ga gb 0 62) from ⟨rfl, ha, hb, gJ_0 (by omega) (by decide)⟩)
  · intro ⟨i, x, y, n⟩ hI ih9
    obtain ⟨hgc, hx, hy, hJ⟩ : (Nat.gcd x y = Nat.gcd ga gb) ∧ (x < 4000000000000000000) ∧ (y < 4000000000000000000) ∧ (gJ x y i n) := hI
    show ZZ _ _ _ _ _ _ _ _ _ _ _ _ _ _ _ _ _ _ 9 [(4, .long (zL (x : Int))), (6, .long (zL (y : Int))), (8, .int (zI (i : Int)))] [] []
    have hJi := gJ_i hJ
    refine z_iload S d_B_commonDivisorOf_9 2 rfl ?_
    refine z_sipush S d_B_commonDivisorOf_11 rfl ?_
    refine z_icmp_ge (tgt := 45) S d_B_commonDivisorOf_14 (by decide) (by omega) (by omega) (fun c1 => ?_) (fun c1 => ?_)
    · skip
      exact absurd c1 (by omega)
    · skip
      refine z_lload S d_B_commonDivisorOf_17 1 rfl ?_
      refine z_lconst (z := 0) S d_B_commonDivisorOf_19 rfl ?_
      refine z_lcmp_eq (tgt := 45) S d_B_commonDivisorOf_20 d_B_commonDivisorOf_21 (by decide) (by omega) (by omega) (fun c2 => ?_) (fun c2 => ?_)
      · skip
        have hy0 : y = 0 := by omega
        rw [hy0, Nat.gcd_zero_right] at hgc
        refine z_lload S d_B_commonDivisorOf_45 0 rfl ?_
        exact z_lret (w := []) S hr hlo hAe d_B_commonDivisorOf_47 [] (by decide) rfl rfl ⟨Nat.le_refl _, Nat.le_refl _⟩ (⟨by rw [hgc], rfl⟩)
      · skip
        obtain ⟨n2, hJ2⟩ := gJ_step hJ (by omega)
        have hmod := Nat.mod_lt x (show 0 < y by omega)
        refine z_lload S d_B_commonDivisorOf_24 0 rfl ?_
        refine z_lload S d_B_commonDivisorOf_26 1 rfl ?_
        refine z_lrem S d_B_commonDivisorOf_28 (by omega) (by omega) ?_
        refine z_topl (fun x3 ex3 => ?_)
        refine z_lstore (lv' := [(9, .long (zL x3)), (4, .long (zL (x : Int))), (6, .long (zL (y : Int))), (8, .int (zI (i : Int)))]) S d_B_commonDivisorOf_29 (by decide) rfl ?_
        refine z_lload S d_B_commonDivisorOf_31 2 rfl ?_
        refine z_lstore (lv' := [(4, .long (zL (y : Int))), (9, .long (zL x3)), (6, .long (zL (y : Int))), (8, .int (zI (i : Int)))]) S d_B_commonDivisorOf_33 (by decide) rfl ?_
        refine z_lload S d_B_commonDivisorOf_35 1 rfl ?_
        refine z_lstore (lv' := [(6, .long (zL x3)), (4, .long (zL (y : Int))), (9, .long (zL x3)), (8, .int (zI (i : Int)))]) S d_B_commonDivisorOf_37 (by decide) rfl ?_
        refine z_iinc (y := ((i + 1 : Nat) : Int)) (lv' := [(8, .int (zI ((i + 1 : Nat) : Int))), (6, .long (zL x3)), (4, .long (zL (y : Int))), (9, .long (zL x3))]) S d_B_commonDivisorOf_39 3 rfl (by omega) (by decide) rfl ?_
        refine z_goto (tgt := 9) S d_B_commonDivisorOf_42 (by decide) ?_
        refine z_lv (lv' := [(4, .long (zL (y : Int))), (6, .long (zL x3)), (8, .int (zI ((i + 1 : Nat) : Int)))]) [2, 1, 0] rfl ?_
        refine z_lq (lv' := [(4, .long (zL (y : Int))), (6, .long (zL ((x % y : Nat) : Int))), (8, .int (zI ((i + 1 : Nat) : Int)))]) (congrArg (fun zzz : Int => ([(4, .long (zL (y : Int))), (6, .long (zL zzz)), (8, .int (zI ((i + 1 : Nat) : Int)))] : List (Nat × Value))) (show (x3 : Int) = ((x % y : Nat) : Int) by omega)) ?_
        exact ih9 ((i + 1), y, (x % y), n2) (show (Nat.gcd y (x % y) = Nat.gcd ga gb) ∧ (y < 4000000000000000000) ∧ ((x % y) < 4000000000000000000) ∧ (gJ y (x % y) (i + 1) n2) from ⟨by rw [gcd_st]; exact hgc, hy, by omega, hJ2⟩) (show (x % y) < y from by exact hmod)
set_option maxHeartbeats 4000000 in
set_option maxRecDepth 100000 in
theorem s_B_commonDivisor (l : Launch) (dC : Nat → ClassId) (dI : Nat → Nat → Nat) (cI cL : ClassId) (qT : Nat) (kb : Nat) (kl : Nat) (kla : Nat) (lx : Nat) (kr : Nat) (kra : Nat) (rx : Nat) (kq : Nat) (hlx : lx < 1000000000 ^ 12) (hrx : rx < 1000000000 ^ 12) (h0 : 0 < lx) : Ct l y_B_commonDivisor (Cond.code y_B_commonDivisor c_B_commonDivisor 5 (some (.object "KiloFractions$Whole")) :: zB) { frames := 4, cells := 0, slots := 0, locals := 105 } (dC, dI) zcl [(cI, .int), (cL, .long)] (zG cI cL qT) [.ref kb] [oB kb kl kr kq, oW kl kla ((us lx : Nat) : Int), aI cI kla 12 (wa lx), oW kr kra ((us rx : Nat) : Int), aI cI kra 12 (wa rx)] (fun rv wv => ∃ rq : Nat, ∃ l2 : Nat, ∃ r2 : Nat, ((kl = rq ∧ l2 = Nat.gcd lx rx) ∨ (kr = rq ∧ r2 = Nat.gcd lx rx)) ∧ (l2 < 1000000000 ^ 12) ∧ (r2 < 1000000000 ^ 12) ∧ rv = .ref rq ∧ wv = [oB kb kl kr kq, oW kl kla ((us l2 : Nat) : Int), aI cI kla 12 (wa l2), oW kr kra ((us r2 : Nat) : Int), aI cI kra 12 (wa r2)]) 0 0 := by
  refine Cm.ofZ (cc := c_B_commonDivisor) (maxL := 5) (ret := (some (.object "KiloFractions$Whole"))) (by decide) rfl (Nat.le_of_ble_eq_true rfl) rfl ?_
  intro p e s m below meth c A S hr hlo hnm hK hg hA hAe
  have hGok := zG_ok cI cL qT
  show ZZ _ _ _ _ _ _ _ _ _ _ _ _ _ _ _ _ _ _ 0 [(0, .ref kb)] [] [oB kb kl kr kq, oW kl kla ((us lx : Nat) : Int), aI cI kla 12 (wa lx), oW kr kra ((us rx : Nat) : Int), aI cI kra 12 (wa rx)]
  refine z_aload_n S d_B_commonDivisor_0 0 rfl ?_
  refine z_get S hK la_B 0 rfl rfl 0 (by decide) k_B_12 rfl d_B_commonDivisor_1 ?_
  refine z_astore_n (lv' := [(1, .ref kl), (0, .ref kb)]) S d_B_commonDivisor_4 rfl (by decide) rfl ?_
  refine z_aload_n S d_B_commonDivisor_5 1 rfl ?_
  refine z_get S hK la_B 0 rfl rfl 1 (by decide) k_B_18 rfl d_B_commonDivisor_6 ?_
  refine z_astore_n (lv' := [(2, .ref kr), (1, .ref kl), (0, .ref kb)]) S d_B_commonDivisor_9 rfl (by decide) rfl ?_
  refine z_iconst S d_B_commonDivisor_10 ?_
  refine z_istore_n (lv' := [(3, .int (zI 0)), (2, .ref kr), (1, .ref kl), (0, .ref kb)]) S d_B_commonDivisor_11 rfl (by decide) rfl ?_
  refine z_lv (lv' := [(0, .ref kb), (1, .ref kl), (2, .ref kr), (3, .int (zI 0))]) [3, 2, 1, 0] rfl ?_
  refine z_lq (lv' := [(0, .ref kb), (1, .ref kl), (2, .ref kr), (3, .int (zI ((0 : Nat) : Int)))]) (congrArg (fun zzz : Int => ([(0, .ref kb), (1, .ref kl), (2, .ref kr), (3, .int (zI zzz))] : List (Nat × Value))) (show (0 : Int) = ((0 : Nat) : Int) by omega)) ?_
  refine z_loop (I := fun (zz : Nat × Nat × Nat × Nat × Nat × Nat × Nat × Nat) => match zz with | (i, n, bg, ba, sm, sa, x, y) => ((bg = kl ∧ ba = kla ∧ sm = kr ∧ sa = kra) ∨ (bg = kr ∧ ba = kra ∧ sm = kl ∧ sa = kla)) ∧ (Nat.gcd x y = Nat.gcd lx rx) ∧ (x < 1000000000 ^ 12) ∧ (y < 1000000000 ^ 12) ∧ (gJ x y i n)) (μ := fun (zz : Nat × Nat × Nat × Nat × Nat × Nat × Nat × Nat) => match zz with | (i, n, bg, ba, sm, sa, x, y) => y) (LV := fun (zz : Nat × Nat × Nat × Nat × Nat × Nat × Nat × Nat) => match zz with | (i, n, bg, ba, sm, sa, x, y) => [(0, .ref kb), (1, .ref bg), (2, .ref sm), (3, .int (zI (i : Int)))]) (WS := fun (zz : Nat × Nat × Nat × Nat × Nat × Nat × Nat × Nat) => match zz with | (i, n, bg, ba, sm, sa, x, y) => [oB kb kl kr kq, oW bg ba ((us x : Nat) : Int), aI cI ba 12 (wa x), oW sm sa ((us y : Nat) : Int), aI cI sa 12 (wa y)]) (a := (0, 359, kl, kla, kr, kra, lx, rx)) ?_ ?_
  · exact (show ((kl = kl ∧ kla = kla ∧ kr = kr ∧ kra = kra) ∨ (kl = kr ∧ kla = kra ∧ kr = kl ∧ kra = kla)) ∧ (Nat.gcd lx rx = Nat.gcd lx rx) ∧ (lx < 1000000000 ^ 12) ∧ (rx < 1000000000 ^ 12) ∧ (gJ lx rx 0 359) from ⟨Or.inl ⟨rfl, rfl, rfl, rfl⟩, rfl, hlx, hrx, gJ_0 (Nat.lt_of_lt_of_le hrx (by decide)) (by decide)⟩)
  · intro ⟨i, n, bg, ba, sm, sa, x, y⟩ hI ih12
    obtain ⟨hsw, hgc, hx, hy, hJ⟩ : ((bg = kl ∧ ba = kla ∧ sm = kr ∧ sa = kra) ∨ (bg = kr ∧ ba = kra ∧ sm = kl ∧ sa = kla)) ∧ (Nat.gcd x y = Nat.gcd lx rx) ∧ (x < 1000000000 ^ 12) ∧ (y < 1000000000 ^ 12) ∧ (gJ x y i n) := hI
    show ZZ _ _ _ _ _ _ _ _ _ _ _ _ _ _ _ _ _ _ 12 [(0, .ref kb), (1, .ref bg), (2, .ref sm), (3, .int (zI (i : Int)))] [] [oB kb kl kr kq, oW bg ba ((us x : Nat) : Int), aI cI ba 12 (wa x), oW sm sa ((us y : Nat) : Int), aI cI sa 12 (wa y)]
    have hJi := gJ_i hJ
    have huy := us_le y
    have hb2 := b2_r (us y ≤ 2)
    have hb3 := b2_r (y = 0)
    refine z_iload_n S d_B_commonDivisor_12 3 rfl ?_
    refine z_sipush S d_B_commonDivisor_13 rfl ?_
    refine z_icmp_ge (tgt := 45) S d_B_commonDivisor_16 (by decide) (by omega) (by omega) (fun c1 => ?_) (fun c1 => ?_)
    · skip
      exact absurd c1 (by omega)
    · skip
      refine z_aload_n S d_B_commonDivisor_19 2 rfl ?_
      refine z_callVa (As := []) (st := []) (wc := [oW sm sa ((us y : Nat) : Int)]) (wr := [oB kb kl kr kq, oW bg ba ((us x : Nat) : Int), aI cI ba 12 (wa x), aI cI sa 12 (wa y)]) S hGok hK hg hA (s_W_isShort l dC dI cI cL qT sm sa y ) (zcwV S (List.mem_cons_of_mem _ k_B_93) mV_W_isShort k_B_93 hd_W_isShort rfl rfl ⟨Nat.le_of_ble_eq_true rfl, Nat.le_of_ble_eq_true rfl⟩) rfl (Nat.le_of_ble_eq_true rfl) d_B_commonDivisor_20 ⟨Nat.le_of_ble_eq_true rfl, Nat.le_of_ble_eq_true rfl⟩ rfl [3] [0, 1, 2, 4] 3 rfl rfl rfl (by decide) rfl rfl rfl (by decide) (by decide) (fun x w hp => ?_)
      obtain ⟨rfl, rfl⟩ := hp
      show ZZ _ _ _ _ _ _ _ _ _ _ _ _ _ _ _ _ _ _ 23 [(0, .ref kb), (1, .ref bg), (2, .ref sm), (3, .int (zI (i : Int)))] [.int (zI (b2 (us y ≤ 2)))] [oB kb kl kr kq, oW bg ba ((us x : Nat) : Int), aI cI ba 12 (wa x), aI cI sa 12 (wa y), oW sm sa ((us y : Nat) : Int)]
      refine z_if_ne (tgt := 45) S d_B_commonDivisor_23 (by decide) (by omega) (fun c2 => ?_) (fun c2 => ?_)
      · skip
        refine z_aload_n S d_B_commonDivisor_45 2 rfl ?_
        refine z_callVa (As := []) (st := []) (wc := [oW sm sa ((us y : Nat) : Int)]) (wr := [oB kb kl kr kq, oW bg ba ((us x : Nat) : Int), aI cI ba 12 (wa x), aI cI sa 12 (wa y)]) S hGok hK hg hA (s_W_isZero l dC dI cI cL qT sm sa y (by omega)) (zcwV S (List.mem_cons_of_mem _ k_B_66) mV_W_isZero k_B_66 hd_W_isZero rfl rfl ⟨Nat.le_of_ble_eq_true rfl, Nat.le_of_ble_eq_true rfl⟩) rfl (Nat.le_of_ble_eq_true rfl) d_B_commonDivisor_46 ⟨Nat.le_of_ble_eq_true rfl, Nat.le_of_ble_eq_true rfl⟩ rfl [4] [0, 1, 2, 3] 4 rfl rfl rfl (by decide) rfl rfl rfl (by decide) (by decide) (fun x w hp => ?_)
        obtain ⟨rfl, rfl⟩ := hp
        show ZZ _ _ _ _ _ _ _ _ _ _ _ _ _ _ _ _ _ _ 49 [(0, .ref kb), (1, .ref bg), (2, .ref sm), (3, .int (zI (i : Int)))] [.int (zI (b2 (y = 0)))] [oB kb kl kr kq, oW bg ba ((us x : Nat) : Int), aI cI ba 12 (wa x), aI cI sa 12 (wa y), oW sm sa ((us y : Nat) : Int)]
        refine z_if_eq (tgt := 54) S d_B_commonDivisor_49 (by decide) (by omega) (fun c3 => ?_) (fun c3 => ?_)
        · skip
          have hy0 : 0 < y := by have := b2_0.mp c3; omega
          have hsh : us y ≤ 2 := by
            rcases Nat.lt_or_ge 2 (us y) with z | z
            · exact absurd (b2_f (P := us y ≤ 2) (by omega)) c2
            · exact z
          have hy2 := us_2 hy hsh
          have hmod := Nat.mod_lt x hy0
          have hB2 : (1000000000 : Nat) ^ 2 = 1000000000000000000 := by decide
          have hgl := gcd_l (b := x % y) hy0
          refine z_aload_n S d_B_commonDivisor_54 1 rfl ?_
          refine z_aload_n S d_B_commonDivisor_55 2 rfl ?_
          refine z_callVv (As := [.ref sm]) (st := []) (wc := [oW bg ba ((us x : Nat) : Int), aI cI ba 12 (wa x), oW sm sa ((us y : Nat) : Int), aI cI sa 12 (wa y)]) (wr := [oB kb kl kr kq]) S hGok hK hg hA (s_W_becomeRemainder l dC dI cI cL qT bg ba x sm sa y (by omega) (by omega)) (zcwV S (List.mem_cons_of_mem _ k_B_96) mV_W_becomeRemainder k_B_96 hd_W_becomeRemainder rfl rfl ⟨Nat.le_of_ble_eq_true rfl, Nat.le_of_ble_eq_true rfl⟩) rfl (Nat.le_of_ble_eq_true rfl) d_B_commonDivisor_56 ⟨Nat.le_of_ble_eq_true rfl, Nat.le_of_ble_eq_true rfl⟩ rfl [1, 2, 4, 3] [0] 1 rfl rfl rfl (by decide) rfl rfl rfl (by decide) (by decide) (fun w hp => ?_)
          subst hp
          show ZZ _ _ _ _ _ _ _ _ _ _ _ _ _ _ _ _ _ _ 59 [(0, .ref kb), (1, .ref bg), (2, .ref sm), (3, .int (zI (i : Int)))] [] [oB kb kl kr kq, oW bg ba ((us (x % y) : Nat) : Int), aI cI ba 12 (wa (x % y)), oW sm sa ((us y : Nat) : Int), aI cI sa 12 (wa y)]
          refine z_aload_n S d_B_commonDivisor_59 2 rfl ?_
          refine z_aload_n S d_B_commonDivisor_60 2 rfl ?_
          refine z_callVa (As := []) (st := [.ref sm]) (wc := [oW sm sa ((us y : Nat) : Int), aI cI sa 12 (wa y)]) (wr := [oB kb kl kr kq, oW bg ba ((us (x % y) : Nat) : Int), aI cI ba 12 (wa (x % y))]) S hGok hK hg hA (s_W_asLong l dC dI cI cL qT sm sa y (by omega) hy2) (zcwV S (List.mem_cons_of_mem _ k_B_99) mV_W_asLong k_B_99 hd_W_asLong rfl rfl ⟨Nat.le_of_ble_eq_true rfl, Nat.le_of_ble_eq_true rfl⟩) rfl (Nat.le_of_ble_eq_true rfl) d_B_commonDivisor_61 ⟨Nat.le_of_ble_eq_true rfl, Nat.le_of_ble_eq_true rfl⟩ rfl [3, 4] [0, 1, 2] 3 rfl rfl rfl (by decide) rfl rfl rfl (by decide) (by decide) (fun x w hp => ?_)
          obtain ⟨rfl, rfl⟩ := hp
          show ZZ _ _ _ _ _ _ _ _ _ _ _ _ _ _ _ _ _ _ 64 [(0, .ref kb), (1, .ref bg), (2, .ref sm), (3, .int (zI (i : Int)))] [.long (zL (y : Int)), .ref sm] [oB kb kl kr kq, oW bg ba ((us (x % y) : Nat) : Int), aI cI ba 12 (wa (x % y)), oW sm sa ((us y : Nat) : Int), aI cI sa 12 (wa y)]
          refine z_aload_n S d_B_commonDivisor_64 1 rfl ?_
          refine z_callVa (As := []) (st := [.long (zL (y : Int)), .ref sm]) (wc := [oW bg ba ((us (x % y) : Nat) : Int), aI cI ba 12 (wa (x % y))]) (wr := [oB kb kl kr kq, oW sm sa ((us y : Nat) : Int), aI cI sa 12 (wa y)]) S hGok hK hg hA (s_W_asLong l dC dI cI cL qT bg ba (x % y) (by omega) (by omega)) (zcwV S (List.mem_cons_of_mem _ k_B_99) mV_W_asLong k_B_99 hd_W_asLong rfl rfl ⟨Nat.le_of_ble_eq_true rfl, Nat.le_of_ble_eq_true rfl⟩) rfl (Nat.le_of_ble_eq_true rfl) d_B_commonDivisor_65 ⟨Nat.le_of_ble_eq_true rfl, Nat.le_of_ble_eq_true rfl⟩ rfl [1, 2] [0, 3, 4] 1 rfl rfl rfl (by decide) rfl rfl rfl (by decide) (by decide) (fun x w hp => ?_)
          obtain ⟨rfl, rfl⟩ := hp
          show ZZ _ _ _ _ _ _ _ _ _ _ _ _ _ _ _ _ _ _ 68 [(0, .ref kb), (1, .ref bg), (2, .ref sm), (3, .int (zI (i : Int)))] [.long (zL ((x % y : Nat) : Int)), .long (zL (y : Int)), .ref sm] [oB kb kl kr kq, oW sm sa ((us y : Nat) : Int), aI cI sa 12 (wa y), oW bg ba ((us (x % y) : Nat) : Int), aI cI ba 12 (wa (x % y))]
          refine z_callSa (As := [.long (zL (y : Int)), .long (zL ((x % y : Nat) : Int))]) (st := [.ref sm]) (wc := []) (wr := [oB kb kl kr kq, oW sm sa ((us y : Nat) : Int), aI cI sa 12 (wa y), oW bg ba ((us (x % y) : Nat) : Int), aI cI ba 12 (wa (x % y))]) S hGok hK hg hA (s_B_commonDivisorOf l dC dI cI cL qT y (x % y) (by omega) (by omega)) (zcwS S k_B_103 mS_B_commonDivisorOf hd_B_commonDivisorOf rfl rfl ⟨Nat.le_of_ble_eq_true rfl, Nat.le_of_ble_eq_true rfl⟩) rfl (Nat.le_of_ble_eq_true rfl) d_B_commonDivisor_68 ⟨Nat.le_of_ble_eq_true rfl, Nat.le_of_ble_eq_true rfl⟩ rfl [] [0, 1, 2, 3, 4] (by decide) rfl rfl rfl (by decide) (by decide) (fun x w hp => ?_)
          obtain ⟨rfl, rfl⟩ := hp
          show ZZ _ _ _ _ _ _ _ _ _ _ _ _ _ _ _ _ _ _ 71 [(0, .ref kb), (1, .ref bg), (2, .ref sm), (3, .int (zI (i : Int)))] [.long (zL ((Nat.gcd y (x % y) : Nat) : Int)), .ref sm] [oB kb kl kr kq, oW sm sa ((us y : Nat) : Int), aI cI sa 12 (wa y), oW bg ba ((us (x % y) : Nat) : Int), aI cI ba 12 (wa (x % y))]
          refine z_callVv (As := [.long (zL ((Nat.gcd y (x % y) : Nat) : Int))]) (st := []) (wc := [oW sm sa ((us y : Nat) : Int), aI cI sa 12 (wa y)]) (wr := [oB kb kl kr kq, oW bg ba ((us (x % y) : Nat) : Int), aI cI ba 12 (wa (x % y))]) S hGok hK hg hA (s_W_becomeSizeOf l dC dI cI cL qT sm sa ((us y : Nat) : Int) (wa y) ((Nat.gcd y (x % y) : Nat) : Int) (fun j hj => wa_hi (by omega) hj) (by omega)) (zcwV S (List.mem_cons_of_mem _ k_B_59) mV_W_becomeSizeOf k_B_59 hd_W_becomeSizeOf rfl rfl ⟨Nat.le_of_ble_eq_true rfl, Nat.le_of_ble_eq_true rfl⟩) rfl (Nat.le_of_ble_eq_true rfl) d_B_commonDivisor_71 ⟨Nat.le_of_ble_eq_true rfl, Nat.le_of_ble_eq_true rfl⟩ rfl [1, 2] [0, 3, 4] 1 rfl rfl rfl (by decide) rfl rfl rfl (by decide) (by decide) (fun w hp => ?_)
          subst hp
          show ZZ _ _ _ _ _ _ _ _ _ _ _ _ _ _ _ _ _ _ 74 [(0, .ref kb), (1, .ref bg), (2, .ref sm), (3, .int (zI (i : Int)))] [] [oB kb kl kr kq, oW bg ba ((us (x % y) : Nat) : Int), aI cI ba 12 (wa (x % y)), oW sm sa ((us (Int.natAbs ((Nat.gcd y (x % y) : Nat) : Int)) : Nat) : Int), aI cI sa 12 (wa (Int.natAbs ((Nat.gcd y (x % y) : Nat) : Int)))]
          refine z_wq (ws' := [oB kb kl kr kq, oW bg ba ((us (x % y) : Nat) : Int), aI cI ba 12 (wa (x % y)), oW sm sa ((us (Nat.gcd y (x % y)) : Nat) : Int), aI cI sa 12 (wa (Nat.gcd y (x % y)))]) (by rw [Int.natAbs_natCast]) ?_
          refine z_aload_n S d_B_commonDivisor_74 2 rfl ?_
          have hfin : Nat.gcd y (x % y) = Nat.gcd lx rx := by rw [gcd_st]; exact hgc
          have hm1 : x % y < 1000000000 ^ 12 := Nat.lt_of_le_of_lt (Nat.mod_le _ _) hx
          have hm2 : Nat.gcd y (x % y) < 1000000000 ^ 12 := Nat.lt_of_le_of_lt (gcd_l hy0) hy
          rcases hsw with ⟨e1, e2, e3, e4⟩ | ⟨e1, e2, e3, e4⟩
          · skip
            refine z_wq (ws' := [oB kb kl kr kq, oW kl kla ((us (x % y) : Nat) : Int), aI cI kla 12 (wa (x % y)), oW kr kra ((us (Nat.gcd y (x % y)) : Nat) : Int), aI cI kra 12 (wa (Nat.gcd y (x % y)))]) (by rw [e1, e2, e3, e4]) ?_
            exact z_aret (w := [oB kb kl kr kq, oW kl kla ((us (x % y) : Nat) : Int), aI cI kla 12 (wa (x % y)), oW kr kra ((us (Nat.gcd y (x % y)) : Nat) : Int), aI cI kra 12 (wa (Nat.gcd y (x % y)))]) S hr hlo hAe d_B_commonDivisor_75 [0, 1, 2, 3, 4] (by decide) rfl rfl ⟨Nat.le_refl _, Nat.le_refl _⟩ (⟨sm, x % y, Nat.gcd y (x % y), Or.inr ⟨e3.symm, hfin⟩, hm1, hm2, rfl, rfl⟩)
          · skip
            refine z_wq (ws' := [oB kb kl kr kq, oW kr kra ((us (x % y) : Nat) : Int), aI cI kra 12 (wa (x % y)), oW kl kla ((us (Nat.gcd y (x % y)) : Nat) : Int), aI cI kla 12 (wa (Nat.gcd y (x % y)))]) (by rw [e1, e2, e3, e4]) ?_
            exact z_aret (w := [oB kb kl kr kq, oW kl kla ((us (Nat.gcd y (x % y)) : Nat) : Int), aI cI kla 12 (wa (Nat.gcd y (x % y))), oW kr kra ((us (x % y) : Nat) : Int), aI cI kra 12 (wa (x % y))]) S hr hlo hAe d_B_commonDivisor_75 [0, 3, 4, 1, 2] (by decide) rfl rfl ⟨Nat.le_refl _, Nat.le_refl _⟩ (⟨sm, Nat.gcd y (x % y), x % y, Or.inl ⟨e3.symm, hfin⟩, hm2, hm1, rfl, rfl⟩)
        · skip
          refine z_aload_n S d_B_commonDivisor_52 1 rfl ?_
          have hfin : x = Nat.gcd lx rx := by rw [← hgc, (show y = 0 from b2_1.mp (by omega)), Nat.gcd_zero_right]
          rcases hsw with ⟨e1, e2, e3, e4⟩ | ⟨e1, e2, e3, e4⟩
          · skip
            refine z_wq (ws' := [oB kb kl kr kq, oW kl kla ((us x : Nat) : Int), aI cI kla 12 (wa x), aI cI kra 12 (wa y), oW kr kra ((us y : Nat) : Int)]) (by rw [e1, e2, e3, e4]) ?_
            exact z_aret (w := [oB kb kl kr kq, oW kl kla ((us x : Nat) : Int), aI cI kla 12 (wa x), oW kr kra ((us y : Nat) : Int), aI cI kra 12 (wa y)]) S hr hlo hAe d_B_commonDivisor_53 [0, 1, 2, 4, 3] (by decide) rfl rfl ⟨Nat.le_refl _, Nat.le_refl _⟩ (⟨bg, x, y, Or.inl ⟨e1.symm, hfin⟩, hx, hy, rfl, rfl⟩)
          · skip
            refine z_wq (ws' := [oB kb kl kr kq, oW kr kra ((us x : Nat) : Int), aI cI kra 12 (wa x), aI cI kla 12 (wa y), oW kl kla ((us y : Nat) : Int)]) (by rw [e1, e2, e3, e4]) ?_
            exact z_aret (w := [oB kb kl kr kq, oW kl kla ((us y : Nat) : Int), aI cI kla 12 (wa y), oW kr kra ((us x : Nat) : Int), aI cI kra 12 (wa x)]) S hr hlo hAe d_B_commonDivisor_53 [0, 4, 3, 1, 2] (by decide) rfl rfl ⟨Nat.le_refl _, Nat.le_refl _⟩ (⟨bg, y, x, Or.inr ⟨e1.symm, hfin⟩, hy, hx, rfl, rfl⟩)
      · skip
        have hns : ¬ us y ≤ 2 := b2_0.mp c2
        have hy0 : 0 < y := Nat.pos_of_ne_zero (fun z => absurd ((us_0 hy).mpr z) (by omega))
        obtain ⟨n2, hJ2⟩ := gJ_step hJ hy0
        have hmod := Nat.mod_lt x hy0
        have hsw2 : (sm = kl ∧ sa = kla ∧ bg = kr ∧ ba = kra) ∨ (sm = kr ∧ sa = kra ∧ bg = kl ∧ ba = kla) := by
          rcases hsw with ⟨a1, a2, a3, a4⟩ | ⟨a1, a2, a3, a4⟩
          · exact Or.inr ⟨a3, a4, a1, a2⟩
          · exact Or.inl ⟨a3, a4, a1, a2⟩
        refine z_aload_n S d_B_commonDivisor_26 1 rfl ?_
        refine z_aload_n S d_B_commonDivisor_27 2 rfl ?_
        refine z_callVv (As := [.ref sm]) (st := []) (wc := [oW bg ba ((us x : Nat) : Int), aI cI ba 12 (wa x), oW sm sa ((us y : Nat) : Int), aI cI sa 12 (wa y)]) (wr := [oB kb kl kr kq]) S hGok hK hg hA (s_W_becomeRemainder l dC dI cI cL qT bg ba x sm sa y (by omega) (by omega)) (zcwV S (List.mem_cons_of_mem _ k_B_96) mV_W_becomeRemainder k_B_96 hd_W_becomeRemainder rfl rfl ⟨Nat.le_of_ble_eq_true rfl, Nat.le_of_ble_eq_true rfl⟩) rfl (Nat.le_of_ble_eq_true rfl) d_B_commonDivisor_28 ⟨Nat.le_of_ble_eq_true rfl, Nat.le_of_ble_eq_true rfl⟩ rfl [1, 2, 4, 3] [0] 1 rfl rfl rfl (by decide) rfl rfl rfl (by decide) (by decide) (fun w hp => ?_)
        subst hp
        show ZZ _ _ _ _ _ _ _ _ _ _ _ _ _ _ _ _ _ _ 31 [(0, .ref kb), (1, .ref bg), (2, .ref sm), (3, .int (zI (i : Int)))] [] [oB kb kl kr kq, oW bg ba ((us (x % y) : Nat) : Int), aI cI ba 12 (wa (x % y)), oW sm sa ((us y : Nat) : Int), aI cI sa 12 (wa y)]
        refine z_aload_n S d_B_commonDivisor_31 1 rfl ?_
        refine z_astore (lv' := [(4, .ref bg), (0, .ref kb), (1, .ref bg), (2, .ref sm), (3, .int (zI (i : Int)))]) S d_B_commonDivisor_32 (by decide) rfl ?_
        refine z_aload_n S d_B_commonDivisor_34 3 rfl ?_
        refine z_astore_n (lv' := [(1, .ref sm), (4, .ref bg), (0, .ref kb), (2, .ref sm), (3, .int (zI (i : Int)))]) S d_B_commonDivisor_35 rfl (by decide) rfl ?_
        refine z_aload S d_B_commonDivisor_36 1 rfl ?_
        refine z_astore_n (lv' := [(2, .ref bg), (1, .ref sm), (4, .ref bg), (0, .ref kb), (3, .int (zI (i : Int)))]) S d_B_commonDivisor_38 rfl (by decide) rfl ?_
        refine z_iinc (y := ((i + 1 : Nat) : Int)) (lv' := [(3, .int (zI ((i + 1 : Nat) : Int))), (2, .ref bg), (1, .ref sm), (4, .ref bg), (0, .ref kb)]) S d_B_commonDivisor_39 4 rfl (by omega) (by decide) rfl ?_
        refine z_goto (tgt := 12) S d_B_commonDivisor_42 (by decide) ?_
        refine z_lv (lv' := [(0, .ref kb), (1, .ref sm), (2, .ref bg), (3, .int (zI ((i + 1 : Nat) : Int)))]) [4, 2, 1, 0] rfl ?_
        refine z_ws (ws' := [oB kb kl kr kq, oW sm sa ((us y : Nat) : Int), aI cI sa 12 (wa y), oW bg ba ((us (x % y) : Nat) : Int), aI cI ba 12 (wa (x % y))]) [0, 3, 4, 1, 2] (by decide) rfl rfl ?_
        exact ih12 ((i + 1), n2, sm, sa, bg, ba, y, (x % y)) (show ((sm = kl ∧ sa = kla ∧ bg = kr ∧ ba = kra) ∨ (sm = kr ∧ sa = kra ∧ bg = kl ∧ ba = kla)) ∧ (Nat.gcd y (x % y) = Nat.gcd lx rx) ∧ (y < 1000000000 ^ 12) ∧ ((x % y) < 1000000000 ^ 12) ∧ (gJ y (x % y) (i + 1) n2) from ⟨hsw2, by rw [gcd_st]; exact hgc, hy, by omega, hJ2⟩) (show (x % y) < y from by exact hmod)
set_option maxHeartbeats 4000000 in
set_option maxRecDepth 100000 in
theorem s_B_divideOut (l : Launch) (dC : Nat → ClassId) (dI : Nat → Nat → Nat) (cI cL : ClassId) (qT : Nat) (kb : Nat) (kl : Nat) (kr : Nat) (kq : Nat) (kqa : Nat) (qx : Nat) (t : Nat) (ta : Nat) (tx : Nat) (o : Nat) (oa : Nat) (ox : Nat) (hq : qx < 1000000000 ^ 12) (ht : tx < 1000000000 ^ 12) (ho : ox < 1000000000 ^ 12) : Cv l y_B_divideOut (Cond.code y_B_divideOut c_B_divideOut 3 none :: zB) { frames := 4, cells := 0, slots := 0, locals := 106 } (dC, dI) zcl [(cI, .int), (cL, .long)] (zG cI cL qT) [.ref kb, .ref t, .ref o] [oB kb kl kr kq, oW kq kqa ((us qx : Nat) : Int), aI cI kqa 12 (wa qx), oW t ta ((us tx : Nat) : Int), aI cI ta 12 (wa tx), oW o oa ((us ox : Nat) : Int), aI cI oa 12 (wa ox)] (fun wv => wv = [oB kb kl kr kq, oW kq kqa ((us (tx / ox) : Nat) : Int), aI cI kqa 12 (wa (tx / ox)), oW t ta ((us (tx / ox) : Nat) : Int), aI cI ta 12 (wa (tx / ox)), oW o oa ((us ox : Nat) : Int), aI cI oa 12 (wa ox)]) 0 0 := by
  refine Cm.ofZ (cc := c_B_divideOut) (maxL := 3) (ret := none) (by decide) rfl (Nat.le_of_ble_eq_true rfl) rfl ?_
  intro p e s m below meth c A S hr hlo hnm hK hg hA hAe
  have hGok := zG_ok cI cL qT
  show ZZ _ _ _ _ _ _ _ _ _ _ _ _ _ _ _ _ _ _ 0 [(0, .ref kb), (1, .ref t), (2, .ref o)] [] [oB kb kl kr kq, oW kq kqa ((us qx : Nat) : Int), aI cI kqa 12 (wa qx), oW t ta ((us tx : Nat) : Int), aI cI ta 12 (wa tx), oW o oa ((us ox : Nat) : Int), aI cI oa 12 (wa ox)]
  refine z_aload_n S d_B_divideOut_0 1 rfl ?_
  refine z_aload_n S d_B_divideOut_1 2 rfl ?_
  refine z_aload_n S d_B_divideOut_2 0 rfl ?_
  refine z_get S hK la_B 0 rfl rfl 2 (by decide) k_B_21 rfl d_B_divideOut_3 ?_
  refine z_callVv (As := [.ref o, .ref kq]) (st := []) (wc := [oW t ta ((us tx : Nat) : Int), aI cI ta 12 (wa tx), oW o oa ((us ox : Nat) : Int), aI cI oa 12 (wa ox), oW kq kqa ((us qx : Nat) : Int), aI cI kqa 12 (wa qx)]) (wr := [oB kb kl kr kq]) S hGok hK hg hA (s_W_divideBy l dC dI cI cL qT t ta tx o oa ox kq kqa ((us qx : Nat) : Int) (wa qx) (by omega) (by omega) (fun j hj => wa_hi (by omega) hj)) (zcwV S (List.mem_cons_of_mem _ k_B_63) mV_W_divideBy k_B_63 hd_W_divideBy rfl rfl ⟨Nat.le_of_ble_eq_true rfl, Nat.le_of_ble_eq_true rfl⟩) rfl (Nat.le_of_ble_eq_true rfl) d_B_divideOut_6 ⟨Nat.le_of_ble_eq_true rfl, Nat.le_of_ble_eq_true rfl⟩ rfl [3, 4, 5, 6, 1, 2] [0] 3 rfl rfl rfl (by decide) rfl rfl rfl (by decide) (by decide) (fun w hp => ?_)
  subst hp
  show ZZ _ _ _ _ _ _ _ _ _ _ _ _ _ _ _ _ _ _ 9 [(0, .ref kb), (1, .ref t), (2, .ref o)] [] [oB kb kl kr kq, oW t ta ((us (tx % ox) : Nat) : Int), aI cI ta 12 (wa (tx % ox)), oW o oa ((us ox : Nat) : Int), aI cI oa 12 (wa ox), oW kq kqa ((us (tx / ox) : Nat) : Int), aI cI kqa 12 (wa (tx / ox))]
  refine z_aload_n S d_B_divideOut_9 1 rfl ?_
  refine z_aload_n S d_B_divideOut_10 0 rfl ?_
  refine z_get S hK la_B 0 rfl rfl 2 (by decide) k_B_21 rfl d_B_divideOut_11 ?_
  refine z_callVv (As := [.ref kq]) (st := []) (wc := [oW t ta ((us (tx % ox) : Nat) : Int), aI cI ta 12 (wa (tx % ox)), oW kq kqa ((us (tx / ox) : Nat) : Int), aI cI kqa 12 (wa (tx / ox))]) (wr := [oB kb kl kr kq, oW o oa ((us ox : Nat) : Int), aI cI oa 12 (wa ox)]) S hGok hK hg hA (s_W_becomeCopy l dC dI cI cL qT t ta ((us (tx % ox) : Nat) : Int) (wa (tx % ox)) kq kqa (tx / ox) (Nat.lt_of_le_of_lt (Nat.div_le_self _ _) ht) (fun j hj => wa_hi (Nat.lt_of_le_of_lt (Nat.mod_le _ _) ht) hj)) (zcwV S (List.mem_cons_of_mem _ k_B_52) mV_W_becomeCopy k_B_52 hd_W_becomeCopy rfl rfl ⟨Nat.le_of_ble_eq_true rfl, Nat.le_of_ble_eq_true rfl⟩) rfl (Nat.le_of_ble_eq_true rfl) d_B_divideOut_14 ⟨Nat.le_of_ble_eq_true rfl, Nat.le_of_ble_eq_true rfl⟩ rfl [1, 2, 5, 6] [0, 3, 4] 1 rfl rfl rfl (by decide) rfl rfl rfl (by decide) (by decide) (fun w hp => ?_)
  subst hp
  show ZZ _ _ _ _ _ _ _ _ _ _ _ _ _ _ _ _ _ _ 17 [(0, .ref kb), (1, .ref t), (2, .ref o)] [] [oB kb kl kr kq, oW o oa ((us ox : Nat) : Int), aI cI oa 12 (wa ox), oW t ta ((us (tx / ox) : Nat) : Int), aI cI ta 12 (wa (tx / ox)), oW kq kqa ((us (tx / ox) : Nat) : Int), aI cI kqa 12 (wa (tx / ox))]
  exact z_vret (w := [oB kb kl kr kq, oW kq kqa ((us (tx / ox) : Nat) : Int), aI cI kqa 12 (wa (tx / ox)), oW t ta ((us (tx / ox) : Nat) : Int), aI cI ta 12 (wa (tx / ox)), oW o oa ((us ox : Nat) : Int), aI cI oa 12 (wa ox)]) S hr hlo hAe d_B_divideOut_17 [0, 5, 6, 3, 4, 1, 2] (by decide) rfl rfl ⟨Nat.le_refl _, Nat.le_refl _⟩ (rfl)
