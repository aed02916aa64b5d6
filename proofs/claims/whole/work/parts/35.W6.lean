set_option maxHeartbeats 4000000 in
set_option maxRecDepth 100000 in
theorem s_W_takeOut (l : Launch) (dC : Nat → ClassId) (dI : Nat → Nat → Nat) (cI cL : ClassId) (qT : Nat) (q : Nat) (qa : Nat) (t : Nat) (r : Nat) (ra : Nat) (o : Nat) (sh : Nat) (ht : t < 1000000000 ^ 12) (ho : o < 1000000000 ^ 12) (hsh : sh ≤ 12) (h0 : 0 < o) (htl : t < o * 1000000000 ^ (sh + 1)) : Ct l y_W_takeOut (Cond.code y_W_takeOut c_W_takeOut 8 (some .long) :: zB) { frames := 2, cells := 0, slots := 0, locals := 56 } (dC, dI) zcl [(cI, .int), (cL, .long)] (zG cI cL qT) [.ref q, .ref r, .int (zI (sh : Int))] [oW q qa ((us t : Nat) : Int), aI cI qa 12 (wa t), oW r ra ((us o : Nat) : Int), aI cI ra 12 (wa o)] (fun rv wv => rv = .long (zL ((t / (o * 1000000000 ^ sh) : Nat) : Int)) ∧ wv = [oW q qa ((us (t % (o * 1000000000 ^ sh)) : Nat) : Int), aI cI qa 12 (wa (t % (o * 1000000000 ^ sh))), oW r ra ((us o : Nat) : Int), aI cI ra 12 (wa o)]) 0 0 := by
  refine Cm.ofZ (cc := c_W_takeOut) (maxL := 8) (ret := (some .long)) (by decide) rfl (Nat.le_of_ble_eq_true rfl) rfl ?_
  intro p e s m below meth c A S hr hlo hnm hK hg hA hAe
  have hGok := zG_ok cI cL qT
  show ZZ _ _ _ _ _ _ _ _ _ _ _ _ _ _ _ _ _ _ 0 [(0, .ref q), (1, .ref r), (2, .int (zI (sh : Int)))] [] [oW q qa ((us t : Nat) : Int), aI cI qa 12 (wa t), oW r ra ((us o : Nat) : Int), aI cI ra 12 (wa o)]
  have hu1 := us_le t
  have hu2 := us_le o
  refine z_lconst (z := 0) S d_W_takeOut_0 rfl ?_
  refine z_lstore_n (lv' := [(3, .long (zL 0)), (0, .ref q), (1, .ref r), (2, .int (zI (sh : Int)))]) S d_W_takeOut_1 rfl (by decide) rfl ?_
  refine z_iconst S d_W_takeOut_2 ?_
  refine z_istore (lv' := [(5, .int (zI 0)), (3, .long (zL 0)), (0, .ref q), (1, .ref r), (2, .int (zI (sh : Int)))]) S d_W_takeOut_3 (by decide) rfl ?_
  refine z_lv (lv' := [(0, .ref q), (1, .ref r), (2, .int (zI (sh : Int))), (3, .long (zL 0)), (5, .int (zI 0))]) [2, 3, 4, 1, 0] rfl ?_
  refine z_lq (lv' := [(0, .ref q), (1, .ref r), (2, .int (zI (sh : Int))), (3, .long (zL ((0 : Nat) : Int))), (5, .int (zI ((0 : Nat) : Int)))]) (Eq.trans ((congrArg (fun zzz : Int => ([(0, .ref q), (1, .ref r), (2, .int (zI (sh : Int))), (3, .long (zL zzz)), (5, .int (zI 0))] : List (Nat × Value))) (show (0 : Int) = ((0 : Nat) : Int) by omega))) (congrArg (fun zzz : Int => ([(0, .ref q), (1, .ref r), (2, .int (zI (sh : Int))), (3, .long (zL ((0 : Nat) : Int))), (5, .int (zI zzz))] : List (Nat × Value))) (show (0 : Int) = ((0 : Nat) : Int) by omega))) ?_
  refine z_loop (I := fun (zz : Nat × Nat × Nat) => match zz with | (i, fo, ti) => (fo * (o * 1000000000 ^ sh) + ti = t) ∧ (i = 0 ∨ ti / (o * 1000000000 ^ sh) + i ≤ 11)) (μ := fun (zz : Nat × Nat × Nat) => match zz with | (i, fo, ti) => 1000 - i) (LV := fun (zz : Nat × Nat × Nat) => match zz with | (i, fo, ti) => [(0, .ref q), (1, .ref r), (2, .int (zI (sh : Int))), (3, .long (zL (fo : Int))), (5, .int (zI (i : Int)))]) (WS := fun (zz : Nat × Nat × Nat) => match zz with | (i, fo, ti) => [oW q qa ((us ti : Nat) : Int), aI cI qa 12 (wa ti), oW r ra ((us o : Nat) : Int), aI cI ra 12 (wa o)]) (a := (0, 0, t)) ?_ ?_
  · exact (show (0 * (o * 1000000000 ^ sh) + t = t) ∧ (0 = 0 ∨ t / (o * 1000000000 ^ sh) + 0 ≤ 11) from ⟨by rw [Nat.zero_mul, Nat.zero_add], Or.inl rfl⟩)
  · intro ⟨i, fo, ti⟩ hI ih5
    obtain ⟨he, hb⟩ : (fo * (o * 1000000000 ^ sh) + ti = t) ∧ (i = 0 ∨ ti / (o * 1000000000 ^ sh) + i ≤ 11) := hI
    show ZZ _ _ _ _ _ _ _ _ _ _ _ _ _ _ _ _ _ _ 5 [(0, .ref q), (1, .ref r), (2, .int (zI (sh : Int))), (3, .long (zL (fo : Int))), (5, .int (zI (i : Int)))] [] [oW q qa ((us ti : Nat) : Int), aI cI qa 12 (wa ti), oW r ra ((us o : Nat) : Int), aI cI ra 12 (wa o)]
    have hti : ti < 1000000000 ^ 12 := by omega
    have hqn : (0 : Int) ≤ ((ti / (o * 1000000000 ^ sh) : Nat) : Int) := Int.natCast_nonneg _
    refine z_iload S d_W_takeOut_5 4 rfl ?_
    refine z_sipush S d_W_takeOut_7 rfl ?_
    refine z_icmp_ge (tgt := 53) S d_W_takeOut_10 (by decide) (by omega) (by omega) (fun c1 => ?_) (fun c1 => ?_)
    · skip
      exact absurd c1 (by omega)
    · skip
      refine z_aload_n S d_W_takeOut_13 0 rfl ?_
      refine z_aload_n S d_W_takeOut_14 1 rfl ?_
      refine z_iload_n S d_W_takeOut_15 2 rfl ?_
      refine z_callVa (As := [.ref r, .int (zI (sh : Int))]) (st := []) (wc := [oW q qa ((us ti : Nat) : Int), aI cI qa 12 (wa ti), oW r ra ((us o : Nat) : Int), aI cI ra 12 (wa o)]) (wr := []) S hGok hK hg hA (s_W_compareWith l dC dI cI cL qT q qa ti r ra o sh hti ho hsh (Or.inl h0)) (zcwV S (List.mem_cons_of_mem _ k_W_46) mV_W_compareWith k_W_46 hd_W_compareWith rfl rfl ⟨Nat.le_of_ble_eq_true rfl, Nat.le_of_ble_eq_true rfl⟩) rfl (Nat.le_of_ble_eq_true rfl) d_W_takeOut_16 ⟨Nat.le_of_ble_eq_true rfl, Nat.le_of_ble_eq_true rfl⟩ rfl [0, 1, 2, 3] [] 0 rfl rfl rfl (by decide) rfl rfl rfl (by decide) (by decide) (fun x w hp => ?_)
      obtain ⟨rfl, rfl⟩ := hp
      show ZZ _ _ _ _ _ _ _ _ _ _ _ _ _ _ _ _ _ _ 19 [(0, .ref q), (1, .ref r), (2, .int (zI (sh : Int))), (3, .long (zL (fo : Int))), (5, .int (zI (i : Int)))] [.int (zI (cmpN (ti / 1000000000 ^ sh) o))] [oW q qa ((us ti : Nat) : Int), aI cI qa 12 (wa ti), oW r ra ((us o : Nat) : Int), aI cI ra 12 (wa o)]
      have hcr := cmpN_r (ti / 1000000000 ^ sh) o
      refine z_if_lt (tgt := 53) S d_W_takeOut_19 (by decide) (by omega) (fun c2 => ?_) (fun c2 => ?_)
      · skip
        obtain ⟨r1, r2⟩ := tk_end he (tk_lt.mp (cmpN_neg c2))
        refine z_wq (ws' := [oW q qa ((us (t % (o * 1000000000 ^ sh)) : Nat) : Int), aI cI qa 12 (wa (t % (o * 1000000000 ^ sh))), oW r ra ((us o : Nat) : Int), aI cI ra 12 (wa o)]) (by rw [r2]) ?_
        refine z_lq (lv' := [(0, .ref q), (1, .ref r), (2, .int (zI (sh : Int))), (3, .long (zL ((t / (o * 1000000000 ^ sh) : Nat) : Int))), (5, .int (zI (i : Int)))]) (by rw [r1]) ?_
        refine z_lload_n S d_W_takeOut_53 3 rfl ?_
        exact z_lret (w := [oW q qa ((us (t % (o * 1000000000 ^ sh)) : Nat) : Int), aI cI qa 12 (wa (t % (o * 1000000000 ^ sh))), oW r ra ((us o : Nat) : Int), aI cI ra 12 (wa o)]) S hr hlo hAe d_W_takeOut_54 [0, 1, 2, 3] (by decide) rfl rfl ⟨Nat.le_refl _, Nat.le_refl _⟩ (⟨rfl, rfl⟩)
      · skip
        have hMi : o * 1000000000 ^ sh ≤ ti := by
          have := cmpN_nn c2
          rcases Nat.lt_or_ge ti (o * 1000000000 ^ sh) with z | z
          · exact absurd (tk_lt.mpr z) (by omega)
          · exact z
        refine z_lconst (z := 1) S d_W_takeOut_22 rfl ?_
        refine z_aload_n S d_W_takeOut_23 0 rfl ?_
        refine z_aload_n S d_W_takeOut_24 1 rfl ?_
        refine z_iload_n S d_W_takeOut_25 2 rfl ?_
        refine z_callVa (As := [.ref r, .int (zI (sh : Int))]) (st := [.long (zL 1)]) (wc := [oW q qa ((us ti : Nat) : Int), aI cI qa 12 (wa ti), oW r ra ((us o : Nat) : Int), aI cI ra 12 (wa o)]) (wr := []) S hGok hK hg hA (s_W_guessOften l dC dI cI cL qT q qa ti r ra o sh hti ho hsh h0 (by omega)) (zcwV S (List.mem_cons_of_mem _ k_W_50) mV_W_guessOften k_W_50 hd_W_guessOften rfl rfl ⟨Nat.le_of_ble_eq_true rfl, Nat.le_of_ble_eq_true rfl⟩) rfl (Nat.le_of_ble_eq_true rfl) d_W_takeOut_26 ⟨Nat.le_of_ble_eq_true rfl, Nat.le_of_ble_eq_true rfl⟩ rfl [0, 1, 2, 3] [] 0 rfl rfl rfl (by decide) rfl rfl rfl (by decide) (by decide) (fun x w hp => ?_)
        obtain ⟨gn, fg1, fg2, fg3, rfl, rfl⟩ := hp
        show ZZ _ _ _ _ _ _ _ _ _ _ _ _ _ _ _ _ _ _ 29 [(0, .ref q), (1, .ref r), (2, .int (zI (sh : Int))), (3, .long (zL (fo : Int))), (5, .int (zI (i : Int)))] [.long (zL (gn : Int)), .long (zL 1)] [oW q qa ((us ti : Nat) : Int), aI cI qa 12 (wa ti), oW r ra ((us o : Nat) : Int), aI cI ra 12 (wa o)]
        refine z_lmax S k_W_53 d_W_takeOut_29 (by omega) (by omega) (Nat.le_of_ble_eq_true rfl) (Nat.le_of_ble_eq_true rfl) (Nat.le_of_ble_eq_true rfl) (Nat.le_of_ble_eq_true rfl) ?_
        refine z_topl (fun x3 ex3 => ?_)
        refine z_lstore (lv' := [(6, .long (zL x3)), (0, .ref q), (1, .ref r), (2, .int (zI (sh : Int))), (3, .long (zL (fo : Int))), (5, .int (zI (i : Int)))]) S d_W_takeOut_32 (by decide) rfl ?_
        obtain ⟨gg, hgg⟩ : ∃ gg : Nat, gg = max 1 gn := ⟨_, rfl⟩
        refine z_lq (lv' := [(6, .long (zL (gg : Int))), (0, .ref q), (1, .ref r), (2, .int (zI (sh : Int))), (3, .long (zL (fo : Int))), (5, .int (zI (i : Int)))]) (congrArg (fun zzz : Int => ([(6, .long (zL zzz)), (0, .ref q), (1, .ref r), (2, .int (zI (sh : Int))), (3, .long (zL (fo : Int))), (5, .int (zI (i : Int)))] : List (Nat × Value))) (show x3 = (gg : Int) by omega)) ?_
        have hmul : o * gg * 1000000000 ^ sh = gg * (o * 1000000000 ^ sh) := by rw [Nat.mul_comm o gg, Nat.mul_assoc]
        have hql := tk_ql h0 (show ti < o * 1000000000 ^ (sh + 1) by omega)
        have hgq : gg ≤ ti / (o * 1000000000 ^ sh) := by
          have q1 : gn ≤ ti / (o * 1000000000 ^ sh) := (Nat.le_div_iff_mul_le (tk_pos h0)).mpr fg1
          have q2 : 1 ≤ ti / (o * 1000000000 ^ sh) := (Nat.le_div_iff_mul_le (tk_pos h0)).mpr (by rw [Nat.one_mul]; exact hMi)
          omega
        have hgm : gg * (o * 1000000000 ^ sh) ≤ ti := (Nat.le_div_iff_mul_le (tk_pos h0)).mp hgq
        have hq := tk_q (tk_pos h0) hgm
        refine z_aload_n S d_W_takeOut_34 1 rfl ?_
        refine z_aload_n S d_W_takeOut_35 2 rfl ?_
        refine z_lload S d_W_takeOut_36 0 rfl ?_
        refine z_iload_n S d_W_takeOut_38 3 rfl ?_
        refine z_callVv (As := [.ref r, .long (zL (gg : Int)), .int (zI (sh : Int))]) (st := []) (wc := [oW q qa ((us ti : Nat) : Int), aI cI qa 12 (wa ti), oW r ra ((us o : Nat) : Int), aI cI ra 12 (wa o)]) (wr := []) S hGok hK hg hA (s_W_decreaseBy l dC dI cI cL qT q qa ti r ra o gg sh hti ho (by omega) (by rw [hmul]; exact hgm) hsh) (zcwV S (List.mem_cons_of_mem _ k_W_59) mV_W_decreaseBy k_W_59 hd_W_decreaseBy rfl rfl ⟨Nat.le_of_ble_eq_true rfl, Nat.le_of_ble_eq_true rfl⟩) rfl (Nat.le_of_ble_eq_true rfl) d_W_takeOut_39 ⟨Nat.le_of_ble_eq_true rfl, Nat.le_of_ble_eq_true rfl⟩ rfl [0, 1, 2, 3] [] 0 rfl rfl rfl (by decide) rfl rfl rfl (by decide) (by decide) (fun w hp => ?_)
        subst hp
        show ZZ _ _ _ _ _ _ _ _ _ _ _ _ _ _ _ _ _ _ 42 [(6, .long (zL (gg : Int))), (0, .ref q), (1, .ref r), (2, .int (zI (sh : Int))), (3, .long (zL (fo : Int))), (5, .int (zI (i : Int)))] [] [oW q qa ((us (ti - o * gg * 1000000000 ^ sh) : Nat) : Int), aI cI qa 12 (wa (ti - o * gg * 1000000000 ^ sh)), oW r ra ((us o : Nat) : Int), aI cI ra 12 (wa o)]
        refine z_lload_n S d_W_takeOut_42 4 rfl ?_
        refine z_lload S d_W_takeOut_43 0 rfl ?_
        refine z_ladd S d_W_takeOut_45 ?_
        refine z_topl (fun x4 ex4 => ?_)
        refine z_lstore_n (lv' := [(3, .long (zL x4)), (6, .long (zL (gg : Int))), (0, .ref q), (1, .ref r), (2, .int (zI (sh : Int))), (5, .int (zI (i : Int)))]) S d_W_takeOut_46 rfl (by decide) rfl ?_
        refine z_iinc (y := ((i + 1 : Nat) : Int)) (lv' := [(5, .int (zI ((i + 1 : Nat) : Int))), (3, .long (zL x4)), (6, .long (zL (gg : Int))), (0, .ref q), (1, .ref r), (2, .int (zI (sh : Int)))]) S d_W_takeOut_47 5 rfl (by omega) (by decide) rfl ?_
        refine z_goto (tgt := 5) S d_W_takeOut_50 (by decide) ?_
        refine z_lv (lv' := [(0, .ref q), (1, .ref r), (2, .int (zI (sh : Int))), (3, .long (zL x4)), (5, .int (zI ((i + 1 : Nat) : Int)))]) [3, 4, 5, 1, 0] rfl ?_
        refine z_lq (lv' := [(0, .ref q), (1, .ref r), (2, .int (zI (sh : Int))), (3, .long (zL ((fo + gg : Nat) : Int))), (5, .int (zI ((i + 1 : Nat) : Int)))]) (congrArg (fun zzz : Int => ([(0, .ref q), (1, .ref r), (2, .int (zI (sh : Int))), (3, .long (zL zzz)), (5, .int (zI ((i + 1 : Nat) : Int)))] : List (Nat × Value))) (show (x4 : Int) = ((fo + gg : Nat) : Int) by omega)) ?_
        exact ih5 ((i + 1), (fo + gg), (ti - o * gg * 1000000000 ^ sh)) (show ((fo + gg) * (o * 1000000000 ^ sh) + (ti - o * gg * 1000000000 ^ sh) = t) ∧ ((i + 1) = 0 ∨ (ti - o * gg * 1000000000 ^ sh) / (o * 1000000000 ^ sh) + (i + 1) ≤ 11) from ⟨by rw [hmul, Nat.add_mul]; omega, by rw [hmul]; exact Or.inr (by omega)⟩) (show 1000 - (i + 1) < 1000 - i from by omega)
set_option maxHeartbeats 4000000 in
set_option maxRecDepth 100000 in
theorem s_W_becomeRemainder (l : Launch) (dC : Nat → ClassId) (dI : Nat → Nat → Nat) (cI cL : ClassId) (qT : Nat) (q : Nat) (qa : Nat) (t : Nat) (r : Nat) (ra : Nat) (o : Nat) (ht : t < 1000000000 ^ 12) (ho : o < 1000000000 ^ 12) : Cv l y_W_becomeRemainder (Cond.code y_W_becomeRemainder c_W_becomeRemainder 3 none :: zB) { frames := 3, cells := 0, slots := 0, locals := 83 } (dC, dI) zcl [(cI, .int), (cL, .long)] (zG cI cL qT) [.ref q, .ref r] [oW q qa ((us t : Nat) : Int), aI cI qa 12 (wa t), oW r ra ((us o : Nat) : Int), aI cI ra 12 (wa o)] (fun wv => wv = [oW q qa ((us (t % o) : Nat) : Int), aI cI qa 12 (wa (t % o)), oW r ra ((us o : Nat) : Int), aI cI ra 12 (wa o)]) 0 0 := by
  refine Cm.ofZ (cc := c_W_becomeRemainder) (maxL := 3) (ret := none) (by decide) rfl (Nat.le_of_ble_eq_true rfl) rfl ?_
  intro p e s m below meth c A S hr hlo hnm hK hg hA hAe
  have hGok := zG_ok cI cL qT
  show ZZ _ _ _ _ _ _ _ _ _ _ _ _ _ _ _ _ _ _ 0 [(0, .ref q), (1, .ref r)] [] [oW q qa ((us t : Nat) : Int), aI cI qa 12 (wa t), oW r ra ((us o : Nat) : Int), aI cI ra 12 (wa o)]
  have hu1 := us_le t
  have hu2 := us_le o
  have hb0 := b2_r (o = 0)
  refine z_aload_n S d_W_becomeRemainder_0 1 rfl ?_
  refine z_callVa (As := []) (st := []) (wc := [oW r ra ((us o : Nat) : Int)]) (wr := [oW q qa ((us t : Nat) : Int), aI cI qa 12 (wa t), aI cI ra 12 (wa o)]) S hGok hK hg hA (s_W_isZero l dC dI cI cL qT r ra o ho) (zcwV S (List.mem_cons_of_mem _ k_W_38) mV_W_isZero k_W_38 hd_W_isZero rfl rfl ⟨Nat.le_of_ble_eq_true rfl, Nat.le_of_ble_eq_true rfl⟩) rfl (Nat.le_of_ble_eq_true rfl) d_W_becomeRemainder_1 ⟨Nat.le_of_ble_eq_true rfl, Nat.le_of_ble_eq_true rfl⟩ rfl [2] [0, 1, 3] 2 rfl rfl rfl (by decide) rfl rfl rfl (by decide) (by decide) (fun x w hp => ?_)
  obtain ⟨rfl, rfl⟩ := hp
  show ZZ _ _ _ _ _ _ _ _ _ _ _ _ _ _ _ _ _ _ 4 [(0, .ref q), (1, .ref r)] [.int (zI (b2 (o = 0)))] [oW q qa ((us t : Nat) : Int), aI cI qa 12 (wa t), aI cI ra 12 (wa o), oW r ra ((us o : Nat) : Int)]
  refine z_if_eq (tgt := 8) S d_W_becomeRemainder_4 (by decide) (by omega) (fun c1 => ?_) (fun c1 => ?_)
  · skip
    have h0 : 0 < o := by have := b2_0.mp c1; omega
    have hz0 := (top_nz ho h0).1
    refine z_aload_n S d_W_becomeRemainder_8 0 rfl ?_
    refine z_get S hK la_W 0 rfl rfl 1 (by decide) k_W_15 rfl d_W_becomeRemainder_9 ?_
    refine z_aload_n S d_W_becomeRemainder_12 1 rfl ?_
    refine z_get S hK la_W 3 rfl rfl 1 (by decide) k_W_15 rfl d_W_becomeRemainder_13 ?_
    refine z_isub S d_W_becomeRemainder_16 ?_
    refine z_topi (fun x2 ex2 => ?_)
    refine z_istore_n (lv' := [(2, .int (zI x2)), (0, .ref q), (1, .ref r)]) S d_W_becomeRemainder_17 rfl (by decide) rfl ?_
    refine z_lv (lv' := [(0, .ref q), (1, .ref r), (2, .int (zI x2))]) [1, 2, 0] rfl ?_
    refine z_ws (ws' := [oW q qa ((us t : Nat) : Int), aI cI qa 12 (wa t), oW r ra ((us o : Nat) : Int), aI cI ra 12 (wa o)]) [0, 1, 3, 2] (by decide) rfl rfl ?_
    refine z_wq (ws' := [oW q qa ((us (t % (o * 1000000000 ^ (us t + 1 - us o))) : Nat) : Int), aI cI qa 12 (wa (t % (o * 1000000000 ^ (us t + 1 - us o)))), oW r ra ((us o : Nat) : Int), aI cI ra 12 (wa o)]) (by rw [Nat.mod_eq_of_lt (rm_top ht hz0)]) ?_
    refine z_lq (lv' := [(0, .ref q), (1, .ref r), (2, .int (zI (((us t : Nat) : Int) - ((us o : Nat) : Int))))]) (congrArg (fun zzz : Int => ([(0, .ref q), (1, .ref r), (2, .int (zI zzz))] : List (Nat × Value))) (show (x2 : Int) = (((us t : Nat) : Int) - ((us o : Nat) : Int)) by omega)) ?_
    refine z_loop (I := fun (zz : Nat × Int) => match zz with | (n, sh) => (sh + 1 = (n : Int) ∨ (n = 0 ∧ sh < 0)) ∧ (-20 ≤ sh ∧ sh ≤ 12)) (μ := fun (zz : Nat × Int) => match zz with | (n, sh) => n) (LV := fun (zz : Nat × Int) => match zz with | (n, sh) => [(0, .ref q), (1, .ref r), (2, .int (zI sh))]) (WS := fun (zz : Nat × Int) => match zz with | (n, sh) => [oW q qa ((us (t % (o * 1000000000 ^ n)) : Nat) : Int), aI cI qa 12 (wa (t % (o * 1000000000 ^ n))), oW r ra ((us o : Nat) : Int), aI cI ra 12 (wa o)]) (a := ((us t + 1 - us o), ((us t : Nat) : Int) - ((us o : Nat) : Int))) ?_ ?_
    · exact (show ((((us t : Nat) : Int) - ((us o : Nat) : Int)) + 1 = ((us t + 1 - us o : Nat) : Int) ∨ ((us t + 1 - us o) = 0 ∧ (((us t : Nat) : Int) - ((us o : Nat) : Int)) < 0)) ∧ (-20 ≤ (((us t : Nat) : Int) - ((us o : Nat) : Int)) ∧ (((us t : Nat) : Int) - ((us o : Nat) : Int)) ≤ 12) from ⟨by omega, by omega⟩)
    · intro ⟨n, sh⟩ hI ih18
      obtain ⟨hsn, hshr⟩ : (sh + 1 = (n : Int) ∨ (n = 0 ∧ sh < 0)) ∧ (-20 ≤ sh ∧ sh ≤ 12) := hI
      show ZZ _ _ _ _ _ _ _ _ _ _ _ _ _ _ _ _ _ _ 18 [(0, .ref q), (1, .ref r), (2, .int (zI sh))] [] [oW q qa ((us (t % (o * 1000000000 ^ n)) : Nat) : Int), aI cI qa 12 (wa (t % (o * 1000000000 ^ n))), oW r ra ((us o : Nat) : Int), aI cI ra 12 (wa o)]
      refine z_iload_n S d_W_becomeRemainder_18 2 rfl ?_
      refine z_if_lt (tgt := 35) S d_W_becomeRemainder_19 (by decide) (by omega) (fun c3 => ?_) (fun c3 => ?_)
      · skip
        refine z_wq (ws' := [oW q qa ((us (t % o) : Nat) : Int), aI cI qa 12 (wa (t % o)), oW r ra ((us o : Nat) : Int), aI cI ra 12 (wa o)]) (by rw [show n = 0 by omega, Nat.pow_zero, Nat.mul_one]) ?_
        exact z_vret (w := [oW q qa ((us (t % o) : Nat) : Int), aI cI qa 12 (wa (t % o)), oW r ra ((us o : Nat) : Int), aI cI ra 12 (wa o)]) S hr hlo hAe d_W_becomeRemainder_35 [0, 1, 2, 3] (by decide) rfl rfl ⟨Nat.le_refl _, Nat.le_refl _⟩ (rfl)
      · skip
        obtain ⟨k, hk⟩ : ∃ k, n = k + 1 := ⟨n - 1, by omega⟩
        subst hk
        show ZZ _ _ _ _ _ _ _ _ _ _ _ _ _ _ _ _ _ _ 22 [(0, .ref q), (1, .ref r), (2, .int (zI sh))] [] [oW q qa ((us (t % (o * 1000000000 ^ (k + 1))) : Nat) : Int), aI cI qa 12 (wa (t % (o * 1000000000 ^ (k + 1)))), oW r ra ((us o : Nat) : Int), aI cI ra 12 (wa o)]
        refine z_lq (lv' := [(0, .ref q), (1, .ref r), (2, .int (zI (k : Int)))]) (congrArg (fun zzz : Int => ([(0, .ref q), (1, .ref r), (2, .int (zI zzz))] : List (Nat × Value))) (show sh = (k : Int) by omega)) ?_
        refine z_aload_n S d_W_becomeRemainder_22 0 rfl ?_
        refine z_aload_n S d_W_becomeRemainder_23 1 rfl ?_
        refine z_iload_n S d_W_becomeRemainder_24 2 rfl ?_
        refine z_callVa (As := [.ref r, .int (zI (k : Int))]) (st := []) (wc := [oW q qa ((us (t % (o * 1000000000 ^ (k + 1))) : Nat) : Int), aI cI qa 12 (wa (t % (o * 1000000000 ^ (k + 1)))), oW r ra ((us o : Nat) : Int), aI cI ra 12 (wa o)]) (wr := []) S hGok hK hg hA (s_W_takeOut l dC dI cI cL qT q qa (t % (o * 1000000000 ^ (k + 1))) r ra o k (Nat.lt_of_le_of_lt (Nat.mod_le _ _) ht) ho (by omega) h0 (Nat.mod_lt _ (tk_pos h0))) (zcwV S (List.mem_cons_of_mem _ k_W_42) mV_W_takeOut k_W_42 hd_W_takeOut rfl rfl ⟨Nat.le_of_ble_eq_true rfl, Nat.le_of_ble_eq_true rfl⟩) rfl (Nat.le_of_ble_eq_true rfl) d_W_becomeRemainder_25 ⟨Nat.le_of_ble_eq_true rfl, Nat.le_of_ble_eq_true rfl⟩ rfl [0, 1, 2, 3] [] 0 rfl rfl rfl (by decide) rfl rfl rfl (by decide) (by decide) (fun x w hp => ?_)
        obtain ⟨rfl, rfl⟩ := hp
        show ZZ _ _ _ _ _ _ _ _ _ _ _ _ _ _ _ _ _ _ 28 [(0, .ref q), (1, .ref r), (2, .int (zI (k : Int)))] [.long (zL (((t % (o * 1000000000 ^ (k + 1))) / (o * 1000000000 ^ k) : Nat) : Int))] [oW q qa ((us ((t % (o * 1000000000 ^ (k + 1))) % (o * 1000000000 ^ k)) : Nat) : Int), aI cI qa 12 (wa ((t % (o * 1000000000 ^ (k + 1))) % (o * 1000000000 ^ k))), oW r ra ((us o : Nat) : Int), aI cI ra 12 (wa o)]
        refine z_pop2l S d_W_becomeRemainder_28 rfl ?_
        refine z_iinc (y := (k : Int) - 1) (lv' := [(2, .int (zI ((k : Int) - 1))), (0, .ref q), (1, .ref r)]) S d_W_becomeRemainder_29 2 rfl (by omega) (by decide) rfl ?_
        refine z_goto (tgt := 18) S d_W_becomeRemainder_32 (by decide) ?_
        refine z_lv (lv' := [(0, .ref q), (1, .ref r), (2, .int (zI ((k : Int) - 1)))]) [1, 2, 0] rfl ?_
        refine z_wq (ws' := [oW q qa ((us (t % (o * 1000000000 ^ k)) : Nat) : Int), aI cI qa 12 (wa (t % (o * 1000000000 ^ k))), oW r ra ((us o : Nat) : Int), aI cI ra 12 (wa o)]) (by rw [dv_rem]) ?_
        exact ih18 (k, (k : Int) - 1) (show (((k : Int) - 1) + 1 = (k : Int) ∨ (k = 0 ∧ ((k : Int) - 1) < 0)) ∧ (-20 ≤ ((k : Int) - 1) ∧ ((k : Int) - 1) ≤ 12) from ⟨by omega, by omega⟩) (show k < (k + 1) from by omega)
  · skip
    refine z_wq (ws' := [oW q qa ((us (t % o) : Nat) : Int), aI cI qa 12 (wa (t % o)), aI cI ra 12 (wa o), oW r ra ((us o : Nat) : Int)]) (by rw [show o = 0 by have := mt b2_0.mpr c1; omega, Nat.mod_zero]) ?_
    exact z_vret (w := [oW q qa ((us (t % o) : Nat) : Int), aI cI qa 12 (wa (t % o)), oW r ra ((us o : Nat) : Int), aI cI ra 12 (wa o)]) S hr hlo hAe d_W_becomeRemainder_7 [0, 1, 3, 2] (by decide) rfl rfl ⟨Nat.le_refl _, Nat.le_refl _⟩ (rfl)
set_option maxHeartbeats 4000000 in
set_option maxRecDepth 100000 in
theorem s_W_divideBy (l : Launch) (dC : Nat → ClassId) (dI : Nat → Nat → Nat) (cI cL : ClassId) (qT : Nat) (q : Nat) (qa : Nat) (t : Nat) (r : Nat) (ra : Nat) (o : Nat) (z : Nat) (za : Nat) (u : Int) (f : Nat → Int32) (ht : t < 1000000000 ^ 12) (ho : o < 1000000000 ^ 12) (hf : ∀ j, 12 ≤ j → f j = zI 0) : Cv l y_W_divideBy (Cond.code y_W_divideBy c_W_divideBy 4 none :: zB) { frames := 3, cells := 0, slots := 0, locals := 83 } (dC, dI) zcl [(cI, .int), (cL, .long)] (zG cI cL qT) [.ref q, .ref r, .ref z] [oW q qa ((us t : Nat) : Int), aI cI qa 12 (wa t), oW r ra ((us o : Nat) : Int), aI cI ra 12 (wa o), oW z za u, aI cI za 12 f] (fun wv => wv = [oW q qa ((us (t % o) : Nat) : Int), aI cI qa 12 (wa (t % o)), oW r ra ((us o : Nat) : Int), aI cI ra 12 (wa o), oW z za ((us (t / o) : Nat) : Int), aI cI za 12 (wa (t / o))]) 0 0 := by
  refine Cm.ofZ (cc := c_W_divideBy) (maxL := 4) (ret := none) (by decide) rfl (Nat.le_of_ble_eq_true rfl) rfl ?_
  intro p e s m below meth c A S hr hlo hnm hK hg hA hAe
  have hGok := zG_ok cI cL qT
  show ZZ _ _ _ _ _ _ _ _ _ _ _ _ _ _ _ _ _ _ 0 [(0, .ref q), (1, .ref r), (2, .ref z)] [] [oW q qa ((us t : Nat) : Int), aI cI qa 12 (wa t), oW r ra ((us o : Nat) : Int), aI cI ra 12 (wa o), oW z za u, aI cI za 12 f]
  have hu1 := us_le t
  have hu2 := us_le o
  have hb0 := b2_r (o = 0)
  refine z_aload_n S d_W_divideBy_0 2 rfl ?_
  refine z_callVv (As := []) (st := []) (wc := [oW z za u, aI cI za 12 f]) (wr := [oW q qa ((us t : Nat) : Int), aI cI qa 12 (wa t), oW r ra ((us o : Nat) : Int), aI cI ra 12 (wa o)]) S hGok hK hg hA (s_W_becomeZero l dC dI cI cL qT z za u f hf) (zcwV S (List.mem_cons_of_mem _ k_W_30) mV_W_becomeZero k_W_30 hd_W_becomeZero rfl rfl ⟨Nat.le_of_ble_eq_true rfl, Nat.le_of_ble_eq_true rfl⟩) rfl (Nat.le_of_ble_eq_true rfl) d_W_divideBy_1 ⟨Nat.le_of_ble_eq_true rfl, Nat.le_of_ble_eq_true rfl⟩ rfl [4, 5] [0, 1, 2, 3] 4 rfl rfl rfl (by decide) rfl rfl rfl (by decide) (by decide) (fun w hp => ?_)
  subst hp
  show ZZ _ _ _ _ _ _ _ _ _ _ _ _ _ _ _ _ _ _ 4 [(0, .ref q), (1, .ref r), (2, .ref z)] [] [oW q qa ((us t : Nat) : Int), aI cI qa 12 (wa t), oW r ra ((us o : Nat) : Int), aI cI ra 12 (wa o), oW z za ((us 0 : Nat) : Int), aI cI za 12 (wa 0)]
  refine z_aload_n S d_W_divideBy_4 1 rfl ?_
  refine z_callVa (As := []) (st := []) (wc := [oW r ra ((us o : Nat) : Int)]) (wr := [oW q qa ((us t : Nat) : Int), aI cI qa 12 (wa t), aI cI ra 12 (wa o), oW z za ((us 0 : Nat) : Int), aI cI za 12 (wa 0)]) S hGok hK hg hA (s_W_isZero l dC dI cI cL qT r ra o ho) (zcwV S (List.mem_cons_of_mem _ k_W_38) mV_W_isZero k_W_38 hd_W_isZero rfl rfl ⟨Nat.le_of_ble_eq_true rfl, Nat.le_of_ble_eq_true rfl⟩) rfl (Nat.le_of_ble_eq_true rfl) d_W_divideBy_5 ⟨Nat.le_of_ble_eq_true rfl, Nat.le_of_ble_eq_true rfl⟩ rfl [2] [0, 1, 3, 4, 5] 2 rfl rfl rfl (by decide) rfl rfl rfl (by decide) (by decide) (fun x w hp => ?_)
  obtain ⟨rfl, rfl⟩ := hp
  show ZZ _ _ _ _ _ _ _ _ _ _ _ _ _ _ _ _ _ _ 8 [(0, .ref q), (1, .ref r), (2, .ref z)] [.int (zI (b2 (o = 0)))] [oW q qa ((us t : Nat) : Int), aI cI qa 12 (wa t), aI cI ra 12 (wa o), oW z za ((us 0 : Nat) : Int), aI cI za 12 (wa 0), oW r ra ((us o : Nat) : Int)]
  refine z_if_eq (tgt := 12) S d_W_divideBy_8 (by decide) (by omega) (fun c1 => ?_) (fun c1 => ?_)
  · skip
    have h0 : 0 < o := by have := b2_0.mp c1; omega
    have hz0 := (top_nz ho h0).1
    have hqt : t / o < 1000000000 ^ (us t + 1 - us o) := by rw [Nat.div_lt_iff_lt_mul h0, Nat.mul_comm]; exact rm_top ht hz0
    refine z_aload_n S d_W_divideBy_12 0 rfl ?_
    refine z_get S hK la_W 0 rfl rfl 1 (by decide) k_W_15 rfl d_W_divideBy_13 ?_
    refine z_aload_n S d_W_divideBy_16 1 rfl ?_
    refine z_get S hK la_W 5 rfl rfl 1 (by decide) k_W_15 rfl d_W_divideBy_17 ?_
    refine z_isub S d_W_divideBy_20 ?_
    refine z_topi (fun x2 ex2 => ?_)
    refine z_istore_n (lv' := [(3, .int (zI x2)), (0, .ref q), (1, .ref r), (2, .ref z)]) S d_W_divideBy_21 rfl (by decide) rfl ?_
    refine z_lv (lv' := [(0, .ref q), (1, .ref r), (2, .ref z), (3, .int (zI x2))]) [1, 2, 3, 0] rfl ?_
    refine z_ws (ws' := [oW q qa ((us t : Nat) : Int), aI cI qa 12 (wa t), oW r ra ((us o : Nat) : Int), aI cI ra 12 (wa o), oW z za ((us 0 : Nat) : Int), aI cI za 12 (wa 0)]) [0, 1, 5, 2, 3, 4] (by decide) rfl rfl ?_
    refine z_wq (ws' := [oW q qa ((us (t % (o * 1000000000 ^ (us t + 1 - us o))) : Nat) : Int), aI cI qa 12 (wa (t % (o * 1000000000 ^ (us t + 1 - us o)))), oW r ra ((us o : Nat) : Int), aI cI ra 12 (wa o), oW z za ((us 0 : Nat) : Int), aI cI za 12 (mx (wa 0) (wa (t / o)) (us t + 1 - us o))]) (by rw [Nat.mod_eq_of_lt (rm_top ht hz0), mx_e (fun j hj => wa_e (by rw [dg_zero, dg_hi (by decide) hqt hj]))]) ?_
    refine z_lq (lv' := [(0, .ref q), (1, .ref r), (2, .ref z), (3, .int (zI (((us t : Nat) : Int) - ((us o : Nat) : Int))))]) (congrArg (fun zzz : Int => ([(0, .ref q), (1, .ref r), (2, .ref z), (3, .int (zI zzz))] : List (Nat × Value))) (show (x2 : Int) = (((us t : Nat) : Int) - ((us o : Nat) : Int)) by omega)) ?_
    refine z_loop (I := fun (zz : Nat × Int) => match zz with | (n, sh) => (sh + 1 = (n : Int) ∨ (n = 0 ∧ sh < 0)) ∧ (-20 ≤ sh ∧ sh ≤ 11)) (μ := fun (zz : Nat × Int) => match zz with | (n, sh) => n) (LV := fun (zz : Nat × Int) => match zz with | (n, sh) => [(0, .ref q), (1, .ref r), (2, .ref z), (3, .int (zI sh))]) (WS := fun (zz : Nat × Int) => match zz with | (n, sh) => [oW q qa ((us (t % (o * 1000000000 ^ n)) : Nat) : Int), aI cI qa 12 (wa (t % (o * 1000000000 ^ n))), oW r ra ((us o : Nat) : Int), aI cI ra 12 (wa o), oW z za ((us 0 : Nat) : Int), aI cI za 12 (mx (wa 0) (wa (t / o)) n)]) (a := ((us t + 1 - us o), ((us t : Nat) : Int) - ((us o : Nat) : Int))) ?_ ?_
    · exact (show ((((us t : Nat) : Int) - ((us o : Nat) : Int)) + 1 = ((us t + 1 - us o : Nat) : Int) ∨ ((us t + 1 - us o) = 0 ∧ (((us t : Nat) : Int) - ((us o : Nat) : Int)) < 0)) ∧ (-20 ≤ (((us t : Nat) : Int) - ((us o : Nat) : Int)) ∧ (((us t : Nat) : Int) - ((us o : Nat) : Int)) ≤ 11) from ⟨by omega, by omega⟩)
    · intro ⟨n, sh⟩ hI ih22
      obtain ⟨hsn, hshr⟩ : (sh + 1 = (n : Int) ∨ (n = 0 ∧ sh < 0)) ∧ (-20 ≤ sh ∧ sh ≤ 11) := hI
      show ZZ _ _ _ _ _ _ _ _ _ _ _ _ _ _ _ _ _ _ 22 [(0, .ref q), (1, .ref r), (2, .ref z), (3, .int (zI sh))] [] [oW q qa ((us (t % (o * 1000000000 ^ n)) : Nat) : Int), aI cI qa 12 (wa (t % (o * 1000000000 ^ n))), oW r ra ((us o : Nat) : Int), aI cI ra 12 (wa o), oW z za ((us 0 : Nat) : Int), aI cI za 12 (mx (wa 0) (wa (t / o)) n)]
      refine z_iload_n S d_W_divideBy_22 3 rfl ?_
      refine z_if_lt (tgt := 45) S d_W_divideBy_23 (by decide) (by omega) (fun c3 => ?_) (fun c3 => ?_)
      · skip
        refine z_wq (ws' := [oW q qa ((us (t % o) : Nat) : Int), aI cI qa 12 (wa (t % o)), oW r ra ((us o : Nat) : Int), aI cI ra 12 (wa o), oW z za ((us 0 : Nat) : Int), aI cI za 12 (wa (t / o))]) (by rw [show n = 0 by omega, Nat.pow_zero, Nat.mul_one, mx_0]) ?_
        refine z_aload_n S d_W_divideBy_45 2 rfl ?_
        refine z_bipush S d_W_divideBy_46 rfl ?_
        refine z_callVv (As := [.int (zI 12)]) (st := []) (wc := [oW z za ((us 0 : Nat) : Int), aI cI za 12 (wa (t / o))]) (wr := [oW q qa ((us (t % o) : Nat) : Int), aI cI qa 12 (wa (t % o)), oW r ra ((us o : Nat) : Int), aI cI ra 12 (wa o)]) S hGok hK hg hA (s_W_dropZerosFrom l dC dI cI cL qT z za ((us 0 : Nat) : Int) (t / o) 12 (Nat.lt_of_le_of_lt (Nat.div_le_self _ _) ht) (Nat.le_refl 12)) (zcwV S (List.mem_cons_of_mem _ k_W_33) mV_W_dropZerosFrom k_W_33 hd_W_dropZerosFrom rfl rfl ⟨Nat.le_of_ble_eq_true rfl, Nat.le_of_ble_eq_true rfl⟩) rfl (Nat.le_of_ble_eq_true rfl) d_W_divideBy_48 ⟨Nat.le_of_ble_eq_true rfl, Nat.le_of_ble_eq_true rfl⟩ rfl [4, 5] [0, 1, 2, 3] 4 rfl rfl rfl (by decide) rfl rfl rfl (by decide) (by decide) (fun w hp => ?_)
        subst hp
        show ZZ _ _ _ _ _ _ _ _ _ _ _ _ _ _ _ _ _ _ 51 [(0, .ref q), (1, .ref r), (2, .ref z), (3, .int (zI sh))] [] [oW q qa ((us (t % o) : Nat) : Int), aI cI qa 12 (wa (t % o)), oW r ra ((us o : Nat) : Int), aI cI ra 12 (wa o), oW z za ((us (t / o) : Nat) : Int), aI cI za 12 (wa (t / o))]
        exact z_vret (w := [oW q qa ((us (t % o) : Nat) : Int), aI cI qa 12 (wa (t % o)), oW r ra ((us o : Nat) : Int), aI cI ra 12 (wa o), oW z za ((us (t / o) : Nat) : Int), aI cI za 12 (wa (t / o))]) S hr hlo hAe d_W_divideBy_51 [0, 1, 2, 3, 4, 5] (by decide) rfl rfl ⟨Nat.le_refl _, Nat.le_refl _⟩ (rfl)
      · skip
        obtain ⟨k, hk⟩ : ∃ k, n = k + 1 := ⟨n - 1, by omega⟩
        subst hk
        show ZZ _ _ _ _ _ _ _ _ _ _ _ _ _ _ _ _ _ _ 26 [(0, .ref q), (1, .ref r), (2, .ref z), (3, .int (zI sh))] [] [oW q qa ((us (t % (o * 1000000000 ^ (k + 1))) : Nat) : Int), aI cI qa 12 (wa (t % (o * 1000000000 ^ (k + 1)))), oW r ra ((us o : Nat) : Int), aI cI ra 12 (wa o), oW z za ((us 0 : Nat) : Int), aI cI za 12 (mx (wa 0) (wa (t / o)) (k + 1))]
        refine z_lq (lv' := [(0, .ref q), (1, .ref r), (2, .ref z), (3, .int (zI (k : Int)))]) (congrArg (fun zzz : Int => ([(0, .ref q), (1, .ref r), (2, .ref z), (3, .int (zI zzz))] : List (Nat × Value))) (show sh = (k : Int) by omega)) ?_
        refine z_aload_n S d_W_divideBy_26 2 rfl ?_
        refine z_get S hK la_W 4 rfl rfl 0 (by decide) k_W_9 rfl d_W_divideBy_27 ?_
        refine z_iload_n S d_W_divideBy_30 3 rfl ?_
        refine z_aload_n S d_W_divideBy_31 0 rfl ?_
        refine z_aload_n S d_W_divideBy_32 1 rfl ?_
        refine z_iload_n S d_W_divideBy_33 3 rfl ?_
        refine z_callVa (As := [.ref r, .int (zI (k : Int))]) (st := [.int (zI (k : Int)), .ref za]) (wc := [oW q qa ((us (t % (o * 1000000000 ^ (k + 1))) : Nat) : Int), aI cI qa 12 (wa (t % (o * 1000000000 ^ (k + 1)))), oW r ra ((us o : Nat) : Int), aI cI ra 12 (wa o)]) (wr := [oW z za ((us 0 : Nat) : Int), aI cI za 12 (mx (wa 0) (wa (t / o)) (k + 1))]) S hGok hK hg hA (s_W_takeOut l dC dI cI cL qT q qa (t % (o * 1000000000 ^ (k + 1))) r ra o k (Nat.lt_of_le_of_lt (Nat.mod_le _ _) ht) ho (by omega) h0 (Nat.mod_lt _ (tk_pos h0))) (zcwV S (List.mem_cons_of_mem _ k_W_42) mV_W_takeOut k_W_42 hd_W_takeOut rfl rfl ⟨Nat.le_of_ble_eq_true rfl, Nat.le_of_ble_eq_true rfl⟩) rfl (Nat.le_of_ble_eq_true rfl) d_W_divideBy_34 ⟨Nat.le_of_ble_eq_true rfl, Nat.le_of_ble_eq_true rfl⟩ rfl [0, 1, 2, 3] [4, 5] 0 rfl rfl rfl (by decide) rfl rfl rfl (by decide) (by decide) (fun x w hp => ?_)
        obtain ⟨rfl, rfl⟩ := hp
        show ZZ _ _ _ _ _ _ _ _ _ _ _ _ _ _ _ _ _ _ 37 [(0, .ref q), (1, .ref r), (2, .ref z), (3, .int (zI (k : Int)))] [.long (zL (((t % (o * 1000000000 ^ (k + 1))) / (o * 1000000000 ^ k) : Nat) : Int)), .int (zI (k : Int)), .ref za] [oW z za ((us 0 : Nat) : Int), aI cI za 12 (mx (wa 0) (wa (t / o)) (k + 1)), oW q qa ((us ((t % (o * 1000000000 ^ (k + 1))) % (o * 1000000000 ^ k)) : Nat) : Int), aI cI qa 12 (wa ((t % (o * 1000000000 ^ (k + 1))) % (o * 1000000000 ^ k))), oW r ra ((us o : Nat) : Int), aI cI ra 12 (wa o)]
        refine z_l2i S d_W_divideBy_37 ?_
        refine z_iast (f' := mx (wa 0) (wa (t / o)) k) (ws' := [oW z za ((us 0 : Nat) : Int), aI cI za 12 (mx (wa 0) (wa (t / o)) k), oW q qa ((us ((t % (o * 1000000000 ^ (k + 1))) % (o * 1000000000 ^ k)) : Nat) : Int), aI cI qa 12 (wa ((t % (o * 1000000000 ^ (k + 1))) % (o * 1000000000 ^ k))), oW r ra ((us o : Nat) : Int), aI cI ra 12 (wa o)]) S hK 1 0 rfl rfl k rfl (by omega) (by decide) (mx_dn (zI_c (by rw [dv_dig]))) rfl d_W_divideBy_38 ?_
        refine z_iinc (y := (k : Int) - 1) (lv' := [(3, .int (zI ((k : Int) - 1))), (0, .ref q), (1, .ref r), (2, .ref z)]) S d_W_divideBy_39 3 rfl (by omega) (by decide) rfl ?_
        refine z_goto (tgt := 22) S d_W_divideBy_42 (by decide) ?_
        refine z_lv (lv' := [(0, .ref q), (1, .ref r), (2, .ref z), (3, .int (zI ((k : Int) - 1)))]) [1, 2, 3, 0] rfl ?_
        refine z_ws (ws' := [oW q qa ((us ((t % (o * 1000000000 ^ (k + 1))) % (o * 1000000000 ^ k)) : Nat) : Int), aI cI qa 12 (wa ((t % (o * 1000000000 ^ (k + 1))) % (o * 1000000000 ^ k))), oW r ra ((us o : Nat) : Int), aI cI ra 12 (wa o), oW z za ((us 0 : Nat) : Int), aI cI za 12 (mx (wa 0) (wa (t / o)) k)]) [2, 3, 4, 5, 0, 1] (by decide) rfl rfl ?_
        refine z_wq (ws' := [oW q qa ((us (t % (o * 1000000000 ^ k)) : Nat) : Int), aI cI qa 12 (wa (t % (o * 1000000000 ^ k))), oW r ra ((us o : Nat) : Int), aI cI ra 12 (wa o), oW z za ((us 0 : Nat) : Int), aI cI za 12 (mx (wa 0) (wa (t / o)) k)]) (by rw [dv_rem]) ?_
        exact ih22 (k, (k : Int) - 1) (show (((k : Int) - 1) + 1 = (k : Int) ∨ (k = 0 ∧ ((k : Int) - 1) < 0)) ∧ (-20 ≤ ((k : Int) - 1) ∧ ((k : Int) - 1) ≤ 11) from ⟨by omega, by omega⟩) (show k < (k + 1) from by omega)
  · skip
    refine z_wq (ws' := [oW q qa ((us (t % o) : Nat) : Int), aI cI qa 12 (wa (t % o)), aI cI ra 12 (wa o), oW z za ((us (t / o) : Nat) : Int), aI cI za 12 (wa (t / o)), oW r ra ((us o : Nat) : Int)]) (by rw [show o = 0 by have := mt b2_0.mpr c1; omega, Nat.mod_zero, Nat.div_zero]) ?_
    exact z_vret (w := [oW q qa ((us (t % o) : Nat) : Int), aI cI qa 12 (wa (t % o)), oW r ra ((us o : Nat) : Int), aI cI ra 12 (wa o), oW z za ((us (t / o) : Nat) : Int), aI cI za 12 (wa (t / o))]) S hr hlo hAe d_W_divideBy_11 [0, 1, 5, 2, 3, 4] (by decide) rfl rfl ⟨Nat.le_refl _, Nat.le_refl _⟩ (rfl)
