set_option maxHeartbeats 4000000 in
set_option maxRecDepth 100000 in
theorem s_W_guessOften (l : Launch) (dC : Nat → ClassId) (dI : Nat → Nat → Nat) (cI cL : ClassId) (qT : Nat) (q : Nat) (qa : Nat) (t : Nat) (r : Nat) (ra : Nat) (o : Nat) (sh : Nat) (ht : t < 1000000000 ^ 12) (ho : o < 1000000000 ^ 12) (hsh : sh ≤ 12) (h0 : 0 < o) (htl : t < o * 1000000000 ^ (sh + 1)) : Ct l y_W_guessOften (Cond.code y_W_guessOften c_W_guessOften 12 (some .long) :: zB) { frames := 1, cells := 0, slots := 0, locals := 25 } (dC, dI) zcl [(cI, .int), (cL, .long)] (zG cI cL qT) [.ref q, .ref r, .int (zI (sh : Int))] [oW q qa ((us t : Nat) : Int), aI cI qa 12 (wa t), oW r ra ((us o : Nat) : Int), aI cI ra 12 (wa o)] (fun rv wv => ∃ g : Nat, (g * (o * 1000000000 ^ sh) ≤ t) ∧ (t / (o * 1000000000 ^ sh) ≤ g + 10) ∧ (g < 9223372036854775808) ∧ rv = .long (zL (g : Int)) ∧ wv = [oW q qa ((us t : Nat) : Int), aI cI qa 12 (wa t), oW r ra ((us o : Nat) : Int), aI cI ra 12 (wa o)]) 0 0 := by
  refine Cm.ofZ (cc := c_W_guessOften) (maxL := 12) (ret := (some .long)) (by decide) rfl (Nat.le_of_ble_eq_true rfl) rfl ?_
  intro p e s m below meth c A S hr hlo hnm hK hg hA hAe
  have hGok := zG_ok cI cL qT
  show ZZ _ _ _ _ _ _ _ _ _ _ _ _ _ _ _ _ _ _ 0 [(0, .ref q), (1, .ref r), (2, .int (zI (sh : Int)))] [] [oW q qa ((us t : Nat) : Int), aI cI qa 12 (wa t), oW r ra ((us o : Nat) : Int), aI cI ra 12 (wa o)]
  have hu1 := us_le t
  have hu2 := us_le o
  have hz0 := (top_nz ho h0).1
  refine z_aload_n S d_W_guessOften_0 1 rfl ?_
  refine z_get S hK la_W 2 rfl rfl 1 (by decide) k_W_15 rfl d_W_guessOften_1 ?_
  refine z_iconst S d_W_guessOften_4 ?_
  refine z_isub S d_W_guessOften_5 ?_
  refine z_topi (fun x1 ex1 => ?_)
  refine z_istore_n (lv' := [(3, .int (zI x1)), (0, .ref q), (1, .ref r), (2, .int (zI (sh : Int)))]) S d_W_guessOften_6 rfl (by decide) rfl ?_
  obtain ⟨tp, htp⟩ : ∃ tp : Nat, us o = tp + 1 := ⟨us o - 1, by omega⟩
  refine z_lq (lv' := [(3, .int (zI (tp : Int))), (0, .ref q), (1, .ref r), (2, .int (zI (sh : Int)))]) (congrArg (fun zzz : Int => ([(3, .int (zI zzz)), (0, .ref q), (1, .ref r), (2, .int (zI (sh : Int)))] : List (Nat × Value))) (show x1 = (tp : Int) by omega)) ?_
  have hd1 : 0 < dg 1000000000 o tp := by have := (top_nz ho h0).2; rw [htp, Nat.add_sub_cancel] at this; exact this
  have hdl := dg_lt (b := 1000000000) (by decide) o tp
  refine z_aload_n S d_W_guessOften_7 2 rfl ?_
  refine z_iload_n S d_W_guessOften_8 0 rfl ?_
  refine z_callVa (As := [.int (zI (tp : Int))]) (st := []) (wc := [oW r ra ((us o : Nat) : Int), aI cI ra 12 (wa o)]) (wr := [oW q qa ((us t : Nat) : Int), aI cI qa 12 (wa t)]) S hGok hK hg hA (s_W_limbAt l dC dI cI cL qT r ra o (tp : Int) (by omega) (by omega)) (zcwV S (List.mem_cons_of_mem _ k_W_19) mV_W_limbAt k_W_19 hd_W_limbAt rfl rfl ⟨Nat.le_of_ble_eq_true rfl, Nat.le_of_ble_eq_true rfl⟩) rfl (Nat.le_of_ble_eq_true rfl) d_W_guessOften_9 ⟨Nat.le_of_ble_eq_true rfl, Nat.le_of_ble_eq_true rfl⟩ rfl [2, 3] [0, 1] 2 rfl rfl rfl (by decide) rfl rfl rfl (by decide) (by decide) (fun x w hp => ?_)
  obtain ⟨rfl, rfl⟩ := hp
  show ZZ _ _ _ _ _ _ _ _ _ _ _ _ _ _ _ _ _ _ 12 [(3, .int (zI (tp : Int))), (0, .ref q), (1, .ref r), (2, .int (zI (sh : Int)))] [.long (zL ((lbI o (tp : Int) : Nat) : Int))] [oW q qa ((us t : Nat) : Int), aI cI qa 12 (wa t), oW r ra ((us o : Nat) : Int), aI cI ra 12 (wa o)]
  refine z_tol (a := ((dg 1000000000 o tp : Nat) : Int)) (zL_c (by rw [lbI_e tp rfl])) ?_
  refine z_callSa (As := [.long (zL ((dg 1000000000 o tp : Nat) : Int))]) (st := []) (wc := []) (wr := [oW q qa ((us t : Nat) : Int), aI cI qa 12 (wa t), oW r ra ((us o : Nat) : Int), aI cI ra 12 (wa o)]) S hGok hK hg hA (s_W_tenAbove l dC dI cI cL qT (dg 1000000000 o tp) hdl) (zcwS S k_W_63 mS_W_tenAbove hd_W_tenAbove rfl rfl ⟨Nat.le_of_ble_eq_true rfl, Nat.le_of_ble_eq_true rfl⟩) rfl (Nat.le_of_ble_eq_true rfl) d_W_guessOften_12 ⟨Nat.le_of_ble_eq_true rfl, Nat.le_of_ble_eq_true rfl⟩ rfl [] [0, 1, 2, 3] (by decide) rfl rfl rfl (by decide) (by decide) (fun x w hp => ?_)
  obtain ⟨kt, fk9, fklt, fkge, rfl, rfl⟩ := hp
  show ZZ _ _ _ _ _ _ _ _ _ _ _ _ _ _ _ _ _ _ 15 [(3, .int (zI (tp : Int))), (0, .ref q), (1, .ref r), (2, .int (zI (sh : Int)))] [.long (zL ((10 ^ kt : Nat) : Int))] [oW q qa ((us t : Nat) : Int), aI cI qa 12 (wa t), oW r ra ((us o : Nat) : Int), aI cI ra 12 (wa o)]
  obtain ⟨sc, hsc⟩ : ∃ sc : Nat, sc = 10 ^ kt := ⟨_, rfl⟩
  refine z_tol (a := (sc : Int)) (zL_c (by rw [hsc])) ?_
  have hk1 : 0 < kt := by
    rcases Nat.eq_zero_or_pos kt with z | z
    · rw [z, Nat.pow_zero] at fklt; omega
    · exact z
  have hs2 : sc ≤ 10 * dg 1000000000 o tp := by rw [hsc, p10_s hk1]; rcases fkge with z | z <;> omega
  have hs1 : dg 1000000000 o tp < sc := by rw [hsc]; exact fklt
  have hsB : sc ≤ 1000000000 := by rw [hsc]; exact p10_le fk9
  obtain ⟨un, hun⟩ : ∃ un : Nat, sc * un = 1000000000 := ⟨10 ^ (9 - kt), by rw [hsc, ← Nat.pow_add, Nat.add_sub_cancel' fk9]⟩
  have hunB : un ≤ 1000000000 := by have := Nat.le_mul_of_pos_left un (show 0 < sc by omega); omega
  have hgo := guess_ok (T := t) (D := o) (s := sh) (tp := tp) (by have := us_lt ho; rw [htp] at this; exact this) hun hs1 hs2 htl
  have hl0 : (if tp = 0 then 0 else dg 1000000000 o (tp - 1)) < 1000000000 := by split <;> first | decide | exact dg_lt (by decide) _ _
  have hl1 : (if tp + sh = 0 then 0 else dg 1000000000 t (tp + sh - 1)) < 1000000000 := by split <;> first | decide | exact dg_lt (by decide) _ _
  have hl2 := dg_lt (b := 1000000000) (by decide) t (tp + sh)
  have hl3 := Nat.mul_le_mul (show dg 1000000000 t (tp + sh) ≤ 999999999 by omega) hunB
  have hl4 := Nat.mul_le_mul (show dg 1000000000 o tp ≤ 999999999 by omega) hunB
  have hq0 : (if tp = 0 then 0 else dg 1000000000 o (tp - 1)) / sc ≤ 999999999 := Nat.le_trans (Nat.div_le_self _ _) (by omega)
  have hq1 : (if tp + sh = 0 then 0 else dg 1000000000 t (tp + sh - 1)) / sc ≤ 999999999 := Nat.le_trans (Nat.div_le_self _ _) (by omega)
  refine z_lstore (lv' := [(4, .long (zL (sc : Int))), (3, .int (zI (tp : Int))), (0, .ref q), (1, .ref r), (2, .int (zI (sh : Int)))]) S d_W_guessOften_15 (by decide) rfl ?_
  refine z_ldc2 (v := 1000000000) (z := 1000000000) S k_W_23 d_W_guessOften_17 (by decide) ?_
  refine z_lload S d_W_guessOften_20 0 rfl ?_
  refine z_ldiv S d_W_guessOften_22 (by omega) (by omega) ?_
  refine z_tol (a := (un : Int)) (zL_c (by rw [show (1000000000 : Int) = ((1000000000 : Nat) : Int) from rfl, ← Int.natCast_ediv, ← hun, Nat.mul_div_cancel_left un (show 0 < sc by omega)])) ?_
  refine z_lstore (lv' := [(6, .long (zL (un : Int))), (4, .long (zL (sc : Int))), (3, .int (zI (tp : Int))), (0, .ref q), (1, .ref r), (2, .int (zI (sh : Int)))]) S d_W_guessOften_23 (by decide) rfl ?_
  refine z_aload_n S d_W_guessOften_25 4 rfl ?_
  refine z_iload_n S d_W_guessOften_26 2 rfl ?_
  refine z_callVa (As := [.int (zI (tp : Int))]) (st := []) (wc := [oW r ra ((us o : Nat) : Int), aI cI ra 12 (wa o)]) (wr := [oW q qa ((us t : Nat) : Int), aI cI qa 12 (wa t)]) S hGok hK hg hA (s_W_limbAt l dC dI cI cL qT r ra o (tp : Int) (by omega) (by omega)) (zcwV S (List.mem_cons_of_mem _ k_W_19) mV_W_limbAt k_W_19 hd_W_limbAt rfl rfl ⟨Nat.le_of_ble_eq_true rfl, Nat.le_of_ble_eq_true rfl⟩) rfl (Nat.le_of_ble_eq_true rfl) d_W_guessOften_27 ⟨Nat.le_of_ble_eq_true rfl, Nat.le_of_ble_eq_true rfl⟩ rfl [2, 3] [0, 1] 2 rfl rfl rfl (by decide) rfl rfl rfl (by decide) (by decide) (fun x w hp => ?_)
  obtain ⟨rfl, rfl⟩ := hp
  show ZZ _ _ _ _ _ _ _ _ _ _ _ _ _ _ _ _ _ _ 30 [(6, .long (zL (un : Int))), (4, .long (zL (sc : Int))), (3, .int (zI (tp : Int))), (0, .ref q), (1, .ref r), (2, .int (zI (sh : Int)))] [.long (zL ((lbI o (tp : Int) : Nat) : Int))] [oW q qa ((us t : Nat) : Int), aI cI qa 12 (wa t), oW r ra ((us o : Nat) : Int), aI cI ra 12 (wa o)]
  refine z_tol (a := ((dg 1000000000 o tp : Nat) : Int)) (zL_c (by rw [lbI_e tp rfl])) ?_
  refine z_lload S d_W_guessOften_30 0 rfl ?_
  refine z_lmul S d_W_guessOften_32 ?_
  refine z_aload_n S d_W_guessOften_33 4 rfl ?_
  refine z_iload_n S d_W_guessOften_34 2 rfl ?_
  refine z_iconst S d_W_guessOften_35 ?_
  refine z_isub S d_W_guessOften_36 ?_
  refine z_callVa (As := [.int (zI ((tp : Int) - 1))]) (st := [.long (zL (((dg 1000000000 o tp : Nat) : Int) * (un : Int)))]) (wc := [oW r ra ((us o : Nat) : Int), aI cI ra 12 (wa o)]) (wr := [oW q qa ((us t : Nat) : Int), aI cI qa 12 (wa t)]) S hGok hK hg hA (s_W_limbAt l dC dI cI cL qT r ra o ((tp : Int) - 1) (by omega) (by omega)) (zcwV S (List.mem_cons_of_mem _ k_W_19) mV_W_limbAt k_W_19 hd_W_limbAt rfl rfl ⟨Nat.le_of_ble_eq_true rfl, Nat.le_of_ble_eq_true rfl⟩) rfl (Nat.le_of_ble_eq_true rfl) d_W_guessOften_37 ⟨Nat.le_of_ble_eq_true rfl, Nat.le_of_ble_eq_true rfl⟩ rfl [2, 3] [0, 1] 2 rfl rfl rfl (by decide) rfl rfl rfl (by decide) (by decide) (fun x w hp => ?_)
  obtain ⟨rfl, rfl⟩ := hp
  show ZZ _ _ _ _ _ _ _ _ _ _ _ _ _ _ _ _ _ _ 40 [(6, .long (zL (un : Int))), (4, .long (zL (sc : Int))), (3, .int (zI (tp : Int))), (0, .ref q), (1, .ref r), (2, .int (zI (sh : Int)))] [.long (zL ((lbI o ((tp : Int) - 1) : Nat) : Int)), .long (zL (((dg 1000000000 o tp : Nat) : Int) * (un : Int)))] [oW q qa ((us t : Nat) : Int), aI cI qa 12 (wa t), oW r ra ((us o : Nat) : Int), aI cI ra 12 (wa o)]
  refine z_tol (a := (((if tp = 0 then 0 else dg 1000000000 o (tp - 1)) : Nat) : Int)) (zL_c (by rw [lbI_pm ho tp rfl])) ?_
  refine z_lload S d_W_guessOften_40 1 rfl ?_
  refine z_ldiv S d_W_guessOften_42 (by omega) (by omega) ?_
  refine z_ladd S d_W_guessOften_43 ?_
  refine z_lconst (z := 1) S d_W_guessOften_44 rfl ?_
  refine z_ladd S d_W_guessOften_45 ?_
  obtain ⟨ee, hee⟩ : ∃ ee : Nat, ee = dg 1000000000 o tp * un + (if tp = 0 then 0 else dg 1000000000 o (tp - 1)) / sc := ⟨_, rfl⟩
  refine z_tol (a := ((ee + 1 : Nat) : Int)) (zL_c (by rw [hee]; push_cast; rfl)) ?_
  rw [← hee] at hgo
  have heb : ee ≤ 2000000000000000000 := by omega
  refine z_lstore (lv' := [(8, .long (zL ((ee + 1 : Nat) : Int))), (6, .long (zL (un : Int))), (4, .long (zL (sc : Int))), (3, .int (zI (tp : Int))), (0, .ref q), (1, .ref r), (2, .int (zI (sh : Int)))]) S d_W_guessOften_46 (by decide) rfl ?_
  refine z_aload_n S d_W_guessOften_48 4 rfl ?_
  refine z_iload_n S d_W_guessOften_49 3 rfl ?_
  refine z_iload_n S d_W_guessOften_50 6 rfl ?_
  refine z_iadd S d_W_guessOften_51 ?_
  refine z_iconst S d_W_guessOften_52 ?_
  refine z_iadd S d_W_guessOften_53 ?_
  refine z_callVa (As := [.int (zI (((tp : Int) + (sh : Int)) + 1))]) (st := []) (wc := [oW q qa ((us t : Nat) : Int), aI cI qa 12 (wa t)]) (wr := [oW r ra ((us o : Nat) : Int), aI cI ra 12 (wa o)]) S hGok hK hg hA (s_W_limbAt l dC dI cI cL qT q qa t (((tp : Int) + (sh : Int)) + 1) (by omega) (by omega)) (zcwV S (List.mem_cons_of_mem _ k_W_19) mV_W_limbAt k_W_19 hd_W_limbAt rfl rfl ⟨Nat.le_of_ble_eq_true rfl, Nat.le_of_ble_eq_true rfl⟩) rfl (Nat.le_of_ble_eq_true rfl) d_W_guessOften_54 ⟨Nat.le_of_ble_eq_true rfl, Nat.le_of_ble_eq_true rfl⟩ rfl [0, 1] [2, 3] 0 rfl rfl rfl (by decide) rfl rfl rfl (by decide) (by decide) (fun x w hp => ?_)
  obtain ⟨rfl, rfl⟩ := hp
  show ZZ _ _ _ _ _ _ _ _ _ _ _ _ _ _ _ _ _ _ 57 [(8, .long (zL ((ee + 1 : Nat) : Int))), (6, .long (zL (un : Int))), (4, .long (zL (sc : Int))), (3, .int (zI (tp : Int))), (0, .ref q), (1, .ref r), (2, .int (zI (sh : Int)))] [.long (zL ((lbI t (((tp : Int) + (sh : Int)) + 1) : Nat) : Int))] [oW r ra ((us o : Nat) : Int), aI cI ra 12 (wa o), oW q qa ((us t : Nat) : Int), aI cI qa 12 (wa t)]
  refine z_tol (a := ((dg 1000000000 t (tp + sh + 1) : Nat) : Int)) (zL_c (by rw [lbI_e (tp + sh + 1) (by omega)])) ?_
  refine z_lload S d_W_guessOften_57 1 rfl ?_
  refine z_lmul S d_W_guessOften_59 ?_
  refine z_ldc2 (v := 1000000000) (z := 1000000000) S k_W_23 d_W_guessOften_60 (by decide) ?_
  refine z_lmul S d_W_guessOften_63 ?_
  refine z_aload_n S d_W_guessOften_64 4 rfl ?_
  refine z_iload_n S d_W_guessOften_65 3 rfl ?_
  refine z_iload_n S d_W_guessOften_66 6 rfl ?_
  refine z_iadd S d_W_guessOften_67 ?_
  refine z_callVa (As := [.int (zI ((tp : Int) + (sh : Int)))]) (st := [.long (zL ((((dg 1000000000 t (tp + sh + 1) : Nat) : Int) * (un : Int)) * 1000000000))]) (wc := [oW q qa ((us t : Nat) : Int), aI cI qa 12 (wa t)]) (wr := [oW r ra ((us o : Nat) : Int), aI cI ra 12 (wa o)]) S hGok hK hg hA (s_W_limbAt l dC dI cI cL qT q qa t ((tp : Int) + (sh : Int)) (by omega) (by omega)) (zcwV S (List.mem_cons_of_mem _ k_W_19) mV_W_limbAt k_W_19 hd_W_limbAt rfl rfl ⟨Nat.le_of_ble_eq_true rfl, Nat.le_of_ble_eq_true rfl⟩) rfl (Nat.le_of_ble_eq_true rfl) d_W_guessOften_68 ⟨Nat.le_of_ble_eq_true rfl, Nat.le_of_ble_eq_true rfl⟩ rfl [2, 3] [0, 1] 2 rfl rfl rfl (by decide) rfl rfl rfl (by decide) (by decide) (fun x w hp => ?_)
  obtain ⟨rfl, rfl⟩ := hp
  show ZZ _ _ _ _ _ _ _ _ _ _ _ _ _ _ _ _ _ _ 71 [(8, .long (zL ((ee + 1 : Nat) : Int))), (6, .long (zL (un : Int))), (4, .long (zL (sc : Int))), (3, .int (zI (tp : Int))), (0, .ref q), (1, .ref r), (2, .int (zI (sh : Int)))] [.long (zL ((lbI t ((tp : Int) + (sh : Int)) : Nat) : Int)), .long (zL ((((dg 1000000000 t (tp + sh + 1) : Nat) : Int) * (un : Int)) * 1000000000))] [oW r ra ((us o : Nat) : Int), aI cI ra 12 (wa o), oW q qa ((us t : Nat) : Int), aI cI qa 12 (wa t)]
  refine z_tol (a := ((dg 1000000000 t (tp + sh) : Nat) : Int)) (zL_c (by rw [lbI_e (tp + sh) (by omega)])) ?_
  refine z_lload S d_W_guessOften_71 1 rfl ?_
  refine z_lmul S d_W_guessOften_73 ?_
  refine z_ladd S d_W_guessOften_74 ?_
  refine z_aload_n S d_W_guessOften_75 4 rfl ?_
  refine z_iload_n S d_W_guessOften_76 3 rfl ?_
  refine z_iload_n S d_W_guessOften_77 6 rfl ?_
  refine z_iadd S d_W_guessOften_78 ?_
  refine z_iconst S d_W_guessOften_79 ?_
  refine z_isub S d_W_guessOften_80 ?_
  refine z_callVa (As := [.int (zI (((tp : Int) + (sh : Int)) - 1))]) (st := [.long (zL (((((dg 1000000000 t (tp + sh + 1) : Nat) : Int) * (un : Int)) * 1000000000) + (((dg 1000000000 t (tp + sh) : Nat) : Int) * (un : Int))))]) (wc := [oW q qa ((us t : Nat) : Int), aI cI qa 12 (wa t)]) (wr := [oW r ra ((us o : Nat) : Int), aI cI ra 12 (wa o)]) S hGok hK hg hA (s_W_limbAt l dC dI cI cL qT q qa t (((tp : Int) + (sh : Int)) - 1) (by omega) (by omega)) (zcwV S (List.mem_cons_of_mem _ k_W_19) mV_W_limbAt k_W_19 hd_W_limbAt rfl rfl ⟨Nat.le_of_ble_eq_true rfl, Nat.le_of_ble_eq_true rfl⟩) rfl (Nat.le_of_ble_eq_true rfl) d_W_guessOften_81 ⟨Nat.le_of_ble_eq_true rfl, Nat.le_of_ble_eq_true rfl⟩ rfl [2, 3] [0, 1] 2 rfl rfl rfl (by decide) rfl rfl rfl (by decide) (by decide) (fun x w hp => ?_)
  obtain ⟨rfl, rfl⟩ := hp
  show ZZ _ _ _ _ _ _ _ _ _ _ _ _ _ _ _ _ _ _ 84 [(8, .long (zL ((ee + 1 : Nat) : Int))), (6, .long (zL (un : Int))), (4, .long (zL (sc : Int))), (3, .int (zI (tp : Int))), (0, .ref q), (1, .ref r), (2, .int (zI (sh : Int)))] [.long (zL ((lbI t (((tp : Int) + (sh : Int)) - 1) : Nat) : Int)), .long (zL (((((dg 1000000000 t (tp + sh + 1) : Nat) : Int) * (un : Int)) * 1000000000) + (((dg 1000000000 t (tp + sh) : Nat) : Int) * (un : Int))))] [oW r ra ((us o : Nat) : Int), aI cI ra 12 (wa o), oW q qa ((us t : Nat) : Int), aI cI qa 12 (wa t)]
  refine z_tol (a := (((if tp + sh = 0 then 0 else dg 1000000000 t (tp + sh - 1)) : Nat) : Int)) (zL_c (by rw [lbI_pm ht (tp + sh) (by omega)])) ?_
  refine z_lload S d_W_guessOften_84 2 rfl ?_
  refine z_ldiv S d_W_guessOften_86 (by omega) (by omega) ?_
  refine z_ladd S d_W_guessOften_87 ?_
  obtain ⟨nn, hnn⟩ : ∃ nn : Nat, nn = dg 1000000000 t (tp + sh + 1) * un * 1000000000 + dg 1000000000 t (tp + sh) * un + (if tp + sh = 0 then 0 else dg 1000000000 t (tp + sh - 1)) / sc := ⟨_, rfl⟩
  refine z_tol (a := (nn : Int)) (zL_c (by rw [hnn, Int.natCast_add, Int.natCast_add, Int.natCast_mul, Int.natCast_mul, Int.natCast_mul, Int.natCast_ediv]; rfl)) ?_
  rw [← hnn] at hgo
  have hnb : nn ≤ 4000000000000000000 := by omega
  refine z_lstore (lv' := [(10, .long (zL (nn : Int))), (8, .long (zL ((ee + 1 : Nat) : Int))), (6, .long (zL (un : Int))), (4, .long (zL (sc : Int))), (3, .int (zI (tp : Int))), (0, .ref q), (1, .ref r), (2, .int (zI (sh : Int)))]) S d_W_guessOften_88 (by decide) rfl ?_
  refine z_lload S d_W_guessOften_90 0 rfl ?_
  refine z_lload S d_W_guessOften_92 1 rfl ?_
  refine z_ldiv S d_W_guessOften_94 (by omega) (by omega) ?_
  exact z_lret (w := [oW q qa ((us t : Nat) : Int), aI cI qa 12 (wa t), oW r ra ((us o : Nat) : Int), aI cI ra 12 (wa o)]) S hr hlo hAe d_W_guessOften_95 [2, 3, 0, 1] (by decide) rfl rfl ⟨Nat.le_refl _, Nat.le_refl _⟩ (⟨nn / (ee + 1), hgo.2.1, hgo.2.2, Nat.lt_of_le_of_lt (Nat.div_le_self _ _) (by omega), by rw [Int.natCast_ediv], rfl⟩)
