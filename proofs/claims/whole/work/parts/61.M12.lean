theorem nd_step {v k m : Nat} (h1 : dg 1000000 v k < 10 ^ m) (h2 : 10 ^ (m - 1) ≤ dg 1000000 v k) (hm : 1 ≤ m) (hk : 6 * k + m ≤ 108) : ul (dg 10 (v % 1000000 ^ (k + 1))) 108 = 6 * k + m := by
  have e : (1000000 : Nat) ^ k = 10 ^ (6 * k) := by rw [show (1000000 : Nat) = 10 ^ 6 by decide, ← Nat.pow_mul]
  have hp : 0 < (1000000 : Nat) ^ k := Nat.pow_pos (by decide)
  have hr := Nat.mod_lt v hp
  refine ul_eq (by decide) ?_ (fun _ => ?_) hk
  · rw [md_s, Nat.pow_add, ← e]
    have h3 := Nat.mul_le_mul_right (1000000 ^ k) (Nat.succ_le_of_lt h1)
    rw [Nat.succ_mul] at h3
    rw [Nat.mul_comm (1000000 ^ k)]
    omega
  · rw [md_s, show 6 * k + m - 1 = 6 * k + (m - 1) by omega, Nat.pow_add, ← e, Nat.mul_comm]
    have h3 := Nat.mul_le_mul_right (1000000 ^ k) h2
    omega
theorem nd_48' {v : Nat} (h : v < 10 ^ 48) : 1 ≤ nd v ∧ nd v ≤ 48 := by
  have h12 := b4812 h
  have h1 := nd_r h12
  have h2 := nd_48 h12
  omega
theorem dec_dig6 (v i : Nat) : dg 1000000 v (i / 6) / 10 ^ (i % 6) % 10 = dg 10 v i := by
  have h9 : (10 : Nat) ^ i = 1000000 ^ (i / 6) * 10 ^ (i % 6) := by
    rw [show (1000000 : Nat) = 10 ^ 6 by decide, ← Nat.pow_mul, ← Nat.pow_add, Nat.div_add_mod]
  unfold dg
  rw [h9, ← Nat.div_div_eq_div_mul]
  generalize v / 1000000 ^ (i / 6) = x
  have hr : i % 6 < 6 := Nat.mod_lt _ (by decide)
  generalize i % 6 = r at hr
  rcases (show r = 0 ∨ r = 1 ∨ r = 2 ∨ r = 3 ∨ r = 4 ∨ r = 5 by omega) with h | h | h | h | h | h <;> subst h <;> simp only [Nat.pow_zero, Nat.reducePow] <;> omega
set_option maxHeartbeats 4000000 in
set_option maxRecDepth 100000 in
theorem s_M_many (l : Launch) (dC : Nat → ClassId) (dI : Nat → Nat → Nat) (cI cL : ClassId) (qT : Nat) (x : Nat) (hx : x < 1000000) (h0 : 0 < x) : Ct l y_M_many (Cond.code y_M_many c_M_many 5 (some .int) :: zB) { frames := 0, cells := 0, slots := 0, locals := 0 } (dC, dI) zcl [(cI, .int), (cL, .long)] (zG cI cL qT) [.long (zL (x : Int))] [] (fun rv wv => ∃ mm : Nat, (x < 10 ^ mm) ∧ (10 ^ (mm - 1) ≤ x) ∧ (1 ≤ mm) ∧ (mm ≤ 6) ∧ rv = .int (zI (mm : Int)) ∧ wv = []) 0 0 := by
  refine Cm.ofZ (cc := c_M_many) (maxL := 5) (ret := (some .int)) (by decide) rfl (Nat.le_of_ble_eq_true rfl) rfl ?_
  intro p e s m below meth c A S hr hlo hnm hK hg hA hAe
  have hGok := zG_ok cI cL qT
  show ZZ _ _ _ _ _ _ _ _ _ _ _ _ _ _ _ _ _ _ 0 [(0, .long (zL (x : Int)))] [] []
  refine z_iconst S d_M_many_0 ?_
  refine z_istore_n (lv' := [(2, .int (zI 0)), (0, .long (zL (x : Int)))]) S d_M_many_1 rfl (by decide) rfl ?_
  refine z_lload_n S d_M_many_2 1 rfl ?_
  refine z_lstore_n (lv' := [(3, .long (zL (x : Int))), (2, .int (zI 0)), (0, .long (zL (x : Int)))]) S d_M_many_3 rfl (by decide) rfl ?_
  refine z_lv (lv' := [(0, .long (zL (x : Int))), (2, .int (zI 0)), (3, .long (zL (x : Int)))]) [2, 1, 0] rfl ?_
  refine z_lq (lv' := [(0, .long (zL (x : Int))), (2, .int (zI ((0 : Nat) : Int))), (3, .long (zL (x : Int)))]) (congrArg (fun zzz : Int => ([(0, .long (zL (x : Int))), (2, .int (zI zzz)), (3, .long (zL (x : Int)))] : List (Nat × Value))) (show (0 : Int) = ((0 : Nat) : Int) by omega)) ?_
  refine z_loop (I := fun (zz : Nat × Nat) => match zz with | (n, a) => (n ≤ 6) ∧ (a = x / 10 ^ n) ∧ (n = 0 ∨ 10 ^ (n - 1) ≤ x)) (μ := fun (zz : Nat × Nat) => match zz with | (n, a) => a) (LV := fun (zz : Nat × Nat) => match zz with | (n, a) => [(0, .long (zL (x : Int))), (2, .int (zI (n : Int))), (3, .long (zL (a : Int)))]) (WS := fun (zz : Nat × Nat) => match zz with | (n, a) => []) (a := (0, x)) ?_ ?_
  · exact (show (0 ≤ 6) ∧ (x = x / 10 ^ 0) ∧ (0 = 0 ∨ 10 ^ (0 - 1) ≤ x) from ⟨by omega, by rw [Nat.pow_zero, Nat.div_one], Or.inl rfl⟩)
  · intro ⟨n, a⟩ hI ih4
    obtain ⟨hn, ha, hp⟩ : (n ≤ 6) ∧ (a = x / 10 ^ n) ∧ (n = 0 ∨ 10 ^ (n - 1) ≤ x) := hI
    show ZZ _ _ _ _ _ _ _ _ _ _ _ _ _ _ _ _ _ _ 4 [(0, .long (zL (x : Int))), (2, .int (zI (n : Int))), (3, .long (zL (a : Int)))] [] []
    have hal : a ≤ x := by rw [ha]; exact Nat.div_le_self _ _
    refine z_lload_n S d_M_many_4 2 rfl ?_
    refine z_lconst (z := 0) S d_M_many_5 rfl ?_
    refine z_lcmp_le (tgt := 22) S d_M_many_6 d_M_many_7 (by decide) (by omega) (by omega) (fun c1 => ?_) (fun c1 => ?_)
    · skip
      refine z_iload_n S d_M_many_22 1 rfl ?_
      have hlt : x < 10 ^ n := by
        rcases Nat.lt_or_ge x (10 ^ n) with z | z
        · exact z
        · have := Nat.div_pos z (Nat.pow_pos (by decide))
          omega
      have hn0 : n ≠ 0 := fun z => by rw [z, Nat.pow_zero] at hlt; omega
      have hp2 : 10 ^ (n - 1) ≤ x := hp.resolve_left hn0
      exact z_iret (w := []) S hr hlo hAe d_M_many_23 [] (by decide) rfl rfl ⟨Nat.le_refl _, Nat.le_refl _⟩ (⟨n, hlt, hp2, by omega, hn, rfl, rfl⟩)
    · skip
      have hge : 10 ^ n ≤ x := by
        rcases Nat.lt_or_ge x (10 ^ n) with z | z
        · rw [Nat.div_eq_of_lt z] at ha; omega
        · exact z
      have hn6 : n + 1 ≤ 6 := by
        rcases Nat.lt_or_ge n 6 with z | z
        · exact z
        · have := pw_le (b := 10) (by decide) z
          omega
      refine z_iinc (y := ((n + 1 : Nat) : Int)) (lv' := [(2, .int (zI ((n + 1 : Nat) : Int))), (0, .long (zL (x : Int))), (3, .long (zL (a : Int)))]) S d_M_many_10 1 rfl (by omega) (by decide) rfl ?_
      refine z_lload_n S d_M_many_13 2 rfl ?_
      refine z_ldc2 (v := 10) (z := 10) S k_M_153 d_M_many_14 (by decide) ?_
      refine z_ldiv S d_M_many_17 (by omega) (by omega) ?_
      refine z_topl (fun x2 ex2 => ?_)
      refine z_lstore_n (lv' := [(3, .long (zL x2)), (2, .int (zI ((n + 1 : Nat) : Int))), (0, .long (zL (x : Int)))]) S d_M_many_18 rfl (by decide) rfl ?_
      refine z_goto (tgt := 4) S d_M_many_19 (by decide) ?_
      refine z_lv (lv' := [(0, .long (zL (x : Int))), (2, .int (zI ((n + 1 : Nat) : Int))), (3, .long (zL x2))]) [2, 1, 0] rfl ?_
      refine z_lq (lv' := [(0, .long (zL (x : Int))), (2, .int (zI ((n + 1 : Nat) : Int))), (3, .long (zL ((a / 10 : Nat) : Int)))]) (congrArg (fun zzz : Int => ([(0, .long (zL (x : Int))), (2, .int (zI ((n + 1 : Nat) : Int))), (3, .long (zL zzz))] : List (Nat × Value))) (show (x2 : Int) = ((a / 10 : Nat) : Int) by omega)) ?_
      exact ih4 ((n + 1), (a / 10)) (show ((n + 1) ≤ 6) ∧ ((a / 10) = x / 10 ^ (n + 1)) ∧ ((n + 1) = 0 ∨ 10 ^ ((n + 1) - 1) ≤ x) from ⟨hn6, by rw [ha, Nat.div_div_eq_div_mul, ← Nat.pow_succ], Or.inr (by rw [Nat.add_sub_cancel]; exact hge)⟩) (show (a / 10) < a from by omega)
set_option maxHeartbeats 4000000 in
set_option maxRecDepth 100000 in
theorem s_M_digit0 (l : Launch) (dC : Nat → ClassId) (dI : Nat → Nat → Nat) (cI cL : ClassId) (qT : Nat) (mo : Nat) (mw : Nat) (nv : Nat) (ma : Nat) (mb : Nat) (ns : Nat) (mlo : Nat) (mhi : Nat) (nw : Nat) (mwe : Nat) (mru : Nat) (mrd : Nat) (th : Int) (mg : Nat) (up : Nat → Nat) (u : Nat) (i : Nat) (hnv : nv ≤ 100) (hu : u < nv) (hb : up u < 10 ^ 48) (hi : i < nd (up u)) : Ct l y_M_digit (Cond.code y_M_digit c_M_digit 11 (some .int) :: zB) { frames := 1, cells := 0, slots := 0, locals := 24 } (dC, dI) zcl [(cI, .int), (cL, .long)] (zG cI cL qT) [.ref mo, .int (zI (u : Int)), .int (zI 0), .int (zI (i : Int))] [oM mo th mw (nv : Int) mg ma mb (ns : Int) mlo mhi (nw : Int) mwe mru mrd, aL cL ma 800 (moA up)] (fun rv wv => rv = .int (zI ((dg 10 (up u) i : Nat) : Int)) ∧ wv = [oM mo 0 mw (nv : Int) mg ma mb (ns : Int) mlo mhi (nw : Int) mwe mru mrd, aL cL ma 800 (moA up)]) 0 0 := by
  refine Cm.ofZ (cc := c_M_digit) (maxL := 11) (ret := (some .int)) (by decide) rfl (Nat.le_of_ble_eq_true rfl) rfl ?_
  intro p e s m below meth c A S hr hlo hnm hK hg hA hAe
  have hGok := zG_ok cI cL qT
  show ZZ _ _ _ _ _ _ _ _ _ _ _ _ _ _ _ _ _ _ 0 [(0, .ref mo), (1, .int (zI (u : Int))), (2, .int (zI 0)), (3, .int (zI (i : Int)))] [] [oM mo th mw (nv : Int) mg ma mb (ns : Int) mlo mhi (nw : Int) mwe mru mrd, aL cL ma 800 (moA up)]
  have hn48 := nd_48' hb
  have hz00 : ul (dg 10 (up u % 1000000 ^ 0)) 108 = 0 := by rw [Nat.pow_zero, Nat.mod_one]; decide
  refine z_aload_n S d_M_digit_0 0 rfl ?_
  refine z_iload_n S d_M_digit_1 1 rfl ?_
  refine z_callVa (As := [.int (zI (u : Int))]) (st := []) (wc := [oM mo th mw (nv : Int) mg ma mb (ns : Int) mlo mhi (nw : Int) mwe mru mrd]) (wr := [aL cL ma 800 (moA up)]) S hGok hK hg hA (s_M_isValue l dC dI cI cL qT mo mw nv ma mb ns mlo mhi nw mwe mru mrd th mg (u : Int) (by omega) (by omega)) (zcwV S (List.mem_cons_of_mem _ k_M_125) mV_M_isValue k_M_125 hd_M_isValue rfl rfl ⟨Nat.le_of_ble_eq_true rfl, Nat.le_of_ble_eq_true rfl⟩) rfl (Nat.le_of_ble_eq_true rfl) d_M_digit_2 ⟨Nat.le_of_ble_eq_true rfl, Nat.le_of_ble_eq_true rfl⟩ rfl [0] [1] 0 rfl rfl rfl (by decide) rfl rfl rfl (by decide) (by decide) (fun x w hp => ?_)
  obtain ⟨rfl, rfl⟩ := hp
  show ZZ _ _ _ _ _ _ _ _ _ _ _ _ _ _ _ _ _ _ 5 [(0, .ref mo), (1, .int (zI (u : Int))), (2, .int (zI 0)), (3, .int (zI (i : Int)))] [.int (zI (b2 (0 ≤ (u : Int) ∧ (u : Int) < (nv : Int))))] [aL cL ma 800 (moA up), oM mo th mw (nv : Int) mg ma mb (ns : Int) mlo mhi (nw : Int) mwe mru mrd]
  refine z_toi (a := 1) (zI_c (b2_t ⟨by omega, by omega⟩)) ?_
  refine z_if_eq (tgt := 21) S d_M_digit_5 (by decide) (by omega) (fun c1 => ?_) (fun c1 => ?_)
  · skip
    exact absurd c1 (by omega)
  · skip
    refine z_iload_n S d_M_digit_8 2 rfl ?_
    refine z_if_lt (tgt := 21) S d_M_digit_9 (by decide) (by omega) (fun c2 => ?_) (fun c2 => ?_)
    · skip
      exact absurd c2 (by omega)
    · skip
      refine z_iload_n S d_M_digit_12 2 rfl ?_
      refine z_iconst S d_M_digit_13 ?_
      refine z_icmp_gt (tgt := 21) S d_M_digit_14 (by decide) (by omega) (by omega) (fun c3 => ?_) (fun c3 => ?_)
      · skip
        exact absurd c3 (by omega)
      · skip
        refine z_iconst S d_M_digit_17 ?_
        refine z_goto (tgt := 22) S d_M_digit_18 (by decide) ?_
        refine z_istore (lv' := [(4, .int (zI 1)), (0, .ref mo), (1, .int (zI (u : Int))), (2, .int (zI 0)), (3, .int (zI (i : Int)))]) S d_M_digit_22 (by decide) rfl ?_
        refine z_iconst S d_M_digit_24 ?_
        refine z_istore (lv' := [(5, .int (zI 0)), (4, .int (zI 1)), (0, .ref mo), (1, .int (zI (u : Int))), (2, .int (zI 0)), (3, .int (zI (i : Int)))]) S d_M_digit_25 (by decide) rfl ?_
        refine z_lconst (z := 0) S d_M_digit_27 rfl ?_
        refine z_lstore (lv' := [(6, .long (zL 0)), (5, .int (zI 0)), (4, .int (zI 1)), (0, .ref mo), (1, .int (zI (u : Int))), (2, .int (zI 0)), (3, .int (zI (i : Int)))]) S d_M_digit_28 (by decide) rfl ?_
        refine z_iconst S d_M_digit_30 ?_
        refine z_istore (lv' := [(8, .int (zI 0)), (6, .long (zL 0)), (5, .int (zI 0)), (4, .int (zI 1)), (0, .ref mo), (1, .int (zI (u : Int))), (2, .int (zI 0)), (3, .int (zI (i : Int)))]) S d_M_digit_31 (by decide) rfl ?_
        refine z_lv (lv' := [(0, .ref mo), (1, .int (zI (u : Int))), (2, .int (zI 0)), (3, .int (zI (i : Int))), (4, .int (zI 1)), (5, .int (zI 0)), (6, .long (zL 0)), (8, .int (zI 0))]) [4, 5, 6, 7, 3, 2, 1, 0] rfl ?_
        refine z_ws (ws' := [oM mo th mw (nv : Int) mg ma mb (ns : Int) mlo mhi (nw : Int) mwe mru mrd, aL cL ma 800 (moA up)]) [1, 0] (by decide) rfl rfl ?_
        refine z_lq (lv' := [(0, .ref mo), (1, .int (zI (u : Int))), (2, .int (zI 0)), (3, .int (zI (i : Int))), (4, .int (zI 1)), (5, .int (zI ((ul (dg 10 (up u % 1000000 ^ 0)) 108 : Nat) : Int))), (6, .long (zL ((0 : Nat) : Int))), (8, .int (zI ((0 : Nat) : Int)))]) (Eq.trans (Eq.trans ((congrArg (fun zzz : Int => ([(0, .ref mo), (1, .int (zI (u : Int))), (2, .int (zI 0)), (3, .int (zI (i : Int))), (4, .int (zI 1)), (5, .int (zI zzz)), (6, .long (zL 0)), (8, .int (zI 0))] : List (Nat × Value))) (show (0 : Int) = ((ul (dg 10 (up u % 1000000 ^ 0)) 108 : Nat) : Int) by omega))) (congrArg (fun zzz : Int => ([(0, .ref mo), (1, .int (zI (u : Int))), (2, .int (zI 0)), (3, .int (zI (i : Int))), (4, .int (zI 1)), (5, .int (zI ((ul (dg 10 (up u % 1000000 ^ 0)) 108 : Nat) : Int))), (6, .long (zL zzz)), (8, .int (zI 0))] : List (Nat × Value))) (show (0 : Int) = ((0 : Nat) : Int) by omega))) (congrArg (fun zzz : Int => ([(0, .ref mo), (1, .int (zI (u : Int))), (2, .int (zI 0)), (3, .int (zI (i : Int))), (4, .int (zI 1)), (5, .int (zI ((ul (dg 10 (up u % 1000000 ^ 0)) 108 : Nat) : Int))), (6, .long (zL ((0 : Nat) : Int))), (8, .int (zI zzz))] : List (Nat × Value))) (show (0 : Int) = ((0 : Nat) : Int) by omega))) ?_
        refine z_loop (I := fun (zz : Nat × Nat) => match zz with | (kk, lb) => (kk ≤ 8) ∧ (i / 6 < kk → lb = dg 1000000 (up u) (i / 6))) (μ := fun (zz : Nat × Nat) => match zz with | (kk, lb) => 8 - kk) (LV := fun (zz : Nat × Nat) => match zz with | (kk, lb) => [(0, .ref mo), (1, .int (zI (u : Int))), (2, .int (zI 0)), (3, .int (zI (i : Int))), (4, .int (zI 1)), (5, .int (zI ((ul (dg 10 (up u % 1000000 ^ kk)) 108 : Nat) : Int))), (6, .long (zL (lb : Int))), (8, .int (zI (kk : Int)))]) (WS := fun (zz : Nat × Nat) => match zz with | (kk, lb) => [oM mo th mw (nv : Int) mg ma mb (ns : Int) mlo mhi (nw : Int) mwe mru mrd, aL cL ma 800 (moA up)]) (a := (0, 0)) ?_ ?_
        · exact (show (0 ≤ 8) ∧ (i / 6 < 0 → 0 = dg 1000000 (up u) (i / 6)) from ⟨by omega, fun z => absurd z (by omega)⟩)
        · intro ⟨kk, lb⟩ hI ih33
          obtain ⟨hkk, hlb⟩ : (kk ≤ 8) ∧ (i / 6 < kk → lb = dg 1000000 (up u) (i / 6)) := hI
          show ZZ _ _ _ _ _ _ _ _ _ _ _ _ _ _ _ _ _ _ 33 [(0, .ref mo), (1, .int (zI (u : Int))), (2, .int (zI 0)), (3, .int (zI (i : Int))), (4, .int (zI 1)), (5, .int (zI ((ul (dg 10 (up u % 1000000 ^ kk)) 108 : Nat) : Int))), (6, .long (zL (lb : Int))), (8, .int (zI (kk : Int)))] [] [oM mo th mw (nv : Int) mg ma mb (ns : Int) mlo mhi (nw : Int) mwe mru mrd, aL cL ma 800 (moA up)]
          refine z_iload S d_M_digit_33 7 rfl ?_
          refine z_bipush S d_M_digit_35 rfl ?_
          refine z_icmp_ge (tgt := 121) S d_M_digit_37 (by decide) (by omega) (by omega) (fun c4 => ?_) (fun c4 => ?_)
          · skip
            have hur := ul_le (dg 10 (up u % 1000000 ^ kk)) 108
            refine z_iload S d_M_digit_121 5 rfl ?_
            refine z_if_ne (tgt := 129) S d_M_digit_123 (by decide) (by omega) (fun c5 => ?_) (fun c5 => ?_)
            · skip
              have hk8 : kk = 8 := by omega
              have hm8 : up u % 1000000 ^ kk = up u := by rw [hk8]; exact Nat.mod_eq_of_lt (by rw [← e48]; exact hb)
              have hu0 := ul_0 (b := 10) (v := up u) (n := 108) (by decide) (Nat.lt_of_lt_of_le hb (by decide))
              have hndr := nd_48' hb
              have hc := c5
              rw [hm8] at hc
              have hnd : nd (up u) = ul (dg 10 (up u % 1000000 ^ kk)) 108 := by rw [hm8]; unfold nd; rw [if_neg (by omega)]
              refine z_lq (lv' := [(0, .ref mo), (1, .int (zI (u : Int))), (2, .int (zI 0)), (3, .int (zI (i : Int))), (4, .int (zI 1)), (5, .int (zI ((nd (up u) : Nat) : Int))), (6, .long (zL (lb : Int))), (8, .int (zI (kk : Int)))]) (by rw [hnd]) ?_
              refine z_aload_n S d_M_digit_129 0 rfl ?_
              refine z_iload S d_M_digit_130 4 rfl ?_
              refine z_if_eq (tgt := 149) S d_M_digit_132 (by decide) (by omega) (fun c6 => ?_) (fun c6 => ?_)
              · skip
                exact absurd c6 (by omega)
              · skip
                refine z_iload_n S d_M_digit_135 3 rfl ?_
                refine z_if_lt (tgt := 149) S d_M_digit_136 (by decide) (by omega) (fun c7 => ?_) (fun c7 => ?_)
                · skip
                  omega
                · skip
                  refine z_iload_n S d_M_digit_139 3 rfl ?_
                  refine z_iload S d_M_digit_140 5 rfl ?_
                  refine z_icmp_ge (tgt := 149) S d_M_digit_142 (by decide) (by omega) (by omega) (fun c8 => ?_) (fun c8 => ?_)
                  · skip
                    omega
                  · skip
                    refine z_iconst S d_M_digit_145 ?_
                    refine z_goto (tgt := 150) S d_M_digit_146 (by decide) ?_
                    refine z_iconst S d_M_digit_150 ?_
                    refine z_iconst S d_M_digit_151 ?_
                    refine z_callVa (As := [.int (zI 1), .int (zI 1), .int (zI 1)]) (st := []) (wc := [oM mo th mw (nv : Int) mg ma mb (ns : Int) mlo mhi (nw : Int) mwe mru mrd]) (wr := [aL cL ma 800 (moA up)]) S hGok hK hg hA (s_M_goes l dC dI cI cL qT mo mw nv ma mb ns mlo mhi nw mwe mru mrd th mg 1 1 1 (by omega) (by omega) (by omega)) (zcwV S (List.mem_cons_of_mem _ k_M_118) mV_M_goes k_M_118 hd_M_goes rfl rfl ⟨Nat.le_of_ble_eq_true rfl, Nat.le_of_ble_eq_true rfl⟩) rfl (Nat.le_of_ble_eq_true rfl) d_M_digit_152 ⟨Nat.le_of_ble_eq_true rfl, Nat.le_of_ble_eq_true rfl⟩ rfl [0] [1] 0 rfl rfl rfl (by decide) rfl rfl rfl (by decide) (by decide) (fun x w hp => ?_)
                    obtain ⟨rfl, rfl⟩ := hp
                    show ZZ _ _ _ _ _ _ _ _ _ _ _ _ _ _ _ _ _ _ 155 [(0, .ref mo), (1, .int (zI (u : Int))), (2, .int (zI 0)), (3, .int (zI (i : Int))), (4, .int (zI 1)), (5, .int (zI ((nd (up u) : Nat) : Int))), (6, .long (zL (lb : Int))), (8, .int (zI (kk : Int)))] [.int (zI (b2 (gth 1 1 1 = 0)))] [aL cL ma 800 (moA up), oM mo (gth 1 1 1) mw (nv : Int) mg ma mb (ns : Int) mlo mhi (nw : Int) mwe mru mrd]
                    refine z_toi (a := 1) rfl ?_
                    refine z_wq (ws' := [aL cL ma 800 (moA up), oM mo 0 mw (nv : Int) mg ma mb (ns : Int) mlo mhi (nw : Int) mwe mru mrd]) rfl ?_
                    refine z_if_ne (tgt := 160) S d_M_digit_155 (by decide) (by omega) (fun c9 => ?_) (fun c9 => ?_)
                    · skip
                      refine z_iconst S d_M_digit_160 ?_
                      refine z_istore (lv' := [(8, .int (zI 0)), (0, .ref mo), (1, .int (zI (u : Int))), (2, .int (zI 0)), (3, .int (zI (i : Int))), (4, .int (zI 1)), (5, .int (zI ((nd (up u) : Nat) : Int))), (6, .long (zL (lb : Int)))]) S d_M_digit_161 (by decide) rfl ?_
                      refine z_lv (lv' := [(0, .ref mo), (3, .int (zI (i : Int))), (6, .long (zL (lb : Int))), (8, .int (zI 0))]) [1, 4, 7, 0] rfl ?_
                      refine z_ws (ws' := [oM mo 0 mw (nv : Int) mg ma mb (ns : Int) mlo mhi (nw : Int) mwe mru mrd, aL cL ma 800 (moA up)]) [1, 0] (by decide) rfl rfl ?_
                      refine z_lq (lv' := [(0, .ref mo), (3, .int (zI (i : Int))), (6, .long (zL (lb : Int))), (8, .int (zI ((0 : Nat) : Int)))]) (congrArg (fun zzz : Int => ([(0, .ref mo), (3, .int (zI (i : Int))), (6, .long (zL (lb : Int))), (8, .int (zI zzz))] : List (Nat × Value))) (show (0 : Int) = ((0 : Nat) : Int) by omega)) ?_
                      refine z_loop (I := fun (zz : Nat × Nat) => match zz with | (j, z) => (j ≤ i % 6) ∧ (z = dg 1000000 (up u) (i / 6) / 10 ^ j)) (μ := fun (zz : Nat × Nat) => match zz with | (j, z) => 6 - j) (LV := fun (zz : Nat × Nat) => match zz with | (j, z) => [(0, .ref mo), (3, .int (zI (i : Int))), (6, .long (zL (z : Int))), (8, .int (zI (j : Int)))]) (WS := fun (zz : Nat × Nat) => match zz with | (j, z) => [oM mo 0 mw (nv : Int) mg ma mb (ns : Int) mlo mhi (nw : Int) mwe mru mrd, aL cL ma 800 (moA up)]) (a := (0, lb)) ?_ ?_
                      · exact (show (0 ≤ i % 6) ∧ (lb = dg 1000000 (up u) (i / 6) / 10 ^ 0) from ⟨by omega, by rw [Nat.pow_zero, Nat.div_one]; exact hlb (by omega)⟩)
                      · intro ⟨j, z⟩ hI ih163
                        obtain ⟨hj, hz⟩ : (j ≤ i % 6) ∧ (z = dg 1000000 (up u) (i / 6) / 10 ^ j) := hI
                        show ZZ _ _ _ _ _ _ _ _ _ _ _ _ _ _ _ _ _ _ 163 [(0, .ref mo), (3, .int (zI (i : Int))), (6, .long (zL (z : Int))), (8, .int (zI (j : Int)))] [] [oM mo 0 mw (nv : Int) mg ma mb (ns : Int) mlo mhi (nw : Int) mwe mru mrd, aL cL ma 800 (moA up)]
                        have hzl : z < 1000000 := by rw [hz]; exact Nat.lt_of_le_of_lt (Nat.div_le_self _ _) (dg_lt (by decide) _ _)
                        refine z_iload S d_M_digit_163 3 rfl ?_
                        refine z_iload_n S d_M_digit_165 1 rfl ?_
                        refine z_bipush S d_M_digit_166 rfl ?_
                        refine z_irem S d_M_digit_168 (by omega) (by omega) ?_
                        refine z_icmp_ge (tgt := 186) S d_M_digit_169 (by decide) (by omega) (by omega) (fun c10 => ?_) (fun c10 => ?_)
                        · skip
                          have hje : j = i % 6 := by omega
                          have hdd6 := dec_dig6 (up u) i
                          rw [← hje, ← hz] at hdd6
                          refine z_lload S d_M_digit_186 2 rfl ?_
                          refine z_ldc2 (v := 10) (z := 10) S k_M_153 d_M_digit_188 (by decide) ?_
                          refine z_lrem S d_M_digit_191 (by omega) (by omega) ?_
                          refine z_l2i S d_M_digit_192 ?_
                          exact z_iret (w := [oM mo 0 mw (nv : Int) mg ma mb (ns : Int) mlo mhi (nw : Int) mwe mru mrd, aL cL ma 800 (moA up)]) S hr hlo hAe d_M_digit_193 [0, 1] (by decide) rfl rfl ⟨Nat.le_refl _, Nat.le_refl _⟩ (⟨congrArg Value.int (zI_c (by omega)), rfl⟩)
                        · skip
                          refine z_lload S d_M_digit_172 2 rfl ?_
                          refine z_ldc2 (v := 10) (z := 10) S k_M_153 d_M_digit_174 (by decide) ?_
                          refine z_ldiv S d_M_digit_177 (by omega) (by omega) ?_
                          refine z_topl (fun x11 ex11 => ?_)
                          refine z_lstore (lv' := [(6, .long (zL x11)), (0, .ref mo), (3, .int (zI (i : Int))), (8, .int (zI (j : Int)))]) S d_M_digit_178 (by decide) rfl ?_
                          refine z_iinc (y := ((j + 1 : Nat) : Int)) (lv' := [(8, .int (zI ((j + 1 : Nat) : Int))), (6, .long (zL x11)), (0, .ref mo), (3, .int (zI (i : Int)))]) S d_M_digit_180 3 rfl (by omega) (by decide) rfl ?_
                          refine z_goto (tgt := 163) S d_M_digit_183 (by decide) ?_
                          refine z_lv (lv' := [(0, .ref mo), (3, .int (zI (i : Int))), (6, .long (zL x11)), (8, .int (zI ((j + 1 : Nat) : Int)))]) [2, 3, 1, 0] rfl ?_
                          refine z_lq (lv' := [(0, .ref mo), (3, .int (zI (i : Int))), (6, .long (zL ((z / 10 : Nat) : Int))), (8, .int (zI ((j + 1 : Nat) : Int)))]) (congrArg (fun zzz : Int => ([(0, .ref mo), (3, .int (zI (i : Int))), (6, .long (zL zzz)), (8, .int (zI ((j + 1 : Nat) : Int)))] : List (Nat × Value))) (show (x11 : Int) = ((z / 10 : Nat) : Int) by omega)) ?_
                          exact ih163 ((j + 1), (z / 10)) (show ((j + 1) ≤ i % 6) ∧ ((z / 10) = dg 1000000 (up u) (i / 6) / 10 ^ (j + 1)) from ⟨by omega, by rw [hz, Nat.div_div_eq_div_mul, ← Nat.pow_succ]⟩) (show 6 - (j + 1) < 6 - j from by omega)
                    · skip
                      exact absurd c9 (by omega)
            · skip
              refine z_iconst S d_M_digit_126 ?_
              refine z_istore (lv' := [(5, .int (zI 1)), (0, .ref mo), (1, .int (zI (u : Int))), (2, .int (zI 0)), (3, .int (zI (i : Int))), (4, .int (zI 1)), (6, .long (zL (lb : Int))), (8, .int (zI (kk : Int)))]) S d_M_digit_127 (by decide) rfl ?_
              have hk8 : kk = 8 := by omega
              have hm8 : up u % 1000000 ^ kk = up u := by rw [hk8]; exact Nat.mod_eq_of_lt (by rw [← e48]; exact hb)
              have hu0 := ul_0 (b := 10) (v := up u) (n := 108) (by decide) (Nat.lt_of_lt_of_le hb (by decide))
              have hndr := nd_48' hb
              have hc := c5
              rw [hm8] at hc
              have hnd : nd (up u) = 1 := by unfold nd; rw [if_pos (by omega)]
              refine z_lq (lv' := [(5, .int (zI ((nd (up u) : Nat) : Int))), (0, .ref mo), (1, .int (zI (u : Int))), (2, .int (zI 0)), (3, .int (zI (i : Int))), (4, .int (zI 1)), (6, .long (zL (lb : Int))), (8, .int (zI (kk : Int)))]) (by rw [hnd]; rfl) ?_
              refine z_aload_n S d_M_digit_129 1 rfl ?_
              refine z_iload S d_M_digit_130 5 rfl ?_
              refine z_if_eq (tgt := 149) S d_M_digit_132 (by decide) (by omega) (fun c12 => ?_) (fun c12 => ?_)
              · skip
                exact absurd c12 (by omega)
              · skip
                refine z_iload_n S d_M_digit_135 4 rfl ?_
                refine z_if_lt (tgt := 149) S d_M_digit_136 (by decide) (by omega) (fun c13 => ?_) (fun c13 => ?_)
                · skip
                  omega
                · skip
                  refine z_iload_n S d_M_digit_139 4 rfl ?_
                  refine z_iload S d_M_digit_140 0 rfl ?_
                  refine z_icmp_ge (tgt := 149) S d_M_digit_142 (by decide) (by omega) (by omega) (fun c14 => ?_) (fun c14 => ?_)
                  · skip
                    omega
                  · skip
                    refine z_iconst S d_M_digit_145 ?_
                    refine z_goto (tgt := 150) S d_M_digit_146 (by decide) ?_
                    refine z_iconst S d_M_digit_150 ?_
                    refine z_iconst S d_M_digit_151 ?_
                    refine z_callVa (As := [.int (zI 1), .int (zI 1), .int (zI 1)]) (st := []) (wc := [oM mo th mw (nv : Int) mg ma mb (ns : Int) mlo mhi (nw : Int) mwe mru mrd]) (wr := [aL cL ma 800 (moA up)]) S hGok hK hg hA (s_M_goes l dC dI cI cL qT mo mw nv ma mb ns mlo mhi nw mwe mru mrd th mg 1 1 1 (by omega) (by omega) (by omega)) (zcwV S (List.mem_cons_of_mem _ k_M_118) mV_M_goes k_M_118 hd_M_goes rfl rfl ⟨Nat.le_of_ble_eq_true rfl, Nat.le_of_ble_eq_true rfl⟩) rfl (Nat.le_of_ble_eq_true rfl) d_M_digit_152 ⟨Nat.le_of_ble_eq_true rfl, Nat.le_of_ble_eq_true rfl⟩ rfl [0] [1] 0 rfl rfl rfl (by decide) rfl rfl rfl (by decide) (by decide) (fun x w hp => ?_)
                    obtain ⟨rfl, rfl⟩ := hp
                    show ZZ _ _ _ _ _ _ _ _ _ _ _ _ _ _ _ _ _ _ 155 [(5, .int (zI ((nd (up u) : Nat) : Int))), (0, .ref mo), (1, .int (zI (u : Int))), (2, .int (zI 0)), (3, .int (zI (i : Int))), (4, .int (zI 1)), (6, .long (zL (lb : Int))), (8, .int (zI (kk : Int)))] [.int (zI (b2 (gth 1 1 1 = 0)))] [aL cL ma 800 (moA up), oM mo (gth 1 1 1) mw (nv : Int) mg ma mb (ns : Int) mlo mhi (nw : Int) mwe mru mrd]
                    refine z_toi (a := 1) rfl ?_
                    refine z_wq (ws' := [aL cL ma 800 (moA up), oM mo 0 mw (nv : Int) mg ma mb (ns : Int) mlo mhi (nw : Int) mwe mru mrd]) rfl ?_
                    refine z_if_ne (tgt := 160) S d_M_digit_155 (by decide) (by omega) (fun c15 => ?_) (fun c15 => ?_)
                    · skip
                      refine z_iconst S d_M_digit_160 ?_
                      refine z_istore (lv' := [(8, .int (zI 0)), (5, .int (zI ((nd (up u) : Nat) : Int))), (0, .ref mo), (1, .int (zI (u : Int))), (2, .int (zI 0)), (3, .int (zI (i : Int))), (4, .int (zI 1)), (6, .long (zL (lb : Int)))]) S d_M_digit_161 (by decide) rfl ?_
                      refine z_lv (lv' := [(0, .ref mo), (3, .int (zI (i : Int))), (6, .long (zL (lb : Int))), (8, .int (zI 0))]) [2, 5, 7, 0] rfl ?_
                      refine z_ws (ws' := [oM mo 0 mw (nv : Int) mg ma mb (ns : Int) mlo mhi (nw : Int) mwe mru mrd, aL cL ma 800 (moA up)]) [1, 0] (by decide) rfl rfl ?_
                      refine z_lq (lv' := [(0, .ref mo), (3, .int (zI (i : Int))), (6, .long (zL (lb : Int))), (8, .int (zI ((0 : Nat) : Int)))]) (congrArg (fun zzz : Int => ([(0, .ref mo), (3, .int (zI (i : Int))), (6, .long (zL (lb : Int))), (8, .int (zI zzz))] : List (Nat × Value))) (show (0 : Int) = ((0 : Nat) : Int) by omega)) ?_
                      refine z_loop (I := fun (zz : Nat × Nat) => match zz with | (j, z) => (j ≤ i % 6) ∧ (z = dg 1000000 (up u) (i / 6) / 10 ^ j)) (μ := fun (zz : Nat × Nat) => match zz with | (j, z) => 6 - j) (LV := fun (zz : Nat × Nat) => match zz with | (j, z) => [(0, .ref mo), (3, .int (zI (i : Int))), (6, .long (zL (z : Int))), (8, .int (zI (j : Int)))]) (WS := fun (zz : Nat × Nat) => match zz with | (j, z) => [oM mo 0 mw (nv : Int) mg ma mb (ns : Int) mlo mhi (nw : Int) mwe mru mrd, aL cL ma 800 (moA up)]) (a := (0, lb)) ?_ ?_
                      · exact (show (0 ≤ i % 6) ∧ (lb = dg 1000000 (up u) (i / 6) / 10 ^ 0) from ⟨by omega, by rw [Nat.pow_zero, Nat.div_one]; exact hlb (by omega)⟩)
                      · intro ⟨j, z⟩ hI ih163
                        obtain ⟨hj, hz⟩ : (j ≤ i % 6) ∧ (z = dg 1000000 (up u) (i / 6) / 10 ^ j) := hI
                        show ZZ _ _ _ _ _ _ _ _ _ _ _ _ _ _ _ _ _ _ 163 [(0, .ref mo), (3, .int (zI (i : Int))), (6, .long (zL (z : Int))), (8, .int (zI (j : Int)))] [] [oM mo 0 mw (nv : Int) mg ma mb (ns : Int) mlo mhi (nw : Int) mwe mru mrd, aL cL ma 800 (moA up)]
                        have hzl : z < 1000000 := by rw [hz]; exact Nat.lt_of_le_of_lt (Nat.div_le_self _ _) (dg_lt (by decide) _ _)
                        refine z_iload S d_M_digit_163 3 rfl ?_
                        refine z_iload_n S d_M_digit_165 1 rfl ?_
                        refine z_bipush S d_M_digit_166 rfl ?_
                        refine z_irem S d_M_digit_168 (by omega) (by omega) ?_
                        refine z_icmp_ge (tgt := 186) S d_M_digit_169 (by decide) (by omega) (by omega) (fun c16 => ?_) (fun c16 => ?_)
                        · skip
                          have hje : j = i % 6 := by omega
                          have hdd6 := dec_dig6 (up u) i
                          rw [← hje, ← hz] at hdd6
                          refine z_lload S d_M_digit_186 2 rfl ?_
                          refine z_ldc2 (v := 10) (z := 10) S k_M_153 d_M_digit_188 (by decide) ?_
                          refine z_lrem S d_M_digit_191 (by omega) (by omega) ?_
                          refine z_l2i S d_M_digit_192 ?_
                          exact z_iret (w := [oM mo 0 mw (nv : Int) mg ma mb (ns : Int) mlo mhi (nw : Int) mwe mru mrd, aL cL ma 800 (moA up)]) S hr hlo hAe d_M_digit_193 [0, 1] (by decide) rfl rfl ⟨Nat.le_refl _, Nat.le_refl _⟩ (⟨congrArg Value.int (zI_c (by omega)), rfl⟩)
                        · skip
                          refine z_lload S d_M_digit_172 2 rfl ?_
                          refine z_ldc2 (v := 10) (z := 10) S k_M_153 d_M_digit_174 (by decide) ?_
                          refine z_ldiv S d_M_digit_177 (by omega) (by omega) ?_
                          refine z_topl (fun x17 ex17 => ?_)
                          refine z_lstore (lv' := [(6, .long (zL x17)), (0, .ref mo), (3, .int (zI (i : Int))), (8, .int (zI (j : Int)))]) S d_M_digit_178 (by decide) rfl ?_
                          refine z_iinc (y := ((j + 1 : Nat) : Int)) (lv' := [(8, .int (zI ((j + 1 : Nat) : Int))), (6, .long (zL x17)), (0, .ref mo), (3, .int (zI (i : Int)))]) S d_M_digit_180 3 rfl (by omega) (by decide) rfl ?_
                          refine z_goto (tgt := 163) S d_M_digit_183 (by decide) ?_
                          refine z_lv (lv' := [(0, .ref mo), (3, .int (zI (i : Int))), (6, .long (zL x17)), (8, .int (zI ((j + 1 : Nat) : Int)))]) [2, 3, 1, 0] rfl ?_
                          refine z_lq (lv' := [(0, .ref mo), (3, .int (zI (i : Int))), (6, .long (zL ((z / 10 : Nat) : Int))), (8, .int (zI ((j + 1 : Nat) : Int)))]) (congrArg (fun zzz : Int => ([(0, .ref mo), (3, .int (zI (i : Int))), (6, .long (zL zzz)), (8, .int (zI ((j + 1 : Nat) : Int)))] : List (Nat × Value))) (show (x17 : Int) = ((z / 10 : Nat) : Int) by omega)) ?_
                          exact ih163 ((j + 1), (z / 10)) (show ((j + 1) ≤ i % 6) ∧ ((z / 10) = dg 1000000 (up u) (i / 6) / 10 ^ (j + 1)) from ⟨by omega, by rw [hz, Nat.div_div_eq_div_mul, ← Nat.pow_succ]⟩) (show 6 - (j + 1) < 6 - j from by omega)
                    · skip
                      exact absurd c15 (by omega)
          · skip
            have hur := ul_le (dg 10 (up u % 1000000 ^ kk)) 108
            refine z_iload S d_M_digit_40 4 rfl ?_
            refine z_if_eq (tgt := 121) S d_M_digit_42 (by decide) (by omega) (fun c18 => ?_) (fun c18 => ?_)
            · skip
              exact absurd c18 (by omega)
            · skip
              have l1 := dg_lt (b := 1000000) (by decide) (up u) (kk)
              refine z_iload_n S d_M_digit_45 2 rfl ?_
              refine z_if_ne (tgt := 64) S d_M_digit_46 (by decide) (by omega) (fun c19 => ?_) (fun c19 => ?_)
              · skip
                exact absurd c19 (by omega)
              · skip
                refine z_aload_n S d_M_digit_49 0 rfl ?_
                refine z_get S hK la_M 0 rfl rfl 4 (by decide) k_M_17 rfl d_M_digit_50 ?_
                refine z_bipush S d_M_digit_53 rfl ?_
                refine z_iload_n S d_M_digit_55 1 rfl ?_
                refine z_imul S d_M_digit_56 ?_
                refine z_iload S d_M_digit_57 7 rfl ?_
                refine z_iadd S d_M_digit_59 ?_
                refine z_lald (x := ((dg 1000000 (up u) kk : Nat) : Int)) S hK 1 1 rfl rfl (8 * u + kk) (by omega) (by omega) (by decide) (moA_at up (by omega)) d_M_digit_60 ?_
                refine z_goto (tgt := 76) S d_M_digit_61 (by decide) ?_
                refine z_lstore (lv' := [(9, .long (zL ((dg 1000000 (up u) kk : Nat) : Int))), (0, .ref mo), (1, .int (zI (u : Int))), (2, .int (zI 0)), (3, .int (zI (i : Int))), (4, .int (zI 1)), (5, .int (zI ((ul (dg 10 (up u % 1000000 ^ kk)) 108 : Nat) : Int))), (6, .long (zL (lb : Int))), (8, .int (zI (kk : Int)))]) S d_M_digit_76 (by decide) rfl ?_
                refine z_lload S d_M_digit_78 0 rfl ?_
                refine z_lconst (z := 0) S d_M_digit_80 rfl ?_
                refine z_lcmp_le (tgt := 98) S d_M_digit_81 d_M_digit_82 (by decide) (by omega) (by omega) (fun c20 => ?_) (fun c20 => ?_)
                · skip
                  refine z_iload_n S d_M_digit_98 4 rfl ?_
                  refine z_if_lt (tgt := 115) S d_M_digit_99 (by decide) (by omega) (fun c21 => ?_) (fun c21 => ?_)
                  · skip
                    omega
                  · skip
                    refine z_iload S d_M_digit_102 8 rfl ?_
                    refine z_iload_n S d_M_digit_104 4 rfl ?_
                    refine z_bipush S d_M_digit_105 rfl ?_
                    refine z_idiv S d_M_digit_107 (by omega) (by omega) ?_
                    refine z_icmp_ne (tgt := 115) S d_M_digit_108 (by decide) (by omega) (by omega) (fun c22 => ?_) (fun c22 => ?_)
                    · skip
                      refine z_iinc (y := ((kk + 1 : Nat) : Int)) (lv' := [(8, .int (zI ((kk + 1 : Nat) : Int))), (9, .long (zL ((dg 1000000 (up u) kk : Nat) : Int))), (0, .ref mo), (1, .int (zI (u : Int))), (2, .int (zI 0)), (3, .int (zI (i : Int))), (4, .int (zI 1)), (5, .int (zI ((ul (dg 10 (up u % 1000000 ^ kk)) 108 : Nat) : Int))), (6, .long (zL (lb : Int)))]) S d_M_digit_115 8 rfl (by omega) (by decide) rfl ?_
                      have hdd : ul (dg 10 (up u % 1000000 ^ (kk + 1))) 108 = ul (dg 10 (up u % 1000000 ^ kk)) 108 := by rw [md_s, show dg 1000000 (up u) kk = 0 by omega, Nat.zero_mul, Nat.add_zero]
                      refine z_goto (tgt := 33) S d_M_digit_118 (by decide) ?_
                      refine z_lv (lv' := [(0, .ref mo), (1, .int (zI (u : Int))), (2, .int (zI 0)), (3, .int (zI (i : Int))), (4, .int (zI 1)), (5, .int (zI ((ul (dg 10 (up u % 1000000 ^ kk)) 108 : Nat) : Int))), (6, .long (zL (lb : Int))), (8, .int (zI ((kk + 1 : Nat) : Int)))]) [2, 3, 4, 5, 6, 7, 8, 0] rfl ?_
                      refine z_lq (lv' := [(0, .ref mo), (1, .int (zI (u : Int))), (2, .int (zI 0)), (3, .int (zI (i : Int))), (4, .int (zI 1)), (5, .int (zI ((ul (dg 10 (up u % 1000000 ^ (kk + 1))) 108 : Nat) : Int))), (6, .long (zL (lb : Int))), (8, .int (zI ((kk + 1 : Nat) : Int)))]) (congrArg (fun zzz : Int => ([(0, .ref mo), (1, .int (zI (u : Int))), (2, .int (zI 0)), (3, .int (zI (i : Int))), (4, .int (zI 1)), (5, .int (zI zzz)), (6, .long (zL (lb : Int))), (8, .int (zI ((kk + 1 : Nat) : Int)))] : List (Nat × Value))) (show (((ul (dg 10 (up u % 1000000 ^ kk)) 108 : Nat) : Int) : Int) = ((ul (dg 10 (up u % 1000000 ^ (kk + 1))) 108 : Nat) : Int) by omega)) ?_
                      exact ih33 ((kk + 1), lb) (show ((kk + 1) ≤ 8) ∧ (i / 6 < (kk + 1) → lb = dg 1000000 (up u) (i / 6)) from ⟨by omega, fun z => hlb (by omega)⟩) (show 8 - (kk + 1) < 8 - kk from by omega)
                    · skip
                      refine z_lload S d_M_digit_111 0 rfl ?_
                      refine z_lstore (lv' := [(6, .long (zL ((dg 1000000 (up u) kk : Nat) : Int))), (9, .long (zL ((dg 1000000 (up u) kk : Nat) : Int))), (0, .ref mo), (1, .int (zI (u : Int))), (2, .int (zI 0)), (3, .int (zI (i : Int))), (4, .int (zI 1)), (5, .int (zI ((ul (dg 10 (up u % 1000000 ^ kk)) 108 : Nat) : Int))), (8, .int (zI (kk : Int)))]) S d_M_digit_113 (by decide) rfl ?_
                      refine z_iinc (y := ((kk + 1 : Nat) : Int)) (lv' := [(8, .int (zI ((kk + 1 : Nat) : Int))), (6, .long (zL ((dg 1000000 (up u) kk : Nat) : Int))), (9, .long (zL ((dg 1000000 (up u) kk : Nat) : Int))), (0, .ref mo), (1, .int (zI (u : Int))), (2, .int (zI 0)), (3, .int (zI (i : Int))), (4, .int (zI 1)), (5, .int (zI ((ul (dg 10 (up u % 1000000 ^ kk)) 108 : Nat) : Int)))]) S d_M_digit_115 8 rfl (by omega) (by decide) rfl ?_
                      have hdd : ul (dg 10 (up u % 1000000 ^ (kk + 1))) 108 = ul (dg 10 (up u % 1000000 ^ kk)) 108 := by rw [md_s, show dg 1000000 (up u) kk = 0 by omega, Nat.zero_mul, Nat.add_zero]
                      refine z_goto (tgt := 33) S d_M_digit_118 (by decide) ?_
                      refine z_lv (lv' := [(0, .ref mo), (1, .int (zI (u : Int))), (2, .int (zI 0)), (3, .int (zI (i : Int))), (4, .int (zI 1)), (5, .int (zI ((ul (dg 10 (up u % 1000000 ^ kk)) 108 : Nat) : Int))), (6, .long (zL ((dg 1000000 (up u) kk : Nat) : Int))), (8, .int (zI ((kk + 1 : Nat) : Int)))]) [3, 4, 5, 6, 7, 8, 1, 0] rfl ?_
                      refine z_lq (lv' := [(0, .ref mo), (1, .int (zI (u : Int))), (2, .int (zI 0)), (3, .int (zI (i : Int))), (4, .int (zI 1)), (5, .int (zI ((ul (dg 10 (up u % 1000000 ^ (kk + 1))) 108 : Nat) : Int))), (6, .long (zL ((dg 1000000 (up u) kk : Nat) : Int))), (8, .int (zI ((kk + 1 : Nat) : Int)))]) (congrArg (fun zzz : Int => ([(0, .ref mo), (1, .int (zI (u : Int))), (2, .int (zI 0)), (3, .int (zI (i : Int))), (4, .int (zI 1)), (5, .int (zI zzz)), (6, .long (zL ((dg 1000000 (up u) kk : Nat) : Int))), (8, .int (zI ((kk + 1 : Nat) : Int)))] : List (Nat × Value))) (show (((ul (dg 10 (up u % 1000000 ^ kk)) 108 : Nat) : Int) : Int) = ((ul (dg 10 (up u % 1000000 ^ (kk + 1))) 108 : Nat) : Int) by omega)) ?_
                      exact ih33 ((kk + 1), (dg 1000000 (up u) kk)) (show ((kk + 1) ≤ 8) ∧ (i / 6 < (kk + 1) → (dg 1000000 (up u) kk) = dg 1000000 (up u) (i / 6)) from ⟨by omega, fun _ => by rw [show i / 6 = kk by omega]⟩) (show 8 - (kk + 1) < 8 - kk from by omega)
                · skip
                  refine z_bipush S d_M_digit_85 rfl ?_
                  refine z_iload S d_M_digit_87 8 rfl ?_
                  refine z_imul S d_M_digit_89 ?_
                  refine z_lload S d_M_digit_90 0 rfl ?_
                  refine z_callSa (As := [.long (zL ((dg 1000000 (up u) kk : Nat) : Int))]) (st := [.int (zI (6 * (kk : Int)))]) (wc := []) (wr := [oM mo th mw (nv : Int) mg ma mb (ns : Int) mlo mhi (nw : Int) mwe mru mrd, aL cL ma 800 (moA up)]) S hGok hK hg hA (s_M_many l dC dI cI cL qT (dg 1000000 (up u) kk) l1 (by omega)) (zcwS S k_M_155 mS_M_many hd_M_many rfl rfl ⟨Nat.le_of_ble_eq_true rfl, Nat.le_of_ble_eq_true rfl⟩) rfl (Nat.le_of_ble_eq_true rfl) d_M_digit_92 ⟨Nat.le_of_ble_eq_true rfl, Nat.le_of_ble_eq_true rfl⟩ rfl [] [0, 1] (by decide) rfl rfl rfl (by decide) (by decide) (fun x w hp => ?_)
                  obtain ⟨mm, f1, f2, f3, f4, rfl, rfl⟩ := hp
                  show ZZ _ _ _ _ _ _ _ _ _ _ _ _ _ _ _ _ _ _ 95 [(9, .long (zL ((dg 1000000 (up u) kk : Nat) : Int))), (0, .ref mo), (1, .int (zI (u : Int))), (2, .int (zI 0)), (3, .int (zI (i : Int))), (4, .int (zI 1)), (5, .int (zI ((ul (dg 10 (up u % 1000000 ^ kk)) 108 : Nat) : Int))), (6, .long (zL (lb : Int))), (8, .int (zI (kk : Int)))] [.int (zI (mm : Int)), .int (zI (6 * (kk : Int)))] [oM mo th mw (nv : Int) mg ma mb (ns : Int) mlo mhi (nw : Int) mwe mru mrd, aL cL ma 800 (moA up)]
                  refine z_iadd S d_M_digit_95 ?_
                  refine z_topi (fun x23 ex23 => ?_)
                  refine z_istore (lv' := [(5, .int (zI x23)), (9, .long (zL ((dg 1000000 (up u) kk : Nat) : Int))), (0, .ref mo), (1, .int (zI (u : Int))), (2, .int (zI 0)), (3, .int (zI (i : Int))), (4, .int (zI 1)), (6, .long (zL (lb : Int))), (8, .int (zI (kk : Int)))]) S d_M_digit_96 (by decide) rfl ?_
                  refine z_iload_n S d_M_digit_98 5 rfl ?_
                  refine z_if_lt (tgt := 115) S d_M_digit_99 (by decide) (by omega) (fun c24 => ?_) (fun c24 => ?_)
                  · skip
                    omega
                  · skip
                    refine z_iload S d_M_digit_102 8 rfl ?_
                    refine z_iload_n S d_M_digit_104 5 rfl ?_
                    refine z_bipush S d_M_digit_105 rfl ?_
                    refine z_idiv S d_M_digit_107 (by omega) (by omega) ?_
                    refine z_icmp_ne (tgt := 115) S d_M_digit_108 (by decide) (by omega) (by omega) (fun c25 => ?_) (fun c25 => ?_)
                    · skip
                      refine z_iinc (y := ((kk + 1 : Nat) : Int)) (lv' := [(8, .int (zI ((kk + 1 : Nat) : Int))), (5, .int (zI x23)), (9, .long (zL ((dg 1000000 (up u) kk : Nat) : Int))), (0, .ref mo), (1, .int (zI (u : Int))), (2, .int (zI 0)), (3, .int (zI (i : Int))), (4, .int (zI 1)), (6, .long (zL (lb : Int)))]) S d_M_digit_115 8 rfl (by omega) (by decide) rfl ?_
                      have hdd : ul (dg 10 (up u % 1000000 ^ (kk + 1))) 108 = 6 * kk + mm := nd_step f1 f2 f3 (by omega)
                      refine z_goto (tgt := 33) S d_M_digit_118 (by decide) ?_
                      refine z_lv (lv' := [(0, .ref mo), (1, .int (zI (u : Int))), (2, .int (zI 0)), (3, .int (zI (i : Int))), (4, .int (zI 1)), (5, .int (zI x23)), (6, .long (zL (lb : Int))), (8, .int (zI ((kk + 1 : Nat) : Int)))]) [3, 4, 5, 6, 7, 1, 8, 0] rfl ?_
                      refine z_lq (lv' := [(0, .ref mo), (1, .int (zI (u : Int))), (2, .int (zI 0)), (3, .int (zI (i : Int))), (4, .int (zI 1)), (5, .int (zI ((ul (dg 10 (up u % 1000000 ^ (kk + 1))) 108 : Nat) : Int))), (6, .long (zL (lb : Int))), (8, .int (zI ((kk + 1 : Nat) : Int)))]) (congrArg (fun zzz : Int => ([(0, .ref mo), (1, .int (zI (u : Int))), (2, .int (zI 0)), (3, .int (zI (i : Int))), (4, .int (zI 1)), (5, .int (zI zzz)), (6, .long (zL (lb : Int))), (8, .int (zI ((kk + 1 : Nat) : Int)))] : List (Nat × Value))) (show (x23 : Int) = ((ul (dg 10 (up u % 1000000 ^ (kk + 1))) 108 : Nat) : Int) by omega)) ?_
                      exact ih33 ((kk + 1), lb) (show ((kk + 1) ≤ 8) ∧ (i / 6 < (kk + 1) → lb = dg 1000000 (up u) (i / 6)) from ⟨by omega, fun z => hlb (by omega)⟩) (show 8 - (kk + 1) < 8 - kk from by omega)
                    · skip
                      refine z_lload S d_M_digit_111 1 rfl ?_
                      refine z_lstore (lv' := [(6, .long (zL ((dg 1000000 (up u) kk : Nat) : Int))), (5, .int (zI x23)), (9, .long (zL ((dg 1000000 (up u) kk : Nat) : Int))), (0, .ref mo), (1, .int (zI (u : Int))), (2, .int (zI 0)), (3, .int (zI (i : Int))), (4, .int (zI 1)), (8, .int (zI (kk : Int)))]) S d_M_digit_113 (by decide) rfl ?_
                      refine z_iinc (y := ((kk + 1 : Nat) : Int)) (lv' := [(8, .int (zI ((kk + 1 : Nat) : Int))), (6, .long (zL ((dg 1000000 (up u) kk : Nat) : Int))), (5, .int (zI x23)), (9, .long (zL ((dg 1000000 (up u) kk : Nat) : Int))), (0, .ref mo), (1, .int (zI (u : Int))), (2, .int (zI 0)), (3, .int (zI (i : Int))), (4, .int (zI 1))]) S d_M_digit_115 8 rfl (by omega) (by decide) rfl ?_
                      have hdd : ul (dg 10 (up u % 1000000 ^ (kk + 1))) 108 = 6 * kk + mm := nd_step f1 f2 f3 (by omega)
                      refine z_goto (tgt := 33) S d_M_digit_118 (by decide) ?_
                      refine z_lv (lv' := [(0, .ref mo), (1, .int (zI (u : Int))), (2, .int (zI 0)), (3, .int (zI (i : Int))), (4, .int (zI 1)), (5, .int (zI x23)), (6, .long (zL ((dg 1000000 (up u) kk : Nat) : Int))), (8, .int (zI ((kk + 1 : Nat) : Int)))]) [4, 5, 6, 7, 8, 2, 1, 0] rfl ?_
                      refine z_lq (lv' := [(0, .ref mo), (1, .int (zI (u : Int))), (2, .int (zI 0)), (3, .int (zI (i : Int))), (4, .int (zI 1)), (5, .int (zI ((ul (dg 10 (up u % 1000000 ^ (kk + 1))) 108 : Nat) : Int))), (6, .long (zL ((dg 1000000 (up u) kk : Nat) : Int))), (8, .int (zI ((kk + 1 : Nat) : Int)))]) (congrArg (fun zzz : Int => ([(0, .ref mo), (1, .int (zI (u : Int))), (2, .int (zI 0)), (3, .int (zI (i : Int))), (4, .int (zI 1)), (5, .int (zI zzz)), (6, .long (zL ((dg 1000000 (up u) kk : Nat) : Int))), (8, .int (zI ((kk + 1 : Nat) : Int)))] : List (Nat × Value))) (show (x23 : Int) = ((ul (dg 10 (up u % 1000000 ^ (kk + 1))) 108 : Nat) : Int) by omega)) ?_
                      exact ih33 ((kk + 1), (dg 1000000 (up u) kk)) (show ((kk + 1) ≤ 8) ∧ (i / 6 < (kk + 1) → (dg 1000000 (up u) kk) = dg 1000000 (up u) (i / 6)) from ⟨by omega, fun _ => by rw [show i / 6 = kk by omega]⟩) (show 8 - (kk + 1) < 8 - kk from by omega)
set_option maxHeartbeats 4000000 in
set_option maxRecDepth 100000 in
theorem f1b_M_digit0 (l : Launch) (dC : Nat → ClassId) (dI : Nat → Nat → Nat) (cI cL : ClassId) (qT : Nat) (mo : Nat) (mw : Nat) (nv : Nat) (ma : Nat) (mb : Nat) (ns : Nat) (mlo : Nat) (mhi : Nat) (nw : Nat) (mwe : Nat) (mru : Nat) (mrd : Nat) (th : Int) (mg : Nat) (up : Nat → Nat) (u : Nat) (i : Int) (hnv : nv ≤ 100) (hu : u < nv) (hb : up u < 10 ^ 48) (hir : -2147483648 ≤ i ∧ i < 2147483648) (hi : ¬ (0 ≤ i ∧ i < ((nd (up u) : Nat) : Int))) : Ct l y_M_digit (Cond.code y_M_digit c_M_digit 11 (some .int) :: zB) { frames := 1, cells := 0, slots := 0, locals := 24 } (dC, dI) zcl [(cI, .int), (cL, .long)] (zG cI cL qT) [.ref mo, .int (zI (u : Int)), .int (zI 0), .int (zI i)] [oM mo th mw (nv : Int) mg ma mb (ns : Int) mlo mhi (nw : Int) mwe mru mrd, aL cL ma 800 (moA up)] (fun rv wv => rv = .int (zI 0) ∧ wv = [oM mo 1 mw (nv : Int) mg ma mb (ns : Int) mlo mhi (nw : Int) mwe mru mrd, aL cL ma 800 (moA up)]) 0 0 := by
  refine Cm.ofZ (cc := c_M_digit) (maxL := 11) (ret := (some .int)) (by decide) rfl (Nat.le_of_ble_eq_true rfl) rfl ?_
  intro p e s m below meth c A S hr hlo hnm hK hg hA hAe
  have hGok := zG_ok cI cL qT
  show ZZ _ _ _ _ _ _ _ _ _ _ _ _ _ _ _ _ _ _ 0 [(0, .ref mo), (1, .int (zI (u : Int))), (2, .int (zI 0)), (3, .int (zI i))] [] [oM mo th mw (nv : Int) mg ma mb (ns : Int) mlo mhi (nw : Int) mwe mru mrd, aL cL ma 800 (moA up)]
  have hn48 := nd_48' hb
  have hz00 : ul (dg 10 (up u % 1000000 ^ 0)) 108 = 0 := by rw [Nat.pow_zero, Nat.mod_one]; decide
  refine z_aload_n S d_M_digit_0 0 rfl ?_
  refine z_iload_n S d_M_digit_1 1 rfl ?_
  refine z_callVa (As := [.int (zI (u : Int))]) (st := []) (wc := [oM mo th mw (nv : Int) mg ma mb (ns : Int) mlo mhi (nw : Int) mwe mru mrd]) (wr := [aL cL ma 800 (moA up)]) S hGok hK hg hA (s_M_isValue l dC dI cI cL qT mo mw nv ma mb ns mlo mhi nw mwe mru mrd th mg (u : Int) (by omega) (by omega)) (zcwV S (List.mem_cons_of_mem _ k_M_125) mV_M_isValue k_M_125 hd_M_isValue rfl rfl ⟨Nat.le_of_ble_eq_true rfl, Nat.le_of_ble_eq_true rfl⟩) rfl (Nat.le_of_ble_eq_true rfl) d_M_digit_2 ⟨Nat.le_of_ble_eq_true rfl, Nat.le_of_ble_eq_true rfl⟩ rfl [0] [1] 0 rfl rfl rfl (by decide) rfl rfl rfl (by decide) (by decide) (fun x w hp => ?_)
  obtain ⟨rfl, rfl⟩ := hp
  show ZZ _ _ _ _ _ _ _ _ _ _ _ _ _ _ _ _ _ _ 5 [(0, .ref mo), (1, .int (zI (u : Int))), (2, .int (zI 0)), (3, .int (zI i))] [.int (zI (b2 (0 ≤ (u : Int) ∧ (u : Int) < (nv : Int))))] [aL cL ma 800 (moA up), oM mo th mw (nv : Int) mg ma mb (ns : Int) mlo mhi (nw : Int) mwe mru mrd]
  refine z_toi (a := 1) (zI_c (b2_t ⟨by omega, by omega⟩)) ?_
  refine z_if_eq (tgt := 21) S d_M_digit_5 (by decide) (by omega) (fun c1 => ?_) (fun c1 => ?_)
  · skip
    exact absurd c1 (by omega)
  · skip
    refine z_iload_n S d_M_digit_8 2 rfl ?_
    refine z_if_lt (tgt := 21) S d_M_digit_9 (by decide) (by omega) (fun c2 => ?_) (fun c2 => ?_)
    · skip
      exact absurd c2 (by omega)
    · skip
      refine z_iload_n S d_M_digit_12 2 rfl ?_
      refine z_iconst S d_M_digit_13 ?_
      refine z_icmp_gt (tgt := 21) S d_M_digit_14 (by decide) (by omega) (by omega) (fun c3 => ?_) (fun c3 => ?_)
      · skip
        exact absurd c3 (by omega)
      · skip
        refine z_iconst S d_M_digit_17 ?_
        refine z_goto (tgt := 22) S d_M_digit_18 (by decide) ?_
        refine z_istore (lv' := [(4, .int (zI 1)), (0, .ref mo), (1, .int (zI (u : Int))), (2, .int (zI 0)), (3, .int (zI i))]) S d_M_digit_22 (by decide) rfl ?_
        refine z_iconst S d_M_digit_24 ?_
        refine z_istore (lv' := [(5, .int (zI 0)), (4, .int (zI 1)), (0, .ref mo), (1, .int (zI (u : Int))), (2, .int (zI 0)), (3, .int (zI i))]) S d_M_digit_25 (by decide) rfl ?_
        refine z_lconst (z := 0) S d_M_digit_27 rfl ?_
        refine z_lstore (lv' := [(6, .long (zL 0)), (5, .int (zI 0)), (4, .int (zI 1)), (0, .ref mo), (1, .int (zI (u : Int))), (2, .int (zI 0)), (3, .int (zI i))]) S d_M_digit_28 (by decide) rfl ?_
        refine z_iconst S d_M_digit_30 ?_
        refine z_istore (lv' := [(8, .int (zI 0)), (6, .long (zL 0)), (5, .int (zI 0)), (4, .int (zI 1)), (0, .ref mo), (1, .int (zI (u : Int))), (2, .int (zI 0)), (3, .int (zI i))]) S d_M_digit_31 (by decide) rfl ?_
        refine z_lv (lv' := [(0, .ref mo), (1, .int (zI (u : Int))), (2, .int (zI 0)), (3, .int (zI i)), (4, .int (zI 1)), (5, .int (zI 0)), (6, .long (zL 0)), (8, .int (zI 0))]) [4, 5, 6, 7, 3, 2, 1, 0] rfl ?_
        refine z_ws (ws' := [oM mo th mw (nv : Int) mg ma mb (ns : Int) mlo mhi (nw : Int) mwe mru mrd, aL cL ma 800 (moA up)]) [1, 0] (by decide) rfl rfl ?_
        refine z_lq (lv' := [(0, .ref mo), (1, .int (zI (u : Int))), (2, .int (zI 0)), (3, .int (zI i)), (4, .int (zI 1)), (5, .int (zI ((ul (dg 10 (up u % 1000000 ^ 0)) 108 : Nat) : Int))), (6, .long (zL ((0 : Nat) : Int))), (8, .int (zI ((0 : Nat) : Int)))]) (Eq.trans (Eq.trans ((congrArg (fun zzz : Int => ([(0, .ref mo), (1, .int (zI (u : Int))), (2, .int (zI 0)), (3, .int (zI i)), (4, .int (zI 1)), (5, .int (zI zzz)), (6, .long (zL 0)), (8, .int (zI 0))] : List (Nat × Value))) (show (0 : Int) = ((ul (dg 10 (up u % 1000000 ^ 0)) 108 : Nat) : Int) by omega))) (congrArg (fun zzz : Int => ([(0, .ref mo), (1, .int (zI (u : Int))), (2, .int (zI 0)), (3, .int (zI i)), (4, .int (zI 1)), (5, .int (zI ((ul (dg 10 (up u % 1000000 ^ 0)) 108 : Nat) : Int))), (6, .long (zL zzz)), (8, .int (zI 0))] : List (Nat × Value))) (show (0 : Int) = ((0 : Nat) : Int) by omega))) (congrArg (fun zzz : Int => ([(0, .ref mo), (1, .int (zI (u : Int))), (2, .int (zI 0)), (3, .int (zI i)), (4, .int (zI 1)), (5, .int (zI ((ul (dg 10 (up u % 1000000 ^ 0)) 108 : Nat) : Int))), (6, .long (zL ((0 : Nat) : Int))), (8, .int (zI zzz))] : List (Nat × Value))) (show (0 : Int) = ((0 : Nat) : Int) by omega))) ?_
        refine z_loop (I := fun (zz : Nat × Nat) => match zz with | (kk, lb) => (kk ≤ 8)) (μ := fun (zz : Nat × Nat) => match zz with | (kk, lb) => 8 - kk) (LV := fun (zz : Nat × Nat) => match zz with | (kk, lb) => [(0, .ref mo), (1, .int (zI (u : Int))), (2, .int (zI 0)), (3, .int (zI i)), (4, .int (zI 1)), (5, .int (zI ((ul (dg 10 (up u % 1000000 ^ kk)) 108 : Nat) : Int))), (6, .long (zL (lb : Int))), (8, .int (zI (kk : Int)))]) (WS := fun (zz : Nat × Nat) => match zz with | (kk, lb) => [oM mo th mw (nv : Int) mg ma mb (ns : Int) mlo mhi (nw : Int) mwe mru mrd, aL cL ma 800 (moA up)]) (a := (0, 0)) ?_ ?_
        · exact (show (0 ≤ 8) from by omega)
        · intro ⟨kk, lb⟩ hI ih33
          have hkk : kk ≤ 8 := hI
          show ZZ _ _ _ _ _ _ _ _ _ _ _ _ _ _ _ _ _ _ 33 [(0, .ref mo), (1, .int (zI (u : Int))), (2, .int (zI 0)), (3, .int (zI i)), (4, .int (zI 1)), (5, .int (zI ((ul (dg 10 (up u % 1000000 ^ kk)) 108 : Nat) : Int))), (6, .long (zL (lb : Int))), (8, .int (zI (kk : Int)))] [] [oM mo th mw (nv : Int) mg ma mb (ns : Int) mlo mhi (nw : Int) mwe mru mrd, aL cL ma 800 (moA up)]
          refine z_iload S d_M_digit_33 7 rfl ?_
          refine z_bipush S d_M_digit_35 rfl ?_
          refine z_icmp_ge (tgt := 121) S d_M_digit_37 (by decide) (by omega) (by omega) (fun c4 => ?_) (fun c4 => ?_)
          · skip
            have hur := ul_le (dg 10 (up u % 1000000 ^ kk)) 108
            refine z_iload S d_M_digit_121 5 rfl ?_
            refine z_if_ne (tgt := 129) S d_M_digit_123 (by decide) (by omega) (fun c5 => ?_) (fun c5 => ?_)
            · skip
              have hk8 : kk = 8 := by omega
              have hm8 : up u % 1000000 ^ kk = up u := by rw [hk8]; exact Nat.mod_eq_of_lt (by rw [← e48]; exact hb)
              have hu0 := ul_0 (b := 10) (v := up u) (n := 108) (by decide) (Nat.lt_of_lt_of_le hb (by decide))
              have hndr := nd_48' hb
              have hc := c5
              rw [hm8] at hc
              have hnd : nd (up u) = ul (dg 10 (up u % 1000000 ^ kk)) 108 := by rw [hm8]; unfold nd; rw [if_neg (by omega)]
              refine z_lq (lv' := [(0, .ref mo), (1, .int (zI (u : Int))), (2, .int (zI 0)), (3, .int (zI i)), (4, .int (zI 1)), (5, .int (zI ((nd (up u) : Nat) : Int))), (6, .long (zL (lb : Int))), (8, .int (zI (kk : Int)))]) (by rw [hnd]) ?_
              refine z_aload_n S d_M_digit_129 0 rfl ?_
              refine z_iload S d_M_digit_130 4 rfl ?_
              refine z_if_eq (tgt := 149) S d_M_digit_132 (by decide) (by omega) (fun c6 => ?_) (fun c6 => ?_)
              · skip
                exact absurd c6 (by omega)
              · skip
                refine z_iload_n S d_M_digit_135 3 rfl ?_
                refine z_if_lt (tgt := 149) S d_M_digit_136 (by decide) (by omega) (fun c7 => ?_) (fun c7 => ?_)
                · skip
                  refine z_iconst S d_M_digit_149 ?_
                  refine z_iconst S d_M_digit_150 ?_
                  refine z_iconst S d_M_digit_151 ?_
                  refine z_callVa (As := [.int (zI 0), .int (zI 1), .int (zI 1)]) (st := []) (wc := [oM mo th mw (nv : Int) mg ma mb (ns : Int) mlo mhi (nw : Int) mwe mru mrd]) (wr := [aL cL ma 800 (moA up)]) S hGok hK hg hA (s_M_goes l dC dI cI cL qT mo mw nv ma mb ns mlo mhi nw mwe mru mrd th mg 0 1 1 (by omega) (by omega) (by omega)) (zcwV S (List.mem_cons_of_mem _ k_M_118) mV_M_goes k_M_118 hd_M_goes rfl rfl ⟨Nat.le_of_ble_eq_true rfl, Nat.le_of_ble_eq_true rfl⟩) rfl (Nat.le_of_ble_eq_true rfl) d_M_digit_152 ⟨Nat.le_of_ble_eq_true rfl, Nat.le_of_ble_eq_true rfl⟩ rfl [0] [1] 0 rfl rfl rfl (by decide) rfl rfl rfl (by decide) (by decide) (fun x w hp => ?_)
                  obtain ⟨rfl, rfl⟩ := hp
                  show ZZ _ _ _ _ _ _ _ _ _ _ _ _ _ _ _ _ _ _ 155 [(0, .ref mo), (1, .int (zI (u : Int))), (2, .int (zI 0)), (3, .int (zI i)), (4, .int (zI 1)), (5, .int (zI ((nd (up u) : Nat) : Int))), (6, .long (zL (lb : Int))), (8, .int (zI (kk : Int)))] [.int (zI (b2 (gth 0 1 1 = 0)))] [aL cL ma 800 (moA up), oM mo (gth 0 1 1) mw (nv : Int) mg ma mb (ns : Int) mlo mhi (nw : Int) mwe mru mrd]
                  refine z_toi (a := 0) rfl ?_
                  refine z_wq (ws' := [aL cL ma 800 (moA up), oM mo 1 mw (nv : Int) mg ma mb (ns : Int) mlo mhi (nw : Int) mwe mru mrd]) rfl ?_
                  refine z_if_ne (tgt := 160) S d_M_digit_155 (by decide) (by omega) (fun c8 => ?_) (fun c8 => ?_)
                  · skip
                    exact absurd c8 (by omega)
                  · skip
                    refine z_iconst S d_M_digit_158 ?_
                    exact z_iret (w := [oM mo 1 mw (nv : Int) mg ma mb (ns : Int) mlo mhi (nw : Int) mwe mru mrd, aL cL ma 800 (moA up)]) S hr hlo hAe d_M_digit_159 [1, 0] (by decide) rfl rfl ⟨Nat.le_refl _, Nat.le_refl _⟩ (⟨rfl, rfl⟩)
                · skip
                  refine z_iload_n S d_M_digit_139 3 rfl ?_
                  refine z_iload S d_M_digit_140 5 rfl ?_
                  refine z_icmp_ge (tgt := 149) S d_M_digit_142 (by decide) (by omega) (by omega) (fun c9 => ?_) (fun c9 => ?_)
                  · skip
                    refine z_iconst S d_M_digit_149 ?_
                    refine z_iconst S d_M_digit_150 ?_
                    refine z_iconst S d_M_digit_151 ?_
                    refine z_callVa (As := [.int (zI 0), .int (zI 1), .int (zI 1)]) (st := []) (wc := [oM mo th mw (nv : Int) mg ma mb (ns : Int) mlo mhi (nw : Int) mwe mru mrd]) (wr := [aL cL ma 800 (moA up)]) S hGok hK hg hA (s_M_goes l dC dI cI cL qT mo mw nv ma mb ns mlo mhi nw mwe mru mrd th mg 0 1 1 (by omega) (by omega) (by omega)) (zcwV S (List.mem_cons_of_mem _ k_M_118) mV_M_goes k_M_118 hd_M_goes rfl rfl ⟨Nat.le_of_ble_eq_true rfl, Nat.le_of_ble_eq_true rfl⟩) rfl (Nat.le_of_ble_eq_true rfl) d_M_digit_152 ⟨Nat.le_of_ble_eq_true rfl, Nat.le_of_ble_eq_true rfl⟩ rfl [0] [1] 0 rfl rfl rfl (by decide) rfl rfl rfl (by decide) (by decide) (fun x w hp => ?_)
                    obtain ⟨rfl, rfl⟩ := hp
                    show ZZ _ _ _ _ _ _ _ _ _ _ _ _ _ _ _ _ _ _ 155 [(0, .ref mo), (1, .int (zI (u : Int))), (2, .int (zI 0)), (3, .int (zI i)), (4, .int (zI 1)), (5, .int (zI ((nd (up u) : Nat) : Int))), (6, .long (zL (lb : Int))), (8, .int (zI (kk : Int)))] [.int (zI (b2 (gth 0 1 1 = 0)))] [aL cL ma 800 (moA up), oM mo (gth 0 1 1) mw (nv : Int) mg ma mb (ns : Int) mlo mhi (nw : Int) mwe mru mrd]
                    refine z_toi (a := 0) rfl ?_
                    refine z_wq (ws' := [aL cL ma 800 (moA up), oM mo 1 mw (nv : Int) mg ma mb (ns : Int) mlo mhi (nw : Int) mwe mru mrd]) rfl ?_
                    refine z_if_ne (tgt := 160) S d_M_digit_155 (by decide) (by omega) (fun c10 => ?_) (fun c10 => ?_)
                    · skip
                      exact absurd c10 (by omega)
                    · skip
                      refine z_iconst S d_M_digit_158 ?_
                      exact z_iret (w := [oM mo 1 mw (nv : Int) mg ma mb (ns : Int) mlo mhi (nw : Int) mwe mru mrd, aL cL ma 800 (moA up)]) S hr hlo hAe d_M_digit_159 [1, 0] (by decide) rfl rfl ⟨Nat.le_refl _, Nat.le_refl _⟩ (⟨rfl, rfl⟩)
                  · skip
                    omega
            · skip
              refine z_iconst S d_M_digit_126 ?_
              refine z_istore (lv' := [(5, .int (zI 1)), (0, .ref mo), (1, .int (zI (u : Int))), (2, .int (zI 0)), (3, .int (zI i)), (4, .int (zI 1)), (6, .long (zL (lb : Int))), (8, .int (zI (kk : Int)))]) S d_M_digit_127 (by decide) rfl ?_
              have hk8 : kk = 8 := by omega
              have hm8 : up u % 1000000 ^ kk = up u := by rw [hk8]; exact Nat.mod_eq_of_lt (by rw [← e48]; exact hb)
              have hu0 := ul_0 (b := 10) (v := up u) (n := 108) (by decide) (Nat.lt_of_lt_of_le hb (by decide))
              have hndr := nd_48' hb
              have hc := c5
              rw [hm8] at hc
              have hnd : nd (up u) = 1 := by unfold nd; rw [if_pos (by omega)]
              refine z_lq (lv' := [(5, .int (zI ((nd (up u) : Nat) : Int))), (0, .ref mo), (1, .int (zI (u : Int))), (2, .int (zI 0)), (3, .int (zI i)), (4, .int (zI 1)), (6, .long (zL (lb : Int))), (8, .int (zI (kk : Int)))]) (by rw [hnd]; rfl) ?_
              refine z_aload_n S d_M_digit_129 1 rfl ?_
              refine z_iload S d_M_digit_130 5 rfl ?_
              refine z_if_eq (tgt := 149) S d_M_digit_132 (by decide) (by omega) (fun c11 => ?_) (fun c11 => ?_)
              · skip
                exact absurd c11 (by omega)
              · skip
                refine z_iload_n S d_M_digit_135 4 rfl ?_
                refine z_if_lt (tgt := 149) S d_M_digit_136 (by decide) (by omega) (fun c12 => ?_) (fun c12 => ?_)
                · skip
                  refine z_iconst S d_M_digit_149 ?_
                  refine z_iconst S d_M_digit_150 ?_
                  refine z_iconst S d_M_digit_151 ?_
                  refine z_callVa (As := [.int (zI 0), .int (zI 1), .int (zI 1)]) (st := []) (wc := [oM mo th mw (nv : Int) mg ma mb (ns : Int) mlo mhi (nw : Int) mwe mru mrd]) (wr := [aL cL ma 800 (moA up)]) S hGok hK hg hA (s_M_goes l dC dI cI cL qT mo mw nv ma mb ns mlo mhi nw mwe mru mrd th mg 0 1 1 (by omega) (by omega) (by omega)) (zcwV S (List.mem_cons_of_mem _ k_M_118) mV_M_goes k_M_118 hd_M_goes rfl rfl ⟨Nat.le_of_ble_eq_true rfl, Nat.le_of_ble_eq_true rfl⟩) rfl (Nat.le_of_ble_eq_true rfl) d_M_digit_152 ⟨Nat.le_of_ble_eq_true rfl, Nat.le_of_ble_eq_true rfl⟩ rfl [0] [1] 0 rfl rfl rfl (by decide) rfl rfl rfl (by decide) (by decide) (fun x w hp => ?_)
                  obtain ⟨rfl, rfl⟩ := hp
                  show ZZ _ _ _ _ _ _ _ _ _ _ _ _ _ _ _ _ _ _ 155 [(5, .int (zI ((nd (up u) : Nat) : Int))), (0, .ref mo), (1, .int (zI (u : Int))), (2, .int (zI 0)), (3, .int (zI i)), (4, .int (zI 1)), (6, .long (zL (lb : Int))), (8, .int (zI (kk : Int)))] [.int (zI (b2 (gth 0 1 1 = 0)))] [aL cL ma 800 (moA up), oM mo (gth 0 1 1) mw (nv : Int) mg ma mb (ns : Int) mlo mhi (nw : Int) mwe mru mrd]
                  refine z_toi (a := 0) rfl ?_
                  refine z_wq (ws' := [aL cL ma 800 (moA up), oM mo 1 mw (nv : Int) mg ma mb (ns : Int) mlo mhi (nw : Int) mwe mru mrd]) rfl ?_
                  refine z_if_ne (tgt := 160) S d_M_digit_155 (by decide) (by omega) (fun c13 => ?_) (fun c13 => ?_)
                  · skip
                    exact absurd c13 (by omega)
                  · skip
                    refine z_iconst S d_M_digit_158 ?_
                    exact z_iret (w := [oM mo 1 mw (nv : Int) mg ma mb (ns : Int) mlo mhi (nw : Int) mwe mru mrd, aL cL ma 800 (moA up)]) S hr hlo hAe d_M_digit_159 [1, 0] (by decide) rfl rfl ⟨Nat.le_refl _, Nat.le_refl _⟩ (⟨rfl, rfl⟩)
                · skip
                  refine z_iload_n S d_M_digit_139 4 rfl ?_
                  refine z_iload S d_M_digit_140 0 rfl ?_
                  refine z_icmp_ge (tgt := 149) S d_M_digit_142 (by decide) (by omega) (by omega) (fun c14 => ?_) (fun c14 => ?_)
                  · skip
                    refine z_iconst S d_M_digit_149 ?_
                    refine z_iconst S d_M_digit_150 ?_
                    refine z_iconst S d_M_digit_151 ?_
                    refine z_callVa (As := [.int (zI 0), .int (zI 1), .int (zI 1)]) (st := []) (wc := [oM mo th mw (nv : Int) mg ma mb (ns : Int) mlo mhi (nw : Int) mwe mru mrd]) (wr := [aL cL ma 800 (moA up)]) S hGok hK hg hA (s_M_goes l dC dI cI cL qT mo mw nv ma mb ns mlo mhi nw mwe mru mrd th mg 0 1 1 (by omega) (by omega) (by omega)) (zcwV S (List.mem_cons_of_mem _ k_M_118) mV_M_goes k_M_118 hd_M_goes rfl rfl ⟨Nat.le_of_ble_eq_true rfl, Nat.le_of_ble_eq_true rfl⟩) rfl (Nat.le_of_ble_eq_true rfl) d_M_digit_152 ⟨Nat.le_of_ble_eq_true rfl, Nat.le_of_ble_eq_true rfl⟩ rfl [0] [1] 0 rfl rfl rfl (by decide) rfl rfl rfl (by decide) (by decide) (fun x w hp => ?_)
                    obtain ⟨rfl, rfl⟩ := hp
                    show ZZ _ _ _ _ _ _ _ _ _ _ _ _ _ _ _ _ _ _ 155 [(5, .int (zI ((nd (up u) : Nat) : Int))), (0, .ref mo), (1, .int (zI (u : Int))), (2, .int (zI 0)), (3, .int (zI i)), (4, .int (zI 1)), (6, .long (zL (lb : Int))), (8, .int (zI (kk : Int)))] [.int (zI (b2 (gth 0 1 1 = 0)))] [aL cL ma 800 (moA up), oM mo (gth 0 1 1) mw (nv : Int) mg ma mb (ns : Int) mlo mhi (nw : Int) mwe mru mrd]
                    refine z_toi (a := 0) rfl ?_
                    refine z_wq (ws' := [aL cL ma 800 (moA up), oM mo 1 mw (nv : Int) mg ma mb (ns : Int) mlo mhi (nw : Int) mwe mru mrd]) rfl ?_
                    refine z_if_ne (tgt := 160) S d_M_digit_155 (by decide) (by omega) (fun c15 => ?_) (fun c15 => ?_)
                    · skip
                      exact absurd c15 (by omega)
                    · skip
                      refine z_iconst S d_M_digit_158 ?_
                      exact z_iret (w := [oM mo 1 mw (nv : Int) mg ma mb (ns : Int) mlo mhi (nw : Int) mwe mru mrd, aL cL ma 800 (moA up)]) S hr hlo hAe d_M_digit_159 [1, 0] (by decide) rfl rfl ⟨Nat.le_refl _, Nat.le_refl _⟩ (⟨rfl, rfl⟩)
                  · skip
                    omega
          · skip
            have hur := ul_le (dg 10 (up u % 1000000 ^ kk)) 108
            refine z_iload S d_M_digit_40 4 rfl ?_
            refine z_if_eq (tgt := 121) S d_M_digit_42 (by decide) (by omega) (fun c16 => ?_) (fun c16 => ?_)
            · skip
              exact absurd c16 (by omega)
            · skip
              have l1 := dg_lt (b := 1000000) (by decide) (up u) (kk)
              refine z_iload_n S d_M_digit_45 2 rfl ?_
              refine z_if_ne (tgt := 64) S d_M_digit_46 (by decide) (by omega) (fun c17 => ?_) (fun c17 => ?_)
              · skip
                exact absurd c17 (by omega)
              · skip
                refine z_aload_n S d_M_digit_49 0 rfl ?_
                refine z_get S hK la_M 0 rfl rfl 4 (by decide) k_M_17 rfl d_M_digit_50 ?_
                refine z_bipush S d_M_digit_53 rfl ?_
                refine z_iload_n S d_M_digit_55 1 rfl ?_
                refine z_imul S d_M_digit_56 ?_
                refine z_iload S d_M_digit_57 7 rfl ?_
                refine z_iadd S d_M_digit_59 ?_
                refine z_lald (x := ((dg 1000000 (up u) kk : Nat) : Int)) S hK 1 1 rfl rfl (8 * u + kk) (by omega) (by omega) (by decide) (moA_at up (by omega)) d_M_digit_60 ?_
                refine z_goto (tgt := 76) S d_M_digit_61 (by decide) ?_
                refine z_lstore (lv' := [(9, .long (zL ((dg 1000000 (up u) kk : Nat) : Int))), (0, .ref mo), (1, .int (zI (u : Int))), (2, .int (zI 0)), (3, .int (zI i)), (4, .int (zI 1)), (5, .int (zI ((ul (dg 10 (up u % 1000000 ^ kk)) 108 : Nat) : Int))), (6, .long (zL (lb : Int))), (8, .int (zI (kk : Int)))]) S d_M_digit_76 (by decide) rfl ?_
                refine z_lload S d_M_digit_78 0 rfl ?_
                refine z_lconst (z := 0) S d_M_digit_80 rfl ?_
                refine z_lcmp_le (tgt := 98) S d_M_digit_81 d_M_digit_82 (by decide) (by omega) (by omega) (fun c18 => ?_) (fun c18 => ?_)
                · skip
                  refine z_iload_n S d_M_digit_98 4 rfl ?_
                  refine z_if_lt (tgt := 115) S d_M_digit_99 (by decide) (by omega) (fun c19 => ?_) (fun c19 => ?_)
                  · skip
                    refine z_iinc (y := ((kk + 1 : Nat) : Int)) (lv' := [(8, .int (zI ((kk + 1 : Nat) : Int))), (9, .long (zL ((dg 1000000 (up u) kk : Nat) : Int))), (0, .ref mo), (1, .int (zI (u : Int))), (2, .int (zI 0)), (3, .int (zI i)), (4, .int (zI 1)), (5, .int (zI ((ul (dg 10 (up u % 1000000 ^ kk)) 108 : Nat) : Int))), (6, .long (zL (lb : Int)))]) S d_M_digit_115 8 rfl (by omega) (by decide) rfl ?_
                    have hdd : ul (dg 10 (up u % 1000000 ^ (kk + 1))) 108 = ul (dg 10 (up u % 1000000 ^ kk)) 108 := by rw [md_s, show dg 1000000 (up u) kk = 0 by omega, Nat.zero_mul, Nat.add_zero]
                    refine z_goto (tgt := 33) S d_M_digit_118 (by decide) ?_
                    refine z_lv (lv' := [(0, .ref mo), (1, .int (zI (u : Int))), (2, .int (zI 0)), (3, .int (zI i)), (4, .int (zI 1)), (5, .int (zI ((ul (dg 10 (up u % 1000000 ^ kk)) 108 : Nat) : Int))), (6, .long (zL (lb : Int))), (8, .int (zI ((kk + 1 : Nat) : Int)))]) [2, 3, 4, 5, 6, 7, 8, 0] rfl ?_
                    refine z_lq (lv' := [(0, .ref mo), (1, .int (zI (u : Int))), (2, .int (zI 0)), (3, .int (zI i)), (4, .int (zI 1)), (5, .int (zI ((ul (dg 10 (up u % 1000000 ^ (kk + 1))) 108 : Nat) : Int))), (6, .long (zL (lb : Int))), (8, .int (zI ((kk + 1 : Nat) : Int)))]) (congrArg (fun zzz : Int => ([(0, .ref mo), (1, .int (zI (u : Int))), (2, .int (zI 0)), (3, .int (zI i)), (4, .int (zI 1)), (5, .int (zI zzz)), (6, .long (zL (lb : Int))), (8, .int (zI ((kk + 1 : Nat) : Int)))] : List (Nat × Value))) (show (((ul (dg 10 (up u % 1000000 ^ kk)) 108 : Nat) : Int) : Int) = ((ul (dg 10 (up u % 1000000 ^ (kk + 1))) 108 : Nat) : Int) by omega)) ?_
                    exact ih33 ((kk + 1), lb) (show ((kk + 1) ≤ 8) from by omega) (show 8 - (kk + 1) < 8 - kk from by omega)
                  · skip
                    refine z_iload S d_M_digit_102 8 rfl ?_
                    refine z_iload_n S d_M_digit_104 4 rfl ?_
                    refine z_bipush S d_M_digit_105 rfl ?_
                    refine z_idiv S d_M_digit_107 (by omega) (by omega) ?_
                    refine z_icmp_ne (tgt := 115) S d_M_digit_108 (by decide) (by omega) (by omega) (fun c20 => ?_) (fun c20 => ?_)
                    · skip
                      refine z_iinc (y := ((kk + 1 : Nat) : Int)) (lv' := [(8, .int (zI ((kk + 1 : Nat) : Int))), (9, .long (zL ((dg 1000000 (up u) kk : Nat) : Int))), (0, .ref mo), (1, .int (zI (u : Int))), (2, .int (zI 0)), (3, .int (zI i)), (4, .int (zI 1)), (5, .int (zI ((ul (dg 10 (up u % 1000000 ^ kk)) 108 : Nat) : Int))), (6, .long (zL (lb : Int)))]) S d_M_digit_115 8 rfl (by omega) (by decide) rfl ?_
                      have hdd : ul (dg 10 (up u % 1000000 ^ (kk + 1))) 108 = ul (dg 10 (up u % 1000000 ^ kk)) 108 := by rw [md_s, show dg 1000000 (up u) kk = 0 by omega, Nat.zero_mul, Nat.add_zero]
                      refine z_goto (tgt := 33) S d_M_digit_118 (by decide) ?_
                      refine z_lv (lv' := [(0, .ref mo), (1, .int (zI (u : Int))), (2, .int (zI 0)), (3, .int (zI i)), (4, .int (zI 1)), (5, .int (zI ((ul (dg 10 (up u % 1000000 ^ kk)) 108 : Nat) : Int))), (6, .long (zL (lb : Int))), (8, .int (zI ((kk + 1 : Nat) : Int)))]) [2, 3, 4, 5, 6, 7, 8, 0] rfl ?_
                      refine z_lq (lv' := [(0, .ref mo), (1, .int (zI (u : Int))), (2, .int (zI 0)), (3, .int (zI i)), (4, .int (zI 1)), (5, .int (zI ((ul (dg 10 (up u % 1000000 ^ (kk + 1))) 108 : Nat) : Int))), (6, .long (zL (lb : Int))), (8, .int (zI ((kk + 1 : Nat) : Int)))]) (congrArg (fun zzz : Int => ([(0, .ref mo), (1, .int (zI (u : Int))), (2, .int (zI 0)), (3, .int (zI i)), (4, .int (zI 1)), (5, .int (zI zzz)), (6, .long (zL (lb : Int))), (8, .int (zI ((kk + 1 : Nat) : Int)))] : List (Nat × Value))) (show (((ul (dg 10 (up u % 1000000 ^ kk)) 108 : Nat) : Int) : Int) = ((ul (dg 10 (up u % 1000000 ^ (kk + 1))) 108 : Nat) : Int) by omega)) ?_
                      exact ih33 ((kk + 1), lb) (show ((kk + 1) ≤ 8) from by omega) (show 8 - (kk + 1) < 8 - kk from by omega)
                    · skip
                      refine z_lload S d_M_digit_111 0 rfl ?_
                      refine z_lstore (lv' := [(6, .long (zL ((dg 1000000 (up u) kk : Nat) : Int))), (9, .long (zL ((dg 1000000 (up u) kk : Nat) : Int))), (0, .ref mo), (1, .int (zI (u : Int))), (2, .int (zI 0)), (3, .int (zI i)), (4, .int (zI 1)), (5, .int (zI ((ul (dg 10 (up u % 1000000 ^ kk)) 108 : Nat) : Int))), (8, .int (zI (kk : Int)))]) S d_M_digit_113 (by decide) rfl ?_
                      refine z_iinc (y := ((kk + 1 : Nat) : Int)) (lv' := [(8, .int (zI ((kk + 1 : Nat) : Int))), (6, .long (zL ((dg 1000000 (up u) kk : Nat) : Int))), (9, .long (zL ((dg 1000000 (up u) kk : Nat) : Int))), (0, .ref mo), (1, .int (zI (u : Int))), (2, .int (zI 0)), (3, .int (zI i)), (4, .int (zI 1)), (5, .int (zI ((ul (dg 10 (up u % 1000000 ^ kk)) 108 : Nat) : Int)))]) S d_M_digit_115 8 rfl (by omega) (by decide) rfl ?_
                      have hdd : ul (dg 10 (up u % 1000000 ^ (kk + 1))) 108 = ul (dg 10 (up u % 1000000 ^ kk)) 108 := by rw [md_s, show dg 1000000 (up u) kk = 0 by omega, Nat.zero_mul, Nat.add_zero]
                      refine z_goto (tgt := 33) S d_M_digit_118 (by decide) ?_
                      refine z_lv (lv' := [(0, .ref mo), (1, .int (zI (u : Int))), (2, .int (zI 0)), (3, .int (zI i)), (4, .int (zI 1)), (5, .int (zI ((ul (dg 10 (up u % 1000000 ^ kk)) 108 : Nat) : Int))), (6, .long (zL ((dg 1000000 (up u) kk : Nat) : Int))), (8, .int (zI ((kk + 1 : Nat) : Int)))]) [3, 4, 5, 6, 7, 8, 1, 0] rfl ?_
                      refine z_lq (lv' := [(0, .ref mo), (1, .int (zI (u : Int))), (2, .int (zI 0)), (3, .int (zI i)), (4, .int (zI 1)), (5, .int (zI ((ul (dg 10 (up u % 1000000 ^ (kk + 1))) 108 : Nat) : Int))), (6, .long (zL ((dg 1000000 (up u) kk : Nat) : Int))), (8, .int (zI ((kk + 1 : Nat) : Int)))]) (congrArg (fun zzz : Int => ([(0, .ref mo), (1, .int (zI (u : Int))), (2, .int (zI 0)), (3, .int (zI i)), (4, .int (zI 1)), (5, .int (zI zzz)), (6, .long (zL ((dg 1000000 (up u) kk : Nat) : Int))), (8, .int (zI ((kk + 1 : Nat) : Int)))] : List (Nat × Value))) (show (((ul (dg 10 (up u % 1000000 ^ kk)) 108 : Nat) : Int) : Int) = ((ul (dg 10 (up u % 1000000 ^ (kk + 1))) 108 : Nat) : Int) by omega)) ?_
                      exact ih33 ((kk + 1), (dg 1000000 (up u) kk)) (show ((kk + 1) ≤ 8) from by omega) (show 8 - (kk + 1) < 8 - kk from by omega)
                · skip
                  refine z_bipush S d_M_digit_85 rfl ?_
                  refine z_iload S d_M_digit_87 8 rfl ?_
                  refine z_imul S d_M_digit_89 ?_
                  refine z_lload S d_M_digit_90 0 rfl ?_
                  refine z_callSa (As := [.long (zL ((dg 1000000 (up u) kk : Nat) : Int))]) (st := [.int (zI (6 * (kk : Int)))]) (wc := []) (wr := [oM mo th mw (nv : Int) mg ma mb (ns : Int) mlo mhi (nw : Int) mwe mru mrd, aL cL ma 800 (moA up)]) S hGok hK hg hA (s_M_many l dC dI cI cL qT (dg 1000000 (up u) kk) l1 (by omega)) (zcwS S k_M_155 mS_M_many hd_M_many rfl rfl ⟨Nat.le_of_ble_eq_true rfl, Nat.le_of_ble_eq_true rfl⟩) rfl (Nat.le_of_ble_eq_true rfl) d_M_digit_92 ⟨Nat.le_of_ble_eq_true rfl, Nat.le_of_ble_eq_true rfl⟩ rfl [] [0, 1] (by decide) rfl rfl rfl (by decide) (by decide) (fun x w hp => ?_)
                  obtain ⟨mm, f1, f2, f3, f4, rfl, rfl⟩ := hp
                  show ZZ _ _ _ _ _ _ _ _ _ _ _ _ _ _ _ _ _ _ 95 [(9, .long (zL ((dg 1000000 (up u) kk : Nat) : Int))), (0, .ref mo), (1, .int (zI (u : Int))), (2, .int (zI 0)), (3, .int (zI i)), (4, .int (zI 1)), (5, .int (zI ((ul (dg 10 (up u % 1000000 ^ kk)) 108 : Nat) : Int))), (6, .long (zL (lb : Int))), (8, .int (zI (kk : Int)))] [.int (zI (mm : Int)), .int (zI (6 * (kk : Int)))] [oM mo th mw (nv : Int) mg ma mb (ns : Int) mlo mhi (nw : Int) mwe mru mrd, aL cL ma 800 (moA up)]
                  refine z_iadd S d_M_digit_95 ?_
                  refine z_topi (fun x21 ex21 => ?_)
                  refine z_istore (lv' := [(5, .int (zI x21)), (9, .long (zL ((dg 1000000 (up u) kk : Nat) : Int))), (0, .ref mo), (1, .int (zI (u : Int))), (2, .int (zI 0)), (3, .int (zI i)), (4, .int (zI 1)), (6, .long (zL (lb : Int))), (8, .int (zI (kk : Int)))]) S d_M_digit_96 (by decide) rfl ?_
                  refine z_iload_n S d_M_digit_98 5 rfl ?_
                  refine z_if_lt (tgt := 115) S d_M_digit_99 (by decide) (by omega) (fun c22 => ?_) (fun c22 => ?_)
                  · skip
                    refine z_iinc (y := ((kk + 1 : Nat) : Int)) (lv' := [(8, .int (zI ((kk + 1 : Nat) : Int))), (5, .int (zI x21)), (9, .long (zL ((dg 1000000 (up u) kk : Nat) : Int))), (0, .ref mo), (1, .int (zI (u : Int))), (2, .int (zI 0)), (3, .int (zI i)), (4, .int (zI 1)), (6, .long (zL (lb : Int)))]) S d_M_digit_115 8 rfl (by omega) (by decide) rfl ?_
                    have hdd : ul (dg 10 (up u % 1000000 ^ (kk + 1))) 108 = 6 * kk + mm := nd_step f1 f2 f3 (by omega)
                    refine z_goto (tgt := 33) S d_M_digit_118 (by decide) ?_
                    refine z_lv (lv' := [(0, .ref mo), (1, .int (zI (u : Int))), (2, .int (zI 0)), (3, .int (zI i)), (4, .int (zI 1)), (5, .int (zI x21)), (6, .long (zL (lb : Int))), (8, .int (zI ((kk + 1 : Nat) : Int)))]) [3, 4, 5, 6, 7, 1, 8, 0] rfl ?_
                    refine z_lq (lv' := [(0, .ref mo), (1, .int (zI (u : Int))), (2, .int (zI 0)), (3, .int (zI i)), (4, .int (zI 1)), (5, .int (zI ((ul (dg 10 (up u % 1000000 ^ (kk + 1))) 108 : Nat) : Int))), (6, .long (zL (lb : Int))), (8, .int (zI ((kk + 1 : Nat) : Int)))]) (congrArg (fun zzz : Int => ([(0, .ref mo), (1, .int (zI (u : Int))), (2, .int (zI 0)), (3, .int (zI i)), (4, .int (zI 1)), (5, .int (zI zzz)), (6, .long (zL (lb : Int))), (8, .int (zI ((kk + 1 : Nat) : Int)))] : List (Nat × Value))) (show (x21 : Int) = ((ul (dg 10 (up u % 1000000 ^ (kk + 1))) 108 : Nat) : Int) by omega)) ?_
                    exact ih33 ((kk + 1), lb) (show ((kk + 1) ≤ 8) from by omega) (show 8 - (kk + 1) < 8 - kk from by omega)
                  · skip
                    refine z_iload S d_M_digit_102 8 rfl ?_
                    refine z_iload_n S d_M_digit_104 5 rfl ?_
                    refine z_bipush S d_M_digit_105 rfl ?_
                    refine z_idiv S d_M_digit_107 (by omega) (by omega) ?_
                    refine z_icmp_ne (tgt := 115) S d_M_digit_108 (by decide) (by omega) (by omega) (fun c23 => ?_) (fun c23 => ?_)
                    · skip
                      refine z_iinc (y := ((kk + 1 : Nat) : Int)) (lv' := [(8, .int (zI ((kk + 1 : Nat) : Int))), (5, .int (zI x21)), (9, .long (zL ((dg 1000000 (up u) kk : Nat) : Int))), (0, .ref mo), (1, .int (zI (u : Int))), (2, .int (zI 0)), (3, .int (zI i)), (4, .int (zI 1)), (6, .long (zL (lb : Int)))]) S d_M_digit_115 8 rfl (by omega) (by decide) rfl ?_
                      have hdd : ul (dg 10 (up u % 1000000 ^ (kk + 1))) 108 = 6 * kk + mm := nd_step f1 f2 f3 (by omega)
                      refine z_goto (tgt := 33) S d_M_digit_118 (by decide) ?_
                      refine z_lv (lv' := [(0, .ref mo), (1, .int (zI (u : Int))), (2, .int (zI 0)), (3, .int (zI i)), (4, .int (zI 1)), (5, .int (zI x21)), (6, .long (zL (lb : Int))), (8, .int (zI ((kk + 1 : Nat) : Int)))]) [3, 4, 5, 6, 7, 1, 8, 0] rfl ?_
                      refine z_lq (lv' := [(0, .ref mo), (1, .int (zI (u : Int))), (2, .int (zI 0)), (3, .int (zI i)), (4, .int (zI 1)), (5, .int (zI ((ul (dg 10 (up u % 1000000 ^ (kk + 1))) 108 : Nat) : Int))), (6, .long (zL (lb : Int))), (8, .int (zI ((kk + 1 : Nat) : Int)))]) (congrArg (fun zzz : Int => ([(0, .ref mo), (1, .int (zI (u : Int))), (2, .int (zI 0)), (3, .int (zI i)), (4, .int (zI 1)), (5, .int (zI zzz)), (6, .long (zL (lb : Int))), (8, .int (zI ((kk + 1 : Nat) : Int)))] : List (Nat × Value))) (show (x21 : Int) = ((ul (dg 10 (up u % 1000000 ^ (kk + 1))) 108 : Nat) : Int) by omega)) ?_
                      exact ih33 ((kk + 1), lb) (show ((kk + 1) ≤ 8) from by omega) (show 8 - (kk + 1) < 8 - kk from by omega)
                    · skip
                      refine z_lload S d_M_digit_111 1 rfl ?_
                      refine z_lstore (lv' := [(6, .long (zL ((dg 1000000 (up u) kk : Nat) : Int))), (5, .int (zI x21)), (9, .long (zL ((dg 1000000 (up u) kk : Nat) : Int))), (0, .ref mo), (1, .int (zI (u : Int))), (2, .int (zI 0)), (3, .int (zI i)), (4, .int (zI 1)), (8, .int (zI (kk : Int)))]) S d_M_digit_113 (by decide) rfl ?_
                      refine z_iinc (y := ((kk + 1 : Nat) : Int)) (lv' := [(8, .int (zI ((kk + 1 : Nat) : Int))), (6, .long (zL ((dg 1000000 (up u) kk : Nat) : Int))), (5, .int (zI x21)), (9, .long (zL ((dg 1000000 (up u) kk : Nat) : Int))), (0, .ref mo), (1, .int (zI (u : Int))), (2, .int (zI 0)), (3, .int (zI i)), (4, .int (zI 1))]) S d_M_digit_115 8 rfl (by omega) (by decide) rfl ?_
                      have hdd : ul (dg 10 (up u % 1000000 ^ (kk + 1))) 108 = 6 * kk + mm := nd_step f1 f2 f3 (by omega)
                      refine z_goto (tgt := 33) S d_M_digit_118 (by decide) ?_
                      refine z_lv (lv' := [(0, .ref mo), (1, .int (zI (u : Int))), (2, .int (zI 0)), (3, .int (zI i)), (4, .int (zI 1)), (5, .int (zI x21)), (6, .long (zL ((dg 1000000 (up u) kk : Nat) : Int))), (8, .int (zI ((kk + 1 : Nat) : Int)))]) [4, 5, 6, 7, 8, 2, 1, 0] rfl ?_
                      refine z_lq (lv' := [(0, .ref mo), (1, .int (zI (u : Int))), (2, .int (zI 0)), (3, .int (zI i)), (4, .int (zI 1)), (5, .int (zI ((ul (dg 10 (up u % 1000000 ^ (kk + 1))) 108 : Nat) : Int))), (6, .long (zL ((dg 1000000 (up u) kk : Nat) : Int))), (8, .int (zI ((kk + 1 : Nat) : Int)))]) (congrArg (fun zzz : Int => ([(0, .ref mo), (1, .int (zI (u : Int))), (2, .int (zI 0)), (3, .int (zI i)), (4, .int (zI 1)), (5, .int (zI zzz)), (6, .long (zL ((dg 1000000 (up u) kk : Nat) : Int))), (8, .int (zI ((kk + 1 : Nat) : Int)))] : List (Nat × Value))) (show (x21 : Int) = ((ul (dg 10 (up u % 1000000 ^ (kk + 1))) 108 : Nat) : Int) by omega)) ?_
                      exact ih33 ((kk + 1), (dg 1000000 (up u) kk)) (show ((kk + 1) ≤ 8) from by omega) (show 8 - (kk + 1) < 8 - kk from by omega)
set_option maxHeartbeats 4000000 in
set_option maxRecDepth 100000 in
theorem s_M_digit1 (l : Launch) (dC : Nat → ClassId) (dI : Nat → Nat → Nat) (cI cL : ClassId) (qT : Nat) (mo : Nat) (mw : Nat) (nv : Nat) (ma : Nat) (mb : Nat) (ns : Nat) (mlo : Nat) (mhi : Nat) (nw : Nat) (mwe : Nat) (mru : Nat) (mrd : Nat) (th : Int) (mg : Nat) (dn : Nat → Nat) (u : Nat) (i : Nat) (hnv : nv ≤ 100) (hu : u < nv) (hb : dn u < 10 ^ 48) (hi : i < nd (dn u)) : Ct l y_M_digit (Cond.code y_M_digit c_M_digit 11 (some .int) :: zB) { frames := 1, cells := 0, slots := 0, locals := 24 } (dC, dI) zcl [(cI, .int), (cL, .long)] (zG cI cL qT) [.ref mo, .int (zI (u : Int)), .int (zI 1), .int (zI (i : Int))] [oM mo th mw (nv : Int) mg ma mb (ns : Int) mlo mhi (nw : Int) mwe mru mrd, aL cL mb 800 (moA dn)] (fun rv wv => rv = .int (zI ((dg 10 (dn u) i : Nat) : Int)) ∧ wv = [oM mo 0 mw (nv : Int) mg ma mb (ns : Int) mlo mhi (nw : Int) mwe mru mrd, aL cL mb 800 (moA dn)]) 0 0 := by
  refine Cm.ofZ (cc := c_M_digit) (maxL := 11) (ret := (some .int)) (by decide) rfl (Nat.le_of_ble_eq_true rfl) rfl ?_
  intro p e s m below meth c A S hr hlo hnm hK hg hA hAe
  have hGok := zG_ok cI cL qT
  show ZZ _ _ _ _ _ _ _ _ _ _ _ _ _ _ _ _ _ _ 0 [(0, .ref mo), (1, .int (zI (u : Int))), (2, .int (zI 1)), (3, .int (zI (i : Int)))] [] [oM mo th mw (nv : Int) mg ma mb (ns : Int) mlo mhi (nw : Int) mwe mru mrd, aL cL mb 800 (moA dn)]
  have hn48 := nd_48' hb
  have hz00 : ul (dg 10 (dn u % 1000000 ^ 0)) 108 = 0 := by rw [Nat.pow_zero, Nat.mod_one]; decide
  refine z_aload_n S d_M_digit_0 0 rfl ?_
  refine z_iload_n S d_M_digit_1 1 rfl ?_
  refine z_callVa (As := [.int (zI (u : Int))]) (st := []) (wc := [oM mo th mw (nv : Int) mg ma mb (ns : Int) mlo mhi (nw : Int) mwe mru mrd]) (wr := [aL cL mb 800 (moA dn)]) S hGok hK hg hA (s_M_isValue l dC dI cI cL qT mo mw nv ma mb ns mlo mhi nw mwe mru mrd th mg (u : Int) (by omega) (by omega)) (zcwV S (List.mem_cons_of_mem _ k_M_125) mV_M_isValue k_M_125 hd_M_isValue rfl rfl ⟨Nat.le_of_ble_eq_true rfl, Nat.le_of_ble_eq_true rfl⟩) rfl (Nat.le_of_ble_eq_true rfl) d_M_digit_2 ⟨Nat.le_of_ble_eq_true rfl, Nat.le_of_ble_eq_true rfl⟩ rfl [0] [1] 0 rfl rfl rfl (by decide) rfl rfl rfl (by decide) (by decide) (fun x w hp => ?_)
  obtain ⟨rfl, rfl⟩ := hp
  show ZZ _ _ _ _ _ _ _ _ _ _ _ _ _ _ _ _ _ _ 5 [(0, .ref mo), (1, .int (zI (u : Int))), (2, .int (zI 1)), (3, .int (zI (i : Int)))] [.int (zI (b2 (0 ≤ (u : Int) ∧ (u : Int) < (nv : Int))))] [aL cL mb 800 (moA dn), oM mo th mw (nv : Int) mg ma mb (ns : Int) mlo mhi (nw : Int) mwe mru mrd]
  refine z_toi (a := 1) (zI_c (b2_t ⟨by omega, by omega⟩)) ?_
  refine z_if_eq (tgt := 21) S d_M_digit_5 (by decide) (by omega) (fun c1 => ?_) (fun c1 => ?_)
  · skip
    exact absurd c1 (by omega)
  · skip
    refine z_iload_n S d_M_digit_8 2 rfl ?_
    refine z_if_lt (tgt := 21) S d_M_digit_9 (by decide) (by omega) (fun c2 => ?_) (fun c2 => ?_)
    · skip
      exact absurd c2 (by omega)
    · skip
      refine z_iload_n S d_M_digit_12 2 rfl ?_
      refine z_iconst S d_M_digit_13 ?_
      refine z_icmp_gt (tgt := 21) S d_M_digit_14 (by decide) (by omega) (by omega) (fun c3 => ?_) (fun c3 => ?_)
      · skip
        exact absurd c3 (by omega)
      · skip
        refine z_iconst S d_M_digit_17 ?_
        refine z_goto (tgt := 22) S d_M_digit_18 (by decide) ?_
        refine z_istore (lv' := [(4, .int (zI 1)), (0, .ref mo), (1, .int (zI (u : Int))), (2, .int (zI 1)), (3, .int (zI (i : Int)))]) S d_M_digit_22 (by decide) rfl ?_
        refine z_iconst S d_M_digit_24 ?_
        refine z_istore (lv' := [(5, .int (zI 0)), (4, .int (zI 1)), (0, .ref mo), (1, .int (zI (u : Int))), (2, .int (zI 1)), (3, .int (zI (i : Int)))]) S d_M_digit_25 (by decide) rfl ?_
        refine z_lconst (z := 0) S d_M_digit_27 rfl ?_
        refine z_lstore (lv' := [(6, .long (zL 0)), (5, .int (zI 0)), (4, .int (zI 1)), (0, .ref mo), (1, .int (zI (u : Int))), (2, .int (zI 1)), (3, .int (zI (i : Int)))]) S d_M_digit_28 (by decide) rfl ?_
        refine z_iconst S d_M_digit_30 ?_
        refine z_istore (lv' := [(8, .int (zI 0)), (6, .long (zL 0)), (5, .int (zI 0)), (4, .int (zI 1)), (0, .ref mo), (1, .int (zI (u : Int))), (2, .int (zI 1)), (3, .int (zI (i : Int)))]) S d_M_digit_31 (by decide) rfl ?_
        refine z_lv (lv' := [(0, .ref mo), (1, .int (zI (u : Int))), (2, .int (zI 1)), (3, .int (zI (i : Int))), (4, .int (zI 1)), (5, .int (zI 0)), (6, .long (zL 0)), (8, .int (zI 0))]) [4, 5, 6, 7, 3, 2, 1, 0] rfl ?_
        refine z_ws (ws' := [oM mo th mw (nv : Int) mg ma mb (ns : Int) mlo mhi (nw : Int) mwe mru mrd, aL cL mb 800 (moA dn)]) [1, 0] (by decide) rfl rfl ?_
        refine z_lq (lv' := [(0, .ref mo), (1, .int (zI (u : Int))), (2, .int (zI 1)), (3, .int (zI (i : Int))), (4, .int (zI 1)), (5, .int (zI ((ul (dg 10 (dn u % 1000000 ^ 0)) 108 : Nat) : Int))), (6, .long (zL ((0 : Nat) : Int))), (8, .int (zI ((0 : Nat) : Int)))]) (Eq.trans (Eq.trans ((congrArg (fun zzz : Int => ([(0, .ref mo), (1, .int (zI (u : Int))), (2, .int (zI 1)), (3, .int (zI (i : Int))), (4, .int (zI 1)), (5, .int (zI zzz)), (6, .long (zL 0)), (8, .int (zI 0))] : List (Nat × Value))) (show (0 : Int) = ((ul (dg 10 (dn u % 1000000 ^ 0)) 108 : Nat) : Int) by omega))) (congrArg (fun zzz : Int => ([(0, .ref mo), (1, .int (zI (u : Int))), (2, .int (zI 1)), (3, .int (zI (i : Int))), (4, .int (zI 1)), (5, .int (zI ((ul (dg 10 (dn u % 1000000 ^ 0)) 108 : Nat) : Int))), (6, .long (zL zzz)), (8, .int (zI 0))] : List (Nat × Value))) (show (0 : Int) = ((0 : Nat) : Int) by omega))) (congrArg (fun zzz : Int => ([(0, .ref mo), (1, .int (zI (u : Int))), (2, .int (zI 1)), (3, .int (zI (i : Int))), (4, .int (zI 1)), (5, .int (zI ((ul (dg 10 (dn u % 1000000 ^ 0)) 108 : Nat) : Int))), (6, .long (zL ((0 : Nat) : Int))), (8, .int (zI zzz))] : List (Nat × Value))) (show (0 : Int) = ((0 : Nat) : Int) by omega))) ?_
        refine z_loop (I := fun (zz : Nat × Nat) => match zz with | (kk, lb) => (kk ≤ 8) ∧ (i / 6 < kk → lb = dg 1000000 (dn u) (i / 6))) (μ := fun (zz : Nat × Nat) => match zz with | (kk, lb) => 8 - kk) (LV := fun (zz : Nat × Nat) => match zz with | (kk, lb) => [(0, .ref mo), (1, .int (zI (u : Int))), (2, .int (zI 1)), (3, .int (zI (i : Int))), (4, .int (zI 1)), (5, .int (zI ((ul (dg 10 (dn u % 1000000 ^ kk)) 108 : Nat) : Int))), (6, .long (zL (lb : Int))), (8, .int (zI (kk : Int)))]) (WS := fun (zz : Nat × Nat) => match zz with | (kk, lb) => [oM mo th mw (nv : Int) mg ma mb (ns : Int) mlo mhi (nw : Int) mwe mru mrd, aL cL mb 800 (moA dn)]) (a := (0, 0)) ?_ ?_
        · exact (show (0 ≤ 8) ∧ (i / 6 < 0 → 0 = dg 1000000 (dn u) (i / 6)) from ⟨by omega, fun z => absurd z (by omega)⟩)
        · intro ⟨kk, lb⟩ hI ih33
          obtain ⟨hkk, hlb⟩ : (kk ≤ 8) ∧ (i / 6 < kk → lb = dg 1000000 (dn u) (i / 6)) := hI
          show ZZ _ _ _ _ _ _ _ _ _ _ _ _ _ _ _ _ _ _ 33 [(0, .ref mo), (1, .int (zI (u : Int))), (2, .int (zI 1)), (3, .int (zI (i : Int))), (4, .int (zI 1)), (5, .int (zI ((ul (dg 10 (dn u % 1000000 ^ kk)) 108 : Nat) : Int))), (6, .long (zL (lb : Int))), (8, .int (zI (kk : Int)))] [] [oM mo th mw (nv : Int) mg ma mb (ns : Int) mlo mhi (nw : Int) mwe mru mrd, aL cL mb 800 (moA dn)]
          refine z_iload S d_M_digit_33 7 rfl ?_
          refine z_bipush S d_M_digit_35 rfl ?_
          refine z_icmp_ge (tgt := 121) S d_M_digit_37 (by decide) (by omega) (by omega) (fun c4 => ?_) (fun c4 => ?_)
          · skip
            have hur := ul_le (dg 10 (dn u % 1000000 ^ kk)) 108
            refine z_iload S d_M_digit_121 5 rfl ?_
            refine z_if_ne (tgt := 129) S d_M_digit_123 (by decide) (by omega) (fun c5 => ?_) (fun c5 => ?_)
            · skip
              have hk8 : kk = 8 := by omega
              have hm8 : dn u % 1000000 ^ kk = dn u := by rw [hk8]; exact Nat.mod_eq_of_lt (by rw [← e48]; exact hb)
              have hu0 := ul_0 (b := 10) (v := dn u) (n := 108) (by decide) (Nat.lt_of_lt_of_le hb (by decide))
              have hndr := nd_48' hb
              have hc := c5
              rw [hm8] at hc
              have hnd : nd (dn u) = ul (dg 10 (dn u % 1000000 ^ kk)) 108 := by rw [hm8]; unfold nd; rw [if_neg (by omega)]
              refine z_lq (lv' := [(0, .ref mo), (1, .int (zI (u : Int))), (2, .int (zI 1)), (3, .int (zI (i : Int))), (4, .int (zI 1)), (5, .int (zI ((nd (dn u) : Nat) : Int))), (6, .long (zL (lb : Int))), (8, .int (zI (kk : Int)))]) (by rw [hnd]) ?_
              refine z_aload_n S d_M_digit_129 0 rfl ?_
              refine z_iload S d_M_digit_130 4 rfl ?_
              refine z_if_eq (tgt := 149) S d_M_digit_132 (by decide) (by omega) (fun c6 => ?_) (fun c6 => ?_)
              · skip
                exact absurd c6 (by omega)
              · skip
                refine z_iload_n S d_M_digit_135 3 rfl ?_
                refine z_if_lt (tgt := 149) S d_M_digit_136 (by decide) (by omega) (fun c7 => ?_) (fun c7 => ?_)
                · skip
                  omega
                · skip
                  refine z_iload_n S d_M_digit_139 3 rfl ?_
                  refine z_iload S d_M_digit_140 5 rfl ?_
                  refine z_icmp_ge (tgt := 149) S d_M_digit_142 (by decide) (by omega) (by omega) (fun c8 => ?_) (fun c8 => ?_)
                  · skip
                    omega
                  · skip
                    refine z_iconst S d_M_digit_145 ?_
                    refine z_goto (tgt := 150) S d_M_digit_146 (by decide) ?_
                    refine z_iconst S d_M_digit_150 ?_
                    refine z_iconst S d_M_digit_151 ?_
                    refine z_callVa (As := [.int (zI 1), .int (zI 1), .int (zI 1)]) (st := []) (wc := [oM mo th mw (nv : Int) mg ma mb (ns : Int) mlo mhi (nw : Int) mwe mru mrd]) (wr := [aL cL mb 800 (moA dn)]) S hGok hK hg hA (s_M_goes l dC dI cI cL qT mo mw nv ma mb ns mlo mhi nw mwe mru mrd th mg 1 1 1 (by omega) (by omega) (by omega)) (zcwV S (List.mem_cons_of_mem _ k_M_118) mV_M_goes k_M_118 hd_M_goes rfl rfl ⟨Nat.le_of_ble_eq_true rfl, Nat.le_of_ble_eq_true rfl⟩) rfl (Nat.le_of_ble_eq_true rfl) d_M_digit_152 ⟨Nat.le_of_ble_eq_true rfl, Nat.le_of_ble_eq_true rfl⟩ rfl [0] [1] 0 rfl rfl rfl (by decide) rfl rfl rfl (by decide) (by decide) (fun x w hp => ?_)
                    obtain ⟨rfl, rfl⟩ := hp
                    show ZZ _ _ _ _ _ _ _ _ _ _ _ _ _ _ _ _ _ _ 155 [(0, .ref mo), (1, .int (zI (u : Int))), (2, .int (zI 1)), (3, .int (zI (i : Int))), (4, .int (zI 1)), (5, .int (zI ((nd (dn u) : Nat) : Int))), (6, .long (zL (lb : Int))), (8, .int (zI (kk : Int)))] [.int (zI (b2 (gth 1 1 1 = 0)))] [aL cL mb 800 (moA dn), oM mo (gth 1 1 1) mw (nv : Int) mg ma mb (ns : Int) mlo mhi (nw : Int) mwe mru mrd]
                    refine z_toi (a := 1) rfl ?_
                    refine z_wq (ws' := [aL cL mb 800 (moA dn), oM mo 0 mw (nv : Int) mg ma mb (ns : Int) mlo mhi (nw : Int) mwe mru mrd]) rfl ?_
                    refine z_if_ne (tgt := 160) S d_M_digit_155 (by decide) (by omega) (fun c9 => ?_) (fun c9 => ?_)
                    · skip
                      refine z_iconst S d_M_digit_160 ?_
                      refine z_istore (lv' := [(8, .int (zI 0)), (0, .ref mo), (1, .int (zI (u : Int))), (2, .int (zI 1)), (3, .int (zI (i : Int))), (4, .int (zI 1)), (5, .int (zI ((nd (dn u) : Nat) : Int))), (6, .long (zL (lb : Int)))]) S d_M_digit_161 (by decide) rfl ?_
                      refine z_lv (lv' := [(0, .ref mo), (3, .int (zI (i : Int))), (6, .long (zL (lb : Int))), (8, .int (zI 0))]) [1, 4, 7, 0] rfl ?_
                      refine z_ws (ws' := [oM mo 0 mw (nv : Int) mg ma mb (ns : Int) mlo mhi (nw : Int) mwe mru mrd, aL cL mb 800 (moA dn)]) [1, 0] (by decide) rfl rfl ?_
                      refine z_lq (lv' := [(0, .ref mo), (3, .int (zI (i : Int))), (6, .long (zL (lb : Int))), (8, .int (zI ((0 : Nat) : Int)))]) (congrArg (fun zzz : Int => ([(0, .ref mo), (3, .int (zI (i : Int))), (6, .long (zL (lb : Int))), (8, .int (zI zzz))] : List (Nat × Value))) (show (0 : Int) = ((0 : Nat) : Int) by omega)) ?_
                      refine z_loop (I := fun (zz : Nat × Nat) => match zz with | (j, z) => (j ≤ i % 6) ∧ (z = dg 1000000 (dn u) (i / 6) / 10 ^ j)) (μ := fun (zz : Nat × Nat) => match zz with | (j, z) => 6 - j) (LV := fun (zz : Nat × Nat) => match zz with | (j, z) => [(0, .ref mo), (3, .int (zI (i : Int))), (6, .long (zL (z : Int))), (8, .int (zI (j : Int)))]) (WS := fun (zz : Nat × Nat) => match zz with | (j, z) => [oM mo 0 mw (nv : Int) mg ma mb (ns : Int) mlo mhi (nw : Int) mwe mru mrd, aL cL mb 800 (moA dn)]) (a := (0, lb)) ?_ ?_
                      · exact (show (0 ≤ i % 6) ∧ (lb = dg 1000000 (dn u) (i / 6) / 10 ^ 0) from ⟨by omega, by rw [Nat.pow_zero, Nat.div_one]; exact hlb (by omega)⟩)
                      · intro ⟨j, z⟩ hI ih163
                        obtain ⟨hj, hz⟩ : (j ≤ i % 6) ∧ (z = dg 1000000 (dn u) (i / 6) / 10 ^ j) := hI
                        show ZZ _ _ _ _ _ _ _ _ _ _ _ _ _ _ _ _ _ _ 163 [(0, .ref mo), (3, .int (zI (i : Int))), (6, .long (zL (z : Int))), (8, .int (zI (j : Int)))] [] [oM mo 0 mw (nv : Int) mg ma mb (ns : Int) mlo mhi (nw : Int) mwe mru mrd, aL cL mb 800 (moA dn)]
                        have hzl : z < 1000000 := by rw [hz]; exact Nat.lt_of_le_of_lt (Nat.div_le_self _ _) (dg_lt (by decide) _ _)
                        refine z_iload S d_M_digit_163 3 rfl ?_
                        refine z_iload_n S d_M_digit_165 1 rfl ?_
                        refine z_bipush S d_M_digit_166 rfl ?_
                        refine z_irem S d_M_digit_168 (by omega) (by omega) ?_
                        refine z_icmp_ge (tgt := 186) S d_M_digit_169 (by decide) (by omega) (by omega) (fun c10 => ?_) (fun c10 => ?_)
                        · skip
                          have hje : j = i % 6 := by omega
                          have hdd6 := dec_dig6 (dn u) i
                          rw [← hje, ← hz] at hdd6
                          refine z_lload S d_M_digit_186 2 rfl ?_
                          refine z_ldc2 (v := 10) (z := 10) S k_M_153 d_M_digit_188 (by decide) ?_
                          refine z_lrem S d_M_digit_191 (by omega) (by omega) ?_
                          refine z_l2i S d_M_digit_192 ?_
                          exact z_iret (w := [oM mo 0 mw (nv : Int) mg ma mb (ns : Int) mlo mhi (nw : Int) mwe mru mrd, aL cL mb 800 (moA dn)]) S hr hlo hAe d_M_digit_193 [0, 1] (by decide) rfl rfl ⟨Nat.le_refl _, Nat.le_refl _⟩ (⟨congrArg Value.int (zI_c (by omega)), rfl⟩)
                        · skip
                          refine z_lload S d_M_digit_172 2 rfl ?_
                          refine z_ldc2 (v := 10) (z := 10) S k_M_153 d_M_digit_174 (by decide) ?_
                          refine z_ldiv S d_M_digit_177 (by omega) (by omega) ?_
                          refine z_topl (fun x11 ex11 => ?_)
                          refine z_lstore (lv' := [(6, .long (zL x11)), (0, .ref mo), (3, .int (zI (i : Int))), (8, .int (zI (j : Int)))]) S d_M_digit_178 (by decide) rfl ?_
                          refine z_iinc (y := ((j + 1 : Nat) : Int)) (lv' := [(8, .int (zI ((j + 1 : Nat) : Int))), (6, .long (zL x11)), (0, .ref mo), (3, .int (zI (i : Int)))]) S d_M_digit_180 3 rfl (by omega) (by decide) rfl ?_
                          refine z_goto (tgt := 163) S d_M_digit_183 (by decide) ?_
                          refine z_lv (lv' := [(0, .ref mo), (3, .int (zI (i : Int))), (6, .long (zL x11)), (8, .int (zI ((j + 1 : Nat) : Int)))]) [2, 3, 1, 0] rfl ?_
                          refine z_lq (lv' := [(0, .ref mo), (3, .int (zI (i : Int))), (6, .long (zL ((z / 10 : Nat) : Int))), (8, .int (zI ((j + 1 : Nat) : Int)))]) (congrArg (fun zzz : Int => ([(0, .ref mo), (3, .int (zI (i : Int))), (6, .long (zL zzz)), (8, .int (zI ((j + 1 : Nat) : Int)))] : List (Nat × Value))) (show (x11 : Int) = ((z / 10 : Nat) : Int) by omega)) ?_
                          exact ih163 ((j + 1), (z / 10)) (show ((j + 1) ≤ i % 6) ∧ ((z / 10) = dg 1000000 (dn u) (i / 6) / 10 ^ (j + 1)) from ⟨by omega, by rw [hz, Nat.div_div_eq_div_mul, ← Nat.pow_succ]⟩) (show 6 - (j + 1) < 6 - j from by omega)
                    · skip
                      exact absurd c9 (by omega)
            · skip
              refine z_iconst S d_M_digit_126 ?_
              refine z_istore (lv' := [(5, .int (zI 1)), (0, .ref mo), (1, .int (zI (u : Int))), (2, .int (zI 1)), (3, .int (zI (i : Int))), (4, .int (zI 1)), (6, .long (zL (lb : Int))), (8, .int (zI (kk : Int)))]) S d_M_digit_127 (by decide) rfl ?_
              have hk8 : kk = 8 := by omega
              have hm8 : dn u % 1000000 ^ kk = dn u := by rw [hk8]; exact Nat.mod_eq_of_lt (by rw [← e48]; exact hb)
              have hu0 := ul_0 (b := 10) (v := dn u) (n := 108) (by decide) (Nat.lt_of_lt_of_le hb (by decide))
              have hndr := nd_48' hb
              have hc := c5
              rw [hm8] at hc
              have hnd : nd (dn u) = 1 := by unfold nd; rw [if_pos (by omega)]
              refine z_lq (lv' := [(5, .int (zI ((nd (dn u) : Nat) : Int))), (0, .ref mo), (1, .int (zI (u : Int))), (2, .int (zI 1)), (3, .int (zI (i : Int))), (4, .int (zI 1)), (6, .long (zL (lb : Int))), (8, .int (zI (kk : Int)))]) (by rw [hnd]; rfl) ?_
              refine z_aload_n S d_M_digit_129 1 rfl ?_
              refine z_iload S d_M_digit_130 5 rfl ?_
              refine z_if_eq (tgt := 149) S d_M_digit_132 (by decide) (by omega) (fun c12 => ?_) (fun c12 => ?_)
              · skip
                exact absurd c12 (by omega)
              · skip
                refine z_iload_n S d_M_digit_135 4 rfl ?_
                refine z_if_lt (tgt := 149) S d_M_digit_136 (by decide) (by omega) (fun c13 => ?_) (fun c13 => ?_)
                · skip
                  omega
                · skip
                  refine z_iload_n S d_M_digit_139 4 rfl ?_
                  refine z_iload S d_M_digit_140 0 rfl ?_
                  refine z_icmp_ge (tgt := 149) S d_M_digit_142 (by decide) (by omega) (by omega) (fun c14 => ?_) (fun c14 => ?_)
                  · skip
                    omega
                  · skip
                    refine z_iconst S d_M_digit_145 ?_
                    refine z_goto (tgt := 150) S d_M_digit_146 (by decide) ?_
                    refine z_iconst S d_M_digit_150 ?_
                    refine z_iconst S d_M_digit_151 ?_
                    refine z_callVa (As := [.int (zI 1), .int (zI 1), .int (zI 1)]) (st := []) (wc := [oM mo th mw (nv : Int) mg ma mb (ns : Int) mlo mhi (nw : Int) mwe mru mrd]) (wr := [aL cL mb 800 (moA dn)]) S hGok hK hg hA (s_M_goes l dC dI cI cL qT mo mw nv ma mb ns mlo mhi nw mwe mru mrd th mg 1 1 1 (by omega) (by omega) (by omega)) (zcwV S (List.mem_cons_of_mem _ k_M_118) mV_M_goes k_M_118 hd_M_goes rfl rfl ⟨Nat.le_of_ble_eq_true rfl, Nat.le_of_ble_eq_true rfl⟩) rfl (Nat.le_of_ble_eq_true rfl) d_M_digit_152 ⟨Nat.le_of_ble_eq_true rfl, Nat.le_of_ble_eq_true rfl⟩ rfl [0] [1] 0 rfl rfl rfl (by decide) rfl rfl rfl (by decide) (by decide) (fun x w hp => ?_)
                    obtain ⟨rfl, rfl⟩ := hp
                    show ZZ _ _ _ _ _ _ _ _ _ _ _ _ _ _ _ _ _ _ 155 [(5, .int (zI ((nd (dn u) : Nat) : Int))), (0, .ref mo), (1, .int (zI (u : Int))), (2, .int (zI 1)), (3, .int (zI (i : Int))), (4, .int (zI 1)), (6, .long (zL (lb : Int))), (8, .int (zI (kk : Int)))] [.int (zI (b2 (gth 1 1 1 = 0)))] [aL cL mb 800 (moA dn), oM mo (gth 1 1 1) mw (nv : Int) mg ma mb (ns : Int) mlo mhi (nw : Int) mwe mru mrd]
                    refine z_toi (a := 1) rfl ?_
                    refine z_wq (ws' := [aL cL mb 800 (moA dn), oM mo 0 mw (nv : Int) mg ma mb (ns : Int) mlo mhi (nw : Int) mwe mru mrd]) rfl ?_
                    refine z_if_ne (tgt := 160) S d_M_digit_155 (by decide) (by omega) (fun c15 => ?_) (fun c15 => ?_)
                    · skip
                      refine z_iconst S d_M_digit_160 ?_
                      refine z_istore (lv' := [(8, .int (zI 0)), (5, .int (zI ((nd (dn u) : Nat) : Int))), (0, .ref mo), (1, .int (zI (u : Int))), (2, .int (zI 1)), (3, .int (zI (i : Int))), (4, .int (zI 1)), (6, .long (zL (lb : Int)))]) S d_M_digit_161 (by decide) rfl ?_
                      refine z_lv (lv' := [(0, .ref mo), (3, .int (zI (i : Int))), (6, .long (zL (lb : Int))), (8, .int (zI 0))]) [2, 5, 7, 0] rfl ?_
                      refine z_ws (ws' := [oM mo 0 mw (nv : Int) mg ma mb (ns : Int) mlo mhi (nw : Int) mwe mru mrd, aL cL mb 800 (moA dn)]) [1, 0] (by decide) rfl rfl ?_
                      refine z_lq (lv' := [(0, .ref mo), (3, .int (zI (i : Int))), (6, .long (zL (lb : Int))), (8, .int (zI ((0 : Nat) : Int)))]) (congrArg (fun zzz : Int => ([(0, .ref mo), (3, .int (zI (i : Int))), (6, .long (zL (lb : Int))), (8, .int (zI zzz))] : List (Nat × Value))) (show (0 : Int) = ((0 : Nat) : Int) by omega)) ?_
                      refine z_loop (I := fun (zz : Nat × Nat) => match zz with | (j, z) => (j ≤ i % 6) ∧ (z = dg 1000000 (dn u) (i / 6) / 10 ^ j)) (μ := fun (zz : Nat × Nat) => match zz with | (j, z) => 6 - j) (LV := fun (zz : Nat × Nat) => match zz with | (j, z) => [(0, .ref mo), (3, .int (zI (i : Int))), (6, .long (zL (z : Int))), (8, .int (zI (j : Int)))]) (WS := fun (zz : Nat × Nat) => match zz with | (j, z) => [oM mo 0 mw (nv : Int) mg ma mb (ns : Int) mlo mhi (nw : Int) mwe mru mrd, aL cL mb 800 (moA dn)]) (a := (0, lb)) ?_ ?_
                      · exact (show (0 ≤ i % 6) ∧ (lb = dg 1000000 (dn u) (i / 6) / 10 ^ 0) from ⟨by omega, by rw [Nat.pow_zero, Nat.div_one]; exact hlb (by omega)⟩)
                      · intro ⟨j, z⟩ hI ih163
                        obtain ⟨hj, hz⟩ : (j ≤ i % 6) ∧ (z = dg 1000000 (dn u) (i / 6) / 10 ^ j) := hI
                        show ZZ _ _ _ _ _ _ _ _ _ _ _ _ _ _ _ _ _ _ 163 [(0, .ref mo), (3, .int (zI (i : Int))), (6, .long (zL (z : Int))), (8, .int (zI (j : Int)))] [] [oM mo 0 mw (nv : Int) mg ma mb (ns : Int) mlo mhi (nw : Int) mwe mru mrd, aL cL mb 800 (moA dn)]
                        have hzl : z < 1000000 := by rw [hz]; exact Nat.lt_of_le_of_lt (Nat.div_le_self _ _) (dg_lt (by decide) _ _)
                        refine z_iload S d_M_digit_163 3 rfl ?_
                        refine z_iload_n S d_M_digit_165 1 rfl ?_
                        refine z_bipush S d_M_digit_166 rfl ?_
                        refine z_irem S d_M_digit_168 (by omega) (by omega) ?_
                        refine z_icmp_ge (tgt := 186) S d_M_digit_169 (by decide) (by omega) (by omega) (fun c16 => ?_) (fun c16 => ?_)
                        · skip
                          have hje : j = i % 6 := by omega
                          have hdd6 := dec_dig6 (dn u) i
                          rw [← hje, ← hz] at hdd6
                          refine z_lload S d_M_digit_186 2 rfl ?_
                          refine z_ldc2 (v := 10) (z := 10) S k_M_153 d_M_digit_188 (by decide) ?_
                          refine z_lrem S d_M_digit_191 (by omega) (by omega) ?_
                          refine z_l2i S d_M_digit_192 ?_
                          exact z_iret (w := [oM mo 0 mw (nv : Int) mg ma mb (ns : Int) mlo mhi (nw : Int) mwe mru mrd, aL cL mb 800 (moA dn)]) S hr hlo hAe d_M_digit_193 [0, 1] (by decide) rfl rfl ⟨Nat.le_refl _, Nat.le_refl _⟩ (⟨congrArg Value.int (zI_c (by omega)), rfl⟩)
                        · skip
                          refine z_lload S d_M_digit_172 2 rfl ?_
                          refine z_ldc2 (v := 10) (z := 10) S k_M_153 d_M_digit_174 (by decide) ?_
                          refine z_ldiv S d_M_digit_177 (by omega) (by omega) ?_
                          refine z_topl (fun x17 ex17 => ?_)
                          refine z_lstore (lv' := [(6, .long (zL x17)), (0, .ref mo), (3, .int (zI (i : Int))), (8, .int (zI (j : Int)))]) S d_M_digit_178 (by decide) rfl ?_
                          refine z_iinc (y := ((j + 1 : Nat) : Int)) (lv' := [(8, .int (zI ((j + 1 : Nat) : Int))), (6, .long (zL x17)), (0, .ref mo), (3, .int (zI (i : Int)))]) S d_M_digit_180 3 rfl (by omega) (by decide) rfl ?_
                          refine z_goto (tgt := 163) S d_M_digit_183 (by decide) ?_
                          refine z_lv (lv' := [(0, .ref mo), (3, .int (zI (i : Int))), (6, .long (zL x17)), (8, .int (zI ((j + 1 : Nat) : Int)))]) [2, 3, 1, 0] rfl ?_
                          refine z_lq (lv' := [(0, .ref mo), (3, .int (zI (i : Int))), (6, .long (zL ((z / 10 : Nat) : Int))), (8, .int (zI ((j + 1 : Nat) : Int)))]) (congrArg (fun zzz : Int => ([(0, .ref mo), (3, .int (zI (i : Int))), (6, .long (zL zzz)), (8, .int (zI ((j + 1 : Nat) : Int)))] : List (Nat × Value))) (show (x17 : Int) = ((z / 10 : Nat) : Int) by omega)) ?_
                          exact ih163 ((j + 1), (z / 10)) (show ((j + 1) ≤ i % 6) ∧ ((z / 10) = dg 1000000 (dn u) (i / 6) / 10 ^ (j + 1)) from ⟨by omega, by rw [hz, Nat.div_div_eq_div_mul, ← Nat.pow_succ]⟩) (show 6 - (j + 1) < 6 - j from by omega)
                    · skip
                      exact absurd c15 (by omega)
          · skip
            have hur := ul_le (dg 10 (dn u % 1000000 ^ kk)) 108
            refine z_iload S d_M_digit_40 4 rfl ?_
            refine z_if_eq (tgt := 121) S d_M_digit_42 (by decide) (by omega) (fun c18 => ?_) (fun c18 => ?_)
            · skip
              exact absurd c18 (by omega)
            · skip
              have l1 := dg_lt (b := 1000000) (by decide) (dn u) (kk)
              refine z_iload_n S d_M_digit_45 2 rfl ?_
              refine z_if_ne (tgt := 64) S d_M_digit_46 (by decide) (by omega) (fun c19 => ?_) (fun c19 => ?_)
              · skip
                refine z_aload_n S d_M_digit_64 0 rfl ?_
                refine z_get S hK la_M 0 rfl rfl 5 (by decide) k_M_20 rfl d_M_digit_65 ?_
                refine z_bipush S d_M_digit_68 rfl ?_
                refine z_iload_n S d_M_digit_70 1 rfl ?_
                refine z_imul S d_M_digit_71 ?_
                refine z_iload S d_M_digit_72 7 rfl ?_
                refine z_iadd S d_M_digit_74 ?_
                refine z_lald (x := ((dg 1000000 (dn u) kk : Nat) : Int)) S hK 1 1 rfl rfl (8 * u + kk) (by omega) (by omega) (by decide) (moA_at dn (by omega)) d_M_digit_75 ?_
                refine z_lstore (lv' := [(9, .long (zL ((dg 1000000 (dn u) kk : Nat) : Int))), (0, .ref mo), (1, .int (zI (u : Int))), (2, .int (zI 1)), (3, .int (zI (i : Int))), (4, .int (zI 1)), (5, .int (zI ((ul (dg 10 (dn u % 1000000 ^ kk)) 108 : Nat) : Int))), (6, .long (zL (lb : Int))), (8, .int (zI (kk : Int)))]) S d_M_digit_76 (by decide) rfl ?_
                refine z_lload S d_M_digit_78 0 rfl ?_
                refine z_lconst (z := 0) S d_M_digit_80 rfl ?_
                refine z_lcmp_le (tgt := 98) S d_M_digit_81 d_M_digit_82 (by decide) (by omega) (by omega) (fun c20 => ?_) (fun c20 => ?_)
                · skip
                  refine z_iload_n S d_M_digit_98 4 rfl ?_
                  refine z_if_lt (tgt := 115) S d_M_digit_99 (by decide) (by omega) (fun c21 => ?_) (fun c21 => ?_)
                  · skip
                    omega
                  · skip
                    refine z_iload S d_M_digit_102 8 rfl ?_
                    refine z_iload_n S d_M_digit_104 4 rfl ?_
                    refine z_bipush S d_M_digit_105 rfl ?_
                    refine z_idiv S d_M_digit_107 (by omega) (by omega) ?_
                    refine z_icmp_ne (tgt := 115) S d_M_digit_108 (by decide) (by omega) (by omega) (fun c22 => ?_) (fun c22 => ?_)
                    · skip
                      refine z_iinc (y := ((kk + 1 : Nat) : Int)) (lv' := [(8, .int (zI ((kk + 1 : Nat) : Int))), (9, .long (zL ((dg 1000000 (dn u) kk : Nat) : Int))), (0, .ref mo), (1, .int (zI (u : Int))), (2, .int (zI 1)), (3, .int (zI (i : Int))), (4, .int (zI 1)), (5, .int (zI ((ul (dg 10 (dn u % 1000000 ^ kk)) 108 : Nat) : Int))), (6, .long (zL (lb : Int)))]) S d_M_digit_115 8 rfl (by omega) (by decide) rfl ?_
                      have hdd : ul (dg 10 (dn u % 1000000 ^ (kk + 1))) 108 = ul (dg 10 (dn u % 1000000 ^ kk)) 108 := by rw [md_s, show dg 1000000 (dn u) kk = 0 by omega, Nat.zero_mul, Nat.add_zero]
                      refine z_goto (tgt := 33) S d_M_digit_118 (by decide) ?_
                      refine z_lv (lv' := [(0, .ref mo), (1, .int (zI (u : Int))), (2, .int (zI 1)), (3, .int (zI (i : Int))), (4, .int (zI 1)), (5, .int (zI ((ul (dg 10 (dn u % 1000000 ^ kk)) 108 : Nat) : Int))), (6, .long (zL (lb : Int))), (8, .int (zI ((kk + 1 : Nat) : Int)))]) [2, 3, 4, 5, 6, 7, 8, 0] rfl ?_
                      refine z_lq (lv' := [(0, .ref mo), (1, .int (zI (u : Int))), (2, .int (zI 1)), (3, .int (zI (i : Int))), (4, .int (zI 1)), (5, .int (zI ((ul (dg 10 (dn u % 1000000 ^ (kk + 1))) 108 : Nat) : Int))), (6, .long (zL (lb : Int))), (8, .int (zI ((kk + 1 : Nat) : Int)))]) (congrArg (fun zzz : Int => ([(0, .ref mo), (1, .int (zI (u : Int))), (2, .int (zI 1)), (3, .int (zI (i : Int))), (4, .int (zI 1)), (5, .int (zI zzz)), (6, .long (zL (lb : Int))), (8, .int (zI ((kk + 1 : Nat) : Int)))] : List (Nat × Value))) (show (((ul (dg 10 (dn u % 1000000 ^ kk)) 108 : Nat) : Int) : Int) = ((ul (dg 10 (dn u % 1000000 ^ (kk + 1))) 108 : Nat) : Int) by omega)) ?_
                      exact ih33 ((kk + 1), lb) (show ((kk + 1) ≤ 8) ∧ (i / 6 < (kk + 1) → lb = dg 1000000 (dn u) (i / 6)) from ⟨by omega, fun z => hlb (by omega)⟩) (show 8 - (kk + 1) < 8 - kk from by omega)
                    · skip
                      refine z_lload S d_M_digit_111 0 rfl ?_
                      refine z_lstore (lv' := [(6, .long (zL ((dg 1000000 (dn u) kk : Nat) : Int))), (9, .long (zL ((dg 1000000 (dn u) kk : Nat) : Int))), (0, .ref mo), (1, .int (zI (u : Int))), (2, .int (zI 1)), (3, .int (zI (i : Int))), (4, .int (zI 1)), (5, .int (zI ((ul (dg 10 (dn u % 1000000 ^ kk)) 108 : Nat) : Int))), (8, .int (zI (kk : Int)))]) S d_M_digit_113 (by decide) rfl ?_
                      refine z_iinc (y := ((kk + 1 : Nat) : Int)) (lv' := [(8, .int (zI ((kk + 1 : Nat) : Int))), (6, .long (zL ((dg 1000000 (dn u) kk : Nat) : Int))), (9, .long (zL ((dg 1000000 (dn u) kk : Nat) : Int))), (0, .ref mo), (1, .int (zI (u : Int))), (2, .int (zI 1)), (3, .int (zI (i : Int))), (4, .int (zI 1)), (5, .int (zI ((ul (dg 10 (dn u % 1000000 ^ kk)) 108 : Nat) : Int)))]) S d_M_digit_115 8 rfl (by omega) (by decide) rfl ?_
                      have hdd : ul (dg 10 (dn u % 1000000 ^ (kk + 1))) 108 = ul (dg 10 (dn u % 1000000 ^ kk)) 108 := by rw [md_s, show dg 1000000 (dn u) kk = 0 by omega, Nat.zero_mul, Nat.add_zero]
                      refine z_goto (tgt := 33) S d_M_digit_118 (by decide) ?_
                      refine z_lv (lv' := [(0, .ref mo), (1, .int (zI (u : Int))), (2, .int (zI 1)), (3, .int (zI (i : Int))), (4, .int (zI 1)), (5, .int (zI ((ul (dg 10 (dn u % 1000000 ^ kk)) 108 : Nat) : Int))), (6, .long (zL ((dg 1000000 (dn u) kk : Nat) : Int))), (8, .int (zI ((kk + 1 : Nat) : Int)))]) [3, 4, 5, 6, 7, 8, 1, 0] rfl ?_
                      refine z_lq (lv' := [(0, .ref mo), (1, .int (zI (u : Int))), (2, .int (zI 1)), (3, .int (zI (i : Int))), (4, .int (zI 1)), (5, .int (zI ((ul (dg 10 (dn u % 1000000 ^ (kk + 1))) 108 : Nat) : Int))), (6, .long (zL ((dg 1000000 (dn u) kk : Nat) : Int))), (8, .int (zI ((kk + 1 : Nat) : Int)))]) (congrArg (fun zzz : Int => ([(0, .ref mo), (1, .int (zI (u : Int))), (2, .int (zI 1)), (3, .int (zI (i : Int))), (4, .int (zI 1)), (5, .int (zI zzz)), (6, .long (zL ((dg 1000000 (dn u) kk : Nat) : Int))), (8, .int (zI ((kk + 1 : Nat) : Int)))] : List (Nat × Value))) (show (((ul (dg 10 (dn u % 1000000 ^ kk)) 108 : Nat) : Int) : Int) = ((ul (dg 10 (dn u % 1000000 ^ (kk + 1))) 108 : Nat) : Int) by omega)) ?_
                      exact ih33 ((kk + 1), (dg 1000000 (dn u) kk)) (show ((kk + 1) ≤ 8) ∧ (i / 6 < (kk + 1) → (dg 1000000 (dn u) kk) = dg 1000000 (dn u) (i / 6)) from ⟨by omega, fun _ => by rw [show i / 6 = kk by omega]⟩) (show 8 - (kk + 1) < 8 - kk from by omega)
                · skip
                  refine z_bipush S d_M_digit_85 rfl ?_
                  refine z_iload S d_M_digit_87 8 rfl ?_
                  refine z_imul S d_M_digit_89 ?_
                  refine z_lload S d_M_digit_90 0 rfl ?_
                  refine z_callSa (As := [.long (zL ((dg 1000000 (dn u) kk : Nat) : Int))]) (st := [.int (zI (6 * (kk : Int)))]) (wc := []) (wr := [oM mo th mw (nv : Int) mg ma mb (ns : Int) mlo mhi (nw : Int) mwe mru mrd, aL cL mb 800 (moA dn)]) S hGok hK hg hA (s_M_many l dC dI cI cL qT (dg 1000000 (dn u) kk) l1 (by omega)) (zcwS S k_M_155 mS_M_many hd_M_many rfl rfl ⟨Nat.le_of_ble_eq_true rfl, Nat.le_of_ble_eq_true rfl⟩) rfl (Nat.le_of_ble_eq_true rfl) d_M_digit_92 ⟨Nat.le_of_ble_eq_true rfl, Nat.le_of_ble_eq_true rfl⟩ rfl [] [0, 1] (by decide) rfl rfl rfl (by decide) (by decide) (fun x w hp => ?_)
                  obtain ⟨mm, f1, f2, f3, f4, rfl, rfl⟩ := hp
                  show ZZ _ _ _ _ _ _ _ _ _ _ _ _ _ _ _ _ _ _ 95 [(9, .long (zL ((dg 1000000 (dn u) kk : Nat) : Int))), (0, .ref mo), (1, .int (zI (u : Int))), (2, .int (zI 1)), (3, .int (zI (i : Int))), (4, .int (zI 1)), (5, .int (zI ((ul (dg 10 (dn u % 1000000 ^ kk)) 108 : Nat) : Int))), (6, .long (zL (lb : Int))), (8, .int (zI (kk : Int)))] [.int (zI (mm : Int)), .int (zI (6 * (kk : Int)))] [oM mo th mw (nv : Int) mg ma mb (ns : Int) mlo mhi (nw : Int) mwe mru mrd, aL cL mb 800 (moA dn)]
                  refine z_iadd S d_M_digit_95 ?_
                  refine z_topi (fun x23 ex23 => ?_)
                  refine z_istore (lv' := [(5, .int (zI x23)), (9, .long (zL ((dg 1000000 (dn u) kk : Nat) : Int))), (0, .ref mo), (1, .int (zI (u : Int))), (2, .int (zI 1)), (3, .int (zI (i : Int))), (4, .int (zI 1)), (6, .long (zL (lb : Int))), (8, .int (zI (kk : Int)))]) S d_M_digit_96 (by decide) rfl ?_
                  refine z_iload_n S d_M_digit_98 5 rfl ?_
                  refine z_if_lt (tgt := 115) S d_M_digit_99 (by decide) (by omega) (fun c24 => ?_) (fun c24 => ?_)
                  · skip
                    omega
                  · skip
                    refine z_iload S d_M_digit_102 8 rfl ?_
                    refine z_iload_n S d_M_digit_104 5 rfl ?_
                    refine z_bipush S d_M_digit_105 rfl ?_
                    refine z_idiv S d_M_digit_107 (by omega) (by omega) ?_
                    refine z_icmp_ne (tgt := 115) S d_M_digit_108 (by decide) (by omega) (by omega) (fun c25 => ?_) (fun c25 => ?_)
                    · skip
                      refine z_iinc (y := ((kk + 1 : Nat) : Int)) (lv' := [(8, .int (zI ((kk + 1 : Nat) : Int))), (5, .int (zI x23)), (9, .long (zL ((dg 1000000 (dn u) kk : Nat) : Int))), (0, .ref mo), (1, .int (zI (u : Int))), (2, .int (zI 1)), (3, .int (zI (i : Int))), (4, .int (zI 1)), (6, .long (zL (lb : Int)))]) S d_M_digit_115 8 rfl (by omega) (by decide) rfl ?_
                      have hdd : ul (dg 10 (dn u % 1000000 ^ (kk + 1))) 108 = 6 * kk + mm := nd_step f1 f2 f3 (by omega)
                      refine z_goto (tgt := 33) S d_M_digit_118 (by decide) ?_
                      refine z_lv (lv' := [(0, .ref mo), (1, .int (zI (u : Int))), (2, .int (zI 1)), (3, .int (zI (i : Int))), (4, .int (zI 1)), (5, .int (zI x23)), (6, .long (zL (lb : Int))), (8, .int (zI ((kk + 1 : Nat) : Int)))]) [3, 4, 5, 6, 7, 1, 8, 0] rfl ?_
                      refine z_lq (lv' := [(0, .ref mo), (1, .int (zI (u : Int))), (2, .int (zI 1)), (3, .int (zI (i : Int))), (4, .int (zI 1)), (5, .int (zI ((ul (dg 10 (dn u % 1000000 ^ (kk + 1))) 108 : Nat) : Int))), (6, .long (zL (lb : Int))), (8, .int (zI ((kk + 1 : Nat) : Int)))]) (congrArg (fun zzz : Int => ([(0, .ref mo), (1, .int (zI (u : Int))), (2, .int (zI 1)), (3, .int (zI (i : Int))), (4, .int (zI 1)), (5, .int (zI zzz)), (6, .long (zL (lb : Int))), (8, .int (zI ((kk + 1 : Nat) : Int)))] : List (Nat × Value))) (show (x23 : Int) = ((ul (dg 10 (dn u % 1000000 ^ (kk + 1))) 108 : Nat) : Int) by omega)) ?_
                      exact ih33 ((kk + 1), lb) (show ((kk + 1) ≤ 8) ∧ (i / 6 < (kk + 1) → lb = dg 1000000 (dn u) (i / 6)) from ⟨by omega, fun z => hlb (by omega)⟩) (show 8 - (kk + 1) < 8 - kk from by omega)
                    · skip
                      refine z_lload S d_M_digit_111 1 rfl ?_
                      refine z_lstore (lv' := [(6, .long (zL ((dg 1000000 (dn u) kk : Nat) : Int))), (5, .int (zI x23)), (9, .long (zL ((dg 1000000 (dn u) kk : Nat) : Int))), (0, .ref mo), (1, .int (zI (u : Int))), (2, .int (zI 1)), (3, .int (zI (i : Int))), (4, .int (zI 1)), (8, .int (zI (kk : Int)))]) S d_M_digit_113 (by decide) rfl ?_
                      refine z_iinc (y := ((kk + 1 : Nat) : Int)) (lv' := [(8, .int (zI ((kk + 1 : Nat) : Int))), (6, .long (zL ((dg 1000000 (dn u) kk : Nat) : Int))), (5, .int (zI x23)), (9, .long (zL ((dg 1000000 (dn u) kk : Nat) : Int))), (0, .ref mo), (1, .int (zI (u : Int))), (2, .int (zI 1)), (3, .int (zI (i : Int))), (4, .int (zI 1))]) S d_M_digit_115 8 rfl (by omega) (by decide) rfl ?_
                      have hdd : ul (dg 10 (dn u % 1000000 ^ (kk + 1))) 108 = 6 * kk + mm := nd_step f1 f2 f3 (by omega)
                      refine z_goto (tgt := 33) S d_M_digit_118 (by decide) ?_
                      refine z_lv (lv' := [(0, .ref mo), (1, .int (zI (u : Int))), (2, .int (zI 1)), (3, .int (zI (i : Int))), (4, .int (zI 1)), (5, .int (zI x23)), (6, .long (zL ((dg 1000000 (dn u) kk : Nat) : Int))), (8, .int (zI ((kk + 1 : Nat) : Int)))]) [4, 5, 6, 7, 8, 2, 1, 0] rfl ?_
                      refine z_lq (lv' := [(0, .ref mo), (1, .int (zI (u : Int))), (2, .int (zI 1)), (3, .int (zI (i : Int))), (4, .int (zI 1)), (5, .int (zI ((ul (dg 10 (dn u % 1000000 ^ (kk + 1))) 108 : Nat) : Int))), (6, .long (zL ((dg 1000000 (dn u) kk : Nat) : Int))), (8, .int (zI ((kk + 1 : Nat) : Int)))]) (congrArg (fun zzz : Int => ([(0, .ref mo), (1, .int (zI (u : Int))), (2, .int (zI 1)), (3, .int (zI (i : Int))), (4, .int (zI 1)), (5, .int (zI zzz)), (6, .long (zL ((dg 1000000 (dn u) kk : Nat) : Int))), (8, .int (zI ((kk + 1 : Nat) : Int)))] : List (Nat × Value))) (show (x23 : Int) = ((ul (dg 10 (dn u % 1000000 ^ (kk + 1))) 108 : Nat) : Int) by omega)) ?_
                      exact ih33 ((kk + 1), (dg 1000000 (dn u) kk)) (show ((kk + 1) ≤ 8) ∧ (i / 6 < (kk + 1) → (dg 1000000 (dn u) kk) = dg 1000000 (dn u) (i / 6)) from ⟨by omega, fun _ => by rw [show i / 6 = kk by omega]⟩) (show 8 - (kk + 1) < 8 - kk from by omega)
              · skip
                exact absurd c19 (by omega)
set_option maxHeartbeats 4000000 in
set_option maxRecDepth 100000 in
theorem f1b_M_digit1 (l : Launch) (dC : Nat → ClassId) (dI : Nat → Nat → Nat) (cI cL : ClassId) (qT : Nat) (mo : Nat) (mw : Nat) (nv : Nat) (ma : Nat) (mb : Nat) (ns : Nat) (mlo : Nat) (mhi : Nat) (nw : Nat) (mwe : Nat) (mru : Nat) (mrd : Nat) (th : Int) (mg : Nat) (dn : Nat → Nat) (u : Nat) (i : Int) (hnv : nv ≤ 100) (hu : u < nv) (hb : dn u < 10 ^ 48) (hir : -2147483648 ≤ i ∧ i < 2147483648) (hi : ¬ (0 ≤ i ∧ i < ((nd (dn u) : Nat) : Int))) : Ct l y_M_digit (Cond.code y_M_digit c_M_digit 11 (some .int) :: zB) { frames := 1, cells := 0, slots := 0, locals := 24 } (dC, dI) zcl [(cI, .int), (cL, .long)] (zG cI cL qT) [.ref mo, .int (zI (u : Int)), .int (zI 1), .int (zI i)] [oM mo th mw (nv : Int) mg ma mb (ns : Int) mlo mhi (nw : Int) mwe mru mrd, aL cL mb 800 (moA dn)] (fun rv wv => rv = .int (zI 0) ∧ wv = [oM mo 1 mw (nv : Int) mg ma mb (ns : Int) mlo mhi (nw : Int) mwe mru mrd, aL cL mb 800 (moA dn)]) 0 0 := by
  refine Cm.ofZ (cc := c_M_digit) (maxL := 11) (ret := (some .int)) (by decide) rfl (Nat.le_of_ble_eq_true rfl) rfl ?_
  intro p e s m below meth c A S hr hlo hnm hK hg hA hAe
  have hGok := zG_ok cI cL qT
  show ZZ _ _ _ _ _ _ _ _ _ _ _ _ _ _ _ _ _ _ 0 [(0, .ref mo), (1, .int (zI (u : Int))), (2, .int (zI 1)), (3, .int (zI i))] [] [oM mo th mw (nv : Int) mg ma mb (ns : Int) mlo mhi (nw : Int) mwe mru mrd, aL cL mb 800 (moA dn)]
  have hn48 := nd_48' hb
  have hz00 : ul (dg 10 (dn u % 1000000 ^ 0)) 108 = 0 := by rw [Nat.pow_zero, Nat.mod_one]; decide
  refine z_aload_n S d_M_digit_0 0 rfl ?_
  refine z_iload_n S d_M_digit_1 1 rfl ?_
  refine z_callVa (As := [.int (zI (u : Int))]) (st := []) (wc := [oM mo th mw (nv : Int) mg ma mb (ns : Int) mlo mhi (nw : Int) mwe mru mrd]) (wr := [aL cL mb 800 (moA dn)]) S hGok hK hg hA (s_M_isValue l dC dI cI cL qT mo mw nv ma mb ns mlo mhi nw mwe mru mrd th mg (u : Int) (by omega) (by omega)) (zcwV S (List.mem_cons_of_mem _ k_M_125) mV_M_isValue k_M_125 hd_M_isValue rfl rfl ⟨Nat.le_of_ble_eq_true rfl, Nat.le_of_ble_eq_true rfl⟩) rfl (Nat.le_of_ble_eq_true rfl) d_M_digit_2 ⟨Nat.le_of_ble_eq_true rfl, Nat.le_of_ble_eq_true rfl⟩ rfl [0] [1] 0 rfl rfl rfl (by decide) rfl rfl rfl (by decide) (by decide) (fun x w hp => ?_)
  obtain ⟨rfl, rfl⟩ := hp
  show ZZ _ _ _ _ _ _ _ _ _ _ _ _ _ _ _ _ _ _ 5 [(0, .ref mo), (1, .int (zI (u : Int))), (2, .int (zI 1)), (3, .int (zI i))] [.int (zI (b2 (0 ≤ (u : Int) ∧ (u : Int) < (nv : Int))))] [aL cL mb 800 (moA dn), oM mo th mw (nv : Int) mg ma mb (ns : Int) mlo mhi (nw : Int) mwe mru mrd]
  refine z_toi (a := 1) (zI_c (b2_t ⟨by omega, by omega⟩)) ?_
  refine z_if_eq (tgt := 21) S d_M_digit_5 (by decide) (by omega) (fun c1 => ?_) (fun c1 => ?_)
  · skip
    exact absurd c1 (by omega)
  · skip
    refine z_iload_n S d_M_digit_8 2 rfl ?_
    refine z_if_lt (tgt := 21) S d_M_digit_9 (by decide) (by omega) (fun c2 => ?_) (fun c2 => ?_)
    · skip
      exact absurd c2 (by omega)
    · skip
      refine z_iload_n S d_M_digit_12 2 rfl ?_
      refine z_iconst S d_M_digit_13 ?_
      refine z_icmp_gt (tgt := 21) S d_M_digit_14 (by decide) (by omega) (by omega) (fun c3 => ?_) (fun c3 => ?_)
      · skip
        exact absurd c3 (by omega)
      · skip
        refine z_iconst S d_M_digit_17 ?_
        refine z_goto (tgt := 22) S d_M_digit_18 (by decide) ?_
        refine z_istore (lv' := [(4, .int (zI 1)), (0, .ref mo), (1, .int (zI (u : Int))), (2, .int (zI 1)), (3, .int (zI i))]) S d_M_digit_22 (by decide) rfl ?_
        refine z_iconst S d_M_digit_24 ?_
        refine z_istore (lv' := [(5, .int (zI 0)), (4, .int (zI 1)), (0, .ref mo), (1, .int (zI (u : Int))), (2, .int (zI 1)), (3, .int (zI i))]) S d_M_digit_25 (by decide) rfl ?_
        refine z_lconst (z := 0) S d_M_digit_27 rfl ?_
        refine z_lstore (lv' := [(6, .long (zL 0)), (5, .int (zI 0)), (4, .int (zI 1)), (0, .ref mo), (1, .int (zI (u : Int))), (2, .int (zI 1)), (3, .int (zI i))]) S d_M_digit_28 (by decide) rfl ?_
        refine z_iconst S d_M_digit_30 ?_
        refine z_istore (lv' := [(8, .int (zI 0)), (6, .long (zL 0)), (5, .int (zI 0)), (4, .int (zI 1)), (0, .ref mo), (1, .int (zI (u : Int))), (2, .int (zI 1)), (3, .int (zI i))]) S d_M_digit_31 (by decide) rfl ?_
        refine z_lv (lv' := [(0, .ref mo), (1, .int (zI (u : Int))), (2, .int (zI 1)), (3, .int (zI i)), (4, .int (zI 1)), (5, .int (zI 0)), (6, .long (zL 0)), (8, .int (zI 0))]) [4, 5, 6, 7, 3, 2, 1, 0] rfl ?_
        refine z_ws (ws' := [oM mo th mw (nv : Int) mg ma mb (ns : Int) mlo mhi (nw : Int) mwe mru mrd, aL cL mb 800 (moA dn)]) [1, 0] (by decide) rfl rfl ?_
        refine z_lq (lv' := [(0, .ref mo), (1, .int (zI (u : Int))), (2, .int (zI 1)), (3, .int (zI i)), (4, .int (zI 1)), (5, .int (zI ((ul (dg 10 (dn u % 1000000 ^ 0)) 108 : Nat) : Int))), (6, .long (zL ((0 : Nat) : Int))), (8, .int (zI ((0 : Nat) : Int)))]) (Eq.trans (Eq.trans ((congrArg (fun zzz : Int => ([(0, .ref mo), (1, .int (zI (u : Int))), (2, .int (zI 1)), (3, .int (zI i)), (4, .int (zI 1)), (5, .int (zI zzz)), (6, .long (zL 0)), (8, .int (zI 0))] : List (Nat × Value))) (show (0 : Int) = ((ul (dg 10 (dn u % 1000000 ^ 0)) 108 : Nat) : Int) by omega))) (congrArg (fun zzz : Int => ([(0, .ref mo), (1, .int (zI (u : Int))), (2, .int (zI 1)), (3, .int (zI i)), (4, .int (zI 1)), (5, .int (zI ((ul (dg 10 (dn u % 1000000 ^ 0)) 108 : Nat) : Int))), (6, .long (zL zzz)), (8, .int (zI 0))] : List (Nat × Value))) (show (0 : Int) = ((0 : Nat) : Int) by omega))) (congrArg (fun zzz : Int => ([(0, .ref mo), (1, .int (zI (u : Int))), (2, .int (zI 1)), (3, .int (zI i)), (4, .int (zI 1)), (5, .int (zI ((ul (dg 10 (dn u % 1000000 ^ 0)) 108 : Nat) : Int))), (6, .long (zL ((0 : Nat) : Int))), (8, .int (zI zzz))] : List (Nat × Value))) (show (0 : Int) = ((0 : Nat) : Int) by omega))) ?_
        refine z_loop (I := fun (zz : Nat × Nat) => match zz with | (kk, lb) => (kk ≤ 8)) (μ := fun (zz : Nat × Nat) => match zz with | (kk, lb) => 8 - kk) (LV := fun (zz : Nat × Nat) => match zz with | (kk, lb) => [(0, .ref mo), (1, .int (zI (u : Int))), (2, .int (zI 1)), (3, .int (zI i)), (4, .int (zI 1)), (5, .int (zI ((ul (dg 10 (dn u % 1000000 ^ kk)) 108 : Nat) : Int))), (6, .long (zL (lb : Int))), (8, .int (zI (kk : Int)))]) (WS := fun (zz : Nat × Nat) => match zz with | (kk, lb) => [oM mo th mw (nv : Int) mg ma mb (ns : Int) mlo mhi (nw : Int) mwe mru mrd, aL cL mb 800 (moA dn)]) (a := (0, 0)) ?_ ?_
        · exact (show (0 ≤ 8) from by omega)
        · intro ⟨kk, lb⟩ hI ih33
          have hkk : kk ≤ 8 := hI
          show ZZ _ _ _ _ _ _ _ _ _ _ _ _ _ _ _ _ _ _ 33 [(0, .ref mo), (1, .int (zI (u : Int))), (2, .int (zI 1)), (3, .int (zI i)), (4, .int (zI 1)), (5, .int (zI ((ul (dg 10 (dn u % 1000000 ^ kk)) 108 : Nat) : Int))), (6, .long (zL (lb : Int))), (8, .int (zI (kk : Int)))] [] [oM mo th mw (nv : Int) mg ma mb (ns : Int) mlo mhi (nw : Int) mwe mru mrd, aL cL mb 800 (moA dn)]
          refine z_iload S d_M_digit_33 7 rfl ?_
          refine z_bipush S d_M_digit_35 rfl ?_
          refine z_icmp_ge (tgt := 121) S d_M_digit_37 (by decide) (by omega) (by omega) (fun c4 => ?_) (fun c4 => ?_)
          · skip
            have hur := ul_le (dg 10 (dn u % 1000000 ^ kk)) 108
            refine z_iload S d_M_digit_121 5 rfl ?_
            refine z_if_ne (tgt := 129) S d_M_digit_123 (by decide) (by omega) (fun c5 => ?_) (fun c5 => ?_)
            · skip
              have hk8 : kk = 8 := by omega
              have hm8 : dn u % 1000000 ^ kk = dn u := by rw [hk8]; exact Nat.mod_eq_of_lt (by rw [← e48]; exact hb)
              have hu0 := ul_0 (b := 10) (v := dn u) (n := 108) (by decide) (Nat.lt_of_lt_of_le hb (by decide))
              have hndr := nd_48' hb
              have hc := c5
              rw [hm8] at hc
              have hnd : nd (dn u) = ul (dg 10 (dn u % 1000000 ^ kk)) 108 := by rw [hm8]; unfold nd; rw [if_neg (by omega)]
              refine z_lq (lv' := [(0, .ref mo), (1, .int (zI (u : Int))), (2, .int (zI 1)), (3, .int (zI i)), (4, .int (zI 1)), (5, .int (zI ((nd (dn u) : Nat) : Int))), (6, .long (zL (lb : Int))), (8, .int (zI (kk : Int)))]) (by rw [hnd]) ?_
              refine z_aload_n S d_M_digit_129 0 rfl ?_
              refine z_iload S d_M_digit_130 4 rfl ?_
              refine z_if_eq (tgt := 149) S d_M_digit_132 (by decide) (by omega) (fun c6 => ?_) (fun c6 => ?_)
              · skip
                exact absurd c6 (by omega)
              · skip
                refine z_iload_n S d_M_digit_135 3 rfl ?_
                refine z_if_lt (tgt := 149) S d_M_digit_136 (by decide) (by omega) (fun c7 => ?_) (fun c7 => ?_)
                · skip
                  refine z_iconst S d_M_digit_149 ?_
                  refine z_iconst S d_M_digit_150 ?_
                  refine z_iconst S d_M_digit_151 ?_
                  refine z_callVa (As := [.int (zI 0), .int (zI 1), .int (zI 1)]) (st := []) (wc := [oM mo th mw (nv : Int) mg ma mb (ns : Int) mlo mhi (nw : Int) mwe mru mrd]) (wr := [aL cL mb 800 (moA dn)]) S hGok hK hg hA (s_M_goes l dC dI cI cL qT mo mw nv ma mb ns mlo mhi nw mwe mru mrd th mg 0 1 1 (by omega) (by omega) (by omega)) (zcwV S (List.mem_cons_of_mem _ k_M_118) mV_M_goes k_M_118 hd_M_goes rfl rfl ⟨Nat.le_of_ble_eq_true rfl, Nat.le_of_ble_eq_true rfl⟩) rfl (Nat.le_of_ble_eq_true rfl) d_M_digit_152 ⟨Nat.le_of_ble_eq_true rfl, Nat.le_of_ble_eq_true rfl⟩ rfl [0] [1] 0 rfl rfl rfl (by decide) rfl rfl rfl (by decide) (by decide) (fun x w hp => ?_)
                  obtain ⟨rfl, rfl⟩ := hp
                  show ZZ _ _ _ _ _ _ _ _ _ _ _ _ _ _ _ _ _ _ 155 [(0, .ref mo), (1, .int (zI (u : Int))), (2, .int (zI 1)), (3, .int (zI i)), (4, .int (zI 1)), (5, .int (zI ((nd (dn u) : Nat) : Int))), (6, .long (zL (lb : Int))), (8, .int (zI (kk : Int)))] [.int (zI (b2 (gth 0 1 1 = 0)))] [aL cL mb 800 (moA dn), oM mo (gth 0 1 1) mw (nv : Int) mg ma mb (ns : Int) mlo mhi (nw : Int) mwe mru mrd]
                  refine z_toi (a := 0) rfl ?_
                  refine z_wq (ws' := [aL cL mb 800 (moA dn), oM mo 1 mw (nv : Int) mg ma mb (ns : Int) mlo mhi (nw : Int) mwe mru mrd]) rfl ?_
                  refine z_if_ne (tgt := 160) S d_M_digit_155 (by decide) (by omega) (fun c8 => ?_) (fun c8 => ?_)
                  · skip
                    exact absurd c8 (by omega)
                  · skip
                    refine z_iconst S d_M_digit_158 ?_
                    exact z_iret (w := [oM mo 1 mw (nv : Int) mg ma mb (ns : Int) mlo mhi (nw : Int) mwe mru mrd, aL cL mb 800 (moA dn)]) S hr hlo hAe d_M_digit_159 [1, 0] (by decide) rfl rfl ⟨Nat.le_refl _, Nat.le_refl _⟩ (⟨rfl, rfl⟩)
                · skip
                  refine z_iload_n S d_M_digit_139 3 rfl ?_
                  refine z_iload S d_M_digit_140 5 rfl ?_
                  refine z_icmp_ge (tgt := 149) S d_M_digit_142 (by decide) (by omega) (by omega) (fun c9 => ?_) (fun c9 => ?_)
                  · skip
                    refine z_iconst S d_M_digit_149 ?_
                    refine z_iconst S d_M_digit_150 ?_
                    refine z_iconst S d_M_digit_151 ?_
                    refine z_callVa (As := [.int (zI 0), .int (zI 1), .int (zI 1)]) (st := []) (wc := [oM mo th mw (nv : Int) mg ma mb (ns : Int) mlo mhi (nw : Int) mwe mru mrd]) (wr := [aL cL mb 800 (moA dn)]) S hGok hK hg hA (s_M_goes l dC dI cI cL qT mo mw nv ma mb ns mlo mhi nw mwe mru mrd th mg 0 1 1 (by omega) (by omega) (by omega)) (zcwV S (List.mem_cons_of_mem _ k_M_118) mV_M_goes k_M_118 hd_M_goes rfl rfl ⟨Nat.le_of_ble_eq_true rfl, Nat.le_of_ble_eq_true rfl⟩) rfl (Nat.le_of_ble_eq_true rfl) d_M_digit_152 ⟨Nat.le_of_ble_eq_true rfl, Nat.le_of_ble_eq_true rfl⟩ rfl [0] [1] 0 rfl rfl rfl (by decide) rfl rfl rfl (by decide) (by decide) (fun x w hp => ?_)
                    obtain ⟨rfl, rfl⟩ := hp
                    show ZZ _ _ _ _ _ _ _ _ _ _ _ _ _ _ _ _ _ _ 155 [(0, .ref mo), (1, .int (zI (u : Int))), (2, .int (zI 1)), (3, .int (zI i)), (4, .int (zI 1)), (5, .int (zI ((nd (dn u) : Nat) : Int))), (6, .long (zL (lb : Int))), (8, .int (zI (kk : Int)))] [.int (zI (b2 (gth 0 1 1 = 0)))] [aL cL mb 800 (moA dn), oM mo (gth 0 1 1) mw (nv : Int) mg ma mb (ns : Int) mlo mhi (nw : Int) mwe mru mrd]
                    refine z_toi (a := 0) rfl ?_
                    refine z_wq (ws' := [aL cL mb 800 (moA dn), oM mo 1 mw (nv : Int) mg ma mb (ns : Int) mlo mhi (nw : Int) mwe mru mrd]) rfl ?_
                    refine z_if_ne (tgt := 160) S d_M_digit_155 (by decide) (by omega) (fun c10 => ?_) (fun c10 => ?_)
                    · skip
                      exact absurd c10 (by omega)
                    · skip
                      refine z_iconst S d_M_digit_158 ?_
                      exact z_iret (w := [oM mo 1 mw (nv : Int) mg ma mb (ns : Int) mlo mhi (nw : Int) mwe mru mrd, aL cL mb 800 (moA dn)]) S hr hlo hAe d_M_digit_159 [1, 0] (by decide) rfl rfl ⟨Nat.le_refl _, Nat.le_refl _⟩ (⟨rfl, rfl⟩)
                  · skip
                    omega
            · skip
              refine z_iconst S d_M_digit_126 ?_
              refine z_istore (lv' := [(5, .int (zI 1)), (0, .ref mo), (1, .int (zI (u : Int))), (2, .int (zI 1)), (3, .int (zI i)), (4, .int (zI 1)), (6, .long (zL (lb : Int))), (8, .int (zI (kk : Int)))]) S d_M_digit_127 (by decide) rfl ?_
              have hk8 : kk = 8 := by omega
              have hm8 : dn u % 1000000 ^ kk = dn u := by rw [hk8]; exact Nat.mod_eq_of_lt (by rw [← e48]; exact hb)
              have hu0 := ul_0 (b := 10) (v := dn u) (n := 108) (by decide) (Nat.lt_of_lt_of_le hb (by decide))
              have hndr := nd_48' hb
              have hc := c5
              rw [hm8] at hc
              have hnd : nd (dn u) = 1 := by unfold nd; rw [if_pos (by omega)]
              refine z_lq (lv' := [(5, .int (zI ((nd (dn u) : Nat) : Int))), (0, .ref mo), (1, .int (zI (u : Int))), (2, .int (zI 1)), (3, .int (zI i)), (4, .int (zI 1)), (6, .long (zL (lb : Int))), (8, .int (zI (kk : Int)))]) (by rw [hnd]; rfl) ?_
              refine z_aload_n S d_M_digit_129 1 rfl ?_
              refine z_iload S d_M_digit_130 5 rfl ?_
              refine z_if_eq (tgt := 149) S d_M_digit_132 (by decide) (by omega) (fun c11 => ?_) (fun c11 => ?_)
              · skip
                exact absurd c11 (by omega)
              · skip
                refine z_iload_n S d_M_digit_135 4 rfl ?_
                refine z_if_lt (tgt := 149) S d_M_digit_136 (by decide) (by omega) (fun c12 => ?_) (fun c12 => ?_)
                · skip
                  refine z_iconst S d_M_digit_149 ?_
                  refine z_iconst S d_M_digit_150 ?_
                  refine z_iconst S d_M_digit_151 ?_
                  refine z_callVa (As := [.int (zI 0), .int (zI 1), .int (zI 1)]) (st := []) (wc := [oM mo th mw (nv : Int) mg ma mb (ns : Int) mlo mhi (nw : Int) mwe mru mrd]) (wr := [aL cL mb 800 (moA dn)]) S hGok hK hg hA (s_M_goes l dC dI cI cL qT mo mw nv ma mb ns mlo mhi nw mwe mru mrd th mg 0 1 1 (by omega) (by omega) (by omega)) (zcwV S (List.mem_cons_of_mem _ k_M_118) mV_M_goes k_M_118 hd_M_goes rfl rfl ⟨Nat.le_of_ble_eq_true rfl, Nat.le_of_ble_eq_true rfl⟩) rfl (Nat.le_of_ble_eq_true rfl) d_M_digit_152 ⟨Nat.le_of_ble_eq_true rfl, Nat.le_of_ble_eq_true rfl⟩ rfl [0] [1] 0 rfl rfl rfl (by decide) rfl rfl rfl (by decide) (by decide) (fun x w hp => ?_)
                  obtain ⟨rfl, rfl⟩ := hp
                  show ZZ _ _ _ _ _ _ _ _ _ _ _ _ _ _ _ _ _ _ 155 [(5, .int (zI ((nd (dn u) : Nat) : Int))), (0, .ref mo), (1, .int (zI (u : Int))), (2, .int (zI 1)), (3, .int (zI i)), (4, .int (zI 1)), (6, .long (zL (lb : Int))), (8, .int (zI (kk : Int)))] [.int (zI (b2 (gth 0 1 1 = 0)))] [aL cL mb 800 (moA dn), oM mo (gth 0 1 1) mw (nv : Int) mg ma mb (ns : Int) mlo mhi (nw : Int) mwe mru mrd]
                  refine z_toi (a := 0) rfl ?_
                  refine z_wq (ws' := [aL cL mb 800 (moA dn), oM mo 1 mw (nv : Int) mg ma mb (ns : Int) mlo mhi (nw : Int) mwe mru mrd]) rfl ?_
                  refine z_if_ne (tgt := 160) S d_M_digit_155 (by decide) (by omega) (fun c13 => ?_) (fun c13 => ?_)
                  · skip
                    exact absurd c13 (by omega)
                  · skip
                    refine z_iconst S d_M_digit_158 ?_
                    exact z_iret (w := [oM mo 1 mw (nv : Int) mg ma mb (ns : Int) mlo mhi (nw : Int) mwe mru mrd, aL cL mb 800 (moA dn)]) S hr hlo hAe d_M_digit_159 [1, 0] (by decide) rfl rfl ⟨Nat.le_refl _, Nat.le_refl _⟩ (⟨rfl, rfl⟩)
                · skip
                  refine z_iload_n S d_M_digit_139 4 rfl ?_
                  refine z_iload S d_M_digit_140 0 rfl ?_
                  refine z_icmp_ge (tgt := 149) S d_M_digit_142 (by decide) (by omega) (by omega) (fun c14 => ?_) (fun c14 => ?_)
                  · skip
                    refine z_iconst S d_M_digit_149 ?_
                    refine z_iconst S d_M_digit_150 ?_
                    refine z_iconst S d_M_digit_151 ?_
                    refine z_callVa (As := [.int (zI 0), .int (zI 1), .int (zI 1)]) (st := []) (wc := [oM mo th mw (nv : Int) mg ma mb (ns : Int) mlo mhi (nw : Int) mwe mru mrd]) (wr := [aL cL mb 800 (moA dn)]) S hGok hK hg hA (s_M_goes l dC dI cI cL qT mo mw nv ma mb ns mlo mhi nw mwe mru mrd th mg 0 1 1 (by omega) (by omega) (by omega)) (zcwV S (List.mem_cons_of_mem _ k_M_118) mV_M_goes k_M_118 hd_M_goes rfl rfl ⟨Nat.le_of_ble_eq_true rfl, Nat.le_of_ble_eq_true rfl⟩) rfl (Nat.le_of_ble_eq_true rfl) d_M_digit_152 ⟨Nat.le_of_ble_eq_true rfl, Nat.le_of_ble_eq_true rfl⟩ rfl [0] [1] 0 rfl rfl rfl (by decide) rfl rfl rfl (by decide) (by decide) (fun x w hp => ?_)
                    obtain ⟨rfl, rfl⟩ := hp
                    show ZZ _ _ _ _ _ _ _ _ _ _ _ _ _ _ _ _ _ _ 155 [(5, .int (zI ((nd (dn u) : Nat) : Int))), (0, .ref mo), (1, .int (zI (u : Int))), (2, .int (zI 1)), (3, .int (zI i)), (4, .int (zI 1)), (6, .long (zL (lb : Int))), (8, .int (zI (kk : Int)))] [.int (zI (b2 (gth 0 1 1 = 0)))] [aL cL mb 800 (moA dn), oM mo (gth 0 1 1) mw (nv : Int) mg ma mb (ns : Int) mlo mhi (nw : Int) mwe mru mrd]
                    refine z_toi (a := 0) rfl ?_
                    refine z_wq (ws' := [aL cL mb 800 (moA dn), oM mo 1 mw (nv : Int) mg ma mb (ns : Int) mlo mhi (nw : Int) mwe mru mrd]) rfl ?_
                    refine z_if_ne (tgt := 160) S d_M_digit_155 (by decide) (by omega) (fun c15 => ?_) (fun c15 => ?_)
                    · skip
                      exact absurd c15 (by omega)
                    · skip
                      refine z_iconst S d_M_digit_158 ?_
                      exact z_iret (w := [oM mo 1 mw (nv : Int) mg ma mb (ns : Int) mlo mhi (nw : Int) mwe mru mrd, aL cL mb 800 (moA dn)]) S hr hlo hAe d_M_digit_159 [1, 0] (by decide) rfl rfl ⟨Nat.le_refl _, Nat.le_refl _⟩ (⟨rfl, rfl⟩)
                  · skip
                    omega
          · skip
            have hur := ul_le (dg 10 (dn u % 1000000 ^ kk)) 108
            refine z_iload S d_M_digit_40 4 rfl ?_
            refine z_if_eq (tgt := 121) S d_M_digit_42 (by decide) (by omega) (fun c16 => ?_) (fun c16 => ?_)
            · skip
              exact absurd c16 (by omega)
            · skip
              have l1 := dg_lt (b := 1000000) (by decide) (dn u) (kk)
              refine z_iload_n S d_M_digit_45 2 rfl ?_
              refine z_if_ne (tgt := 64) S d_M_digit_46 (by decide) (by omega) (fun c17 => ?_) (fun c17 => ?_)
              · skip
                refine z_aload_n S d_M_digit_64 0 rfl ?_
                refine z_get S hK la_M 0 rfl rfl 5 (by decide) k_M_20 rfl d_M_digit_65 ?_
                refine z_bipush S d_M_digit_68 rfl ?_
                refine z_iload_n S d_M_digit_70 1 rfl ?_
                refine z_imul S d_M_digit_71 ?_
                refine z_iload S d_M_digit_72 7 rfl ?_
                refine z_iadd S d_M_digit_74 ?_
                refine z_lald (x := ((dg 1000000 (dn u) kk : Nat) : Int)) S hK 1 1 rfl rfl (8 * u + kk) (by omega) (by omega) (by decide) (moA_at dn (by omega)) d_M_digit_75 ?_
                refine z_lstore (lv' := [(9, .long (zL ((dg 1000000 (dn u) kk : Nat) : Int))), (0, .ref mo), (1, .int (zI (u : Int))), (2, .int (zI 1)), (3, .int (zI i)), (4, .int (zI 1)), (5, .int (zI ((ul (dg 10 (dn u % 1000000 ^ kk)) 108 : Nat) : Int))), (6, .long (zL (lb : Int))), (8, .int (zI (kk : Int)))]) S d_M_digit_76 (by decide) rfl ?_
                refine z_lload S d_M_digit_78 0 rfl ?_
                refine z_lconst (z := 0) S d_M_digit_80 rfl ?_
                refine z_lcmp_le (tgt := 98) S d_M_digit_81 d_M_digit_82 (by decide) (by omega) (by omega) (fun c18 => ?_) (fun c18 => ?_)
                · skip
                  refine z_iload_n S d_M_digit_98 4 rfl ?_
                  refine z_if_lt (tgt := 115) S d_M_digit_99 (by decide) (by omega) (fun c19 => ?_) (fun c19 => ?_)
                  · skip
                    refine z_iinc (y := ((kk + 1 : Nat) : Int)) (lv' := [(8, .int (zI ((kk + 1 : Nat) : Int))), (9, .long (zL ((dg 1000000 (dn u) kk : Nat) : Int))), (0, .ref mo), (1, .int (zI (u : Int))), (2, .int (zI 1)), (3, .int (zI i)), (4, .int (zI 1)), (5, .int (zI ((ul (dg 10 (dn u % 1000000 ^ kk)) 108 : Nat) : Int))), (6, .long (zL (lb : Int)))]) S d_M_digit_115 8 rfl (by omega) (by decide) rfl ?_
                    have hdd : ul (dg 10 (dn u % 1000000 ^ (kk + 1))) 108 = ul (dg 10 (dn u % 1000000 ^ kk)) 108 := by rw [md_s, show dg 1000000 (dn u) kk = 0 by omega, Nat.zero_mul, Nat.add_zero]
                    refine z_goto (tgt := 33) S d_M_digit_118 (by decide) ?_
                    refine z_lv (lv' := [(0, .ref mo), (1, .int (zI (u : Int))), (2, .int (zI 1)), (3, .int (zI i)), (4, .int (zI 1)), (5, .int (zI ((ul (dg 10 (dn u % 1000000 ^ kk)) 108 : Nat) : Int))), (6, .long (zL (lb : Int))), (8, .int (zI ((kk + 1 : Nat) : Int)))]) [2, 3, 4, 5, 6, 7, 8, 0] rfl ?_
                    refine z_lq (lv' := [(0, .ref mo), (1, .int (zI (u : Int))), (2, .int (zI 1)), (3, .int (zI i)), (4, .int (zI 1)), (5, .int (zI ((ul (dg 10 (dn u % 1000000 ^ (kk + 1))) 108 : Nat) : Int))), (6, .long (zL (lb : Int))), (8, .int (zI ((kk + 1 : Nat) : Int)))]) (congrArg (fun zzz : Int => ([(0, .ref mo), (1, .int (zI (u : Int))), (2, .int (zI 1)), (3, .int (zI i)), (4, .int (zI 1)), (5, .int (zI zzz)), (6, .long (zL (lb : Int))), (8, .int (zI ((kk + 1 : Nat) : Int)))] : List (Nat × Value))) (show (((ul (dg 10 (dn u % 1000000 ^ kk)) 108 : Nat) : Int) : Int) = ((ul (dg 10 (dn u % 1000000 ^ (kk + 1))) 108 : Nat) : Int) by omega)) ?_
                    exact ih33 ((kk + 1), lb) (show ((kk + 1) ≤ 8) from by omega) (show 8 - (kk + 1) < 8 - kk from by omega)
                  · skip
                    refine z_iload S d_M_digit_102 8 rfl ?_
                    refine z_iload_n S d_M_digit_104 4 rfl ?_
                    refine z_bipush S d_M_digit_105 rfl ?_
                    refine z_idiv S d_M_digit_107 (by omega) (by omega) ?_
                    refine z_icmp_ne (tgt := 115) S d_M_digit_108 (by decide) (by omega) (by omega) (fun c20 => ?_) (fun c20 => ?_)
                    · skip
                      refine z_iinc (y := ((kk + 1 : Nat) : Int)) (lv' := [(8, .int (zI ((kk + 1 : Nat) : Int))), (9, .long (zL ((dg 1000000 (dn u) kk : Nat) : Int))), (0, .ref mo), (1, .int (zI (u : Int))), (2, .int (zI 1)), (3, .int (zI i)), (4, .int (zI 1)), (5, .int (zI ((ul (dg 10 (dn u % 1000000 ^ kk)) 108 : Nat) : Int))), (6, .long (zL (lb : Int)))]) S d_M_digit_115 8 rfl (by omega) (by decide) rfl ?_
                      have hdd : ul (dg 10 (dn u % 1000000 ^ (kk + 1))) 108 = ul (dg 10 (dn u % 1000000 ^ kk)) 108 := by rw [md_s, show dg 1000000 (dn u) kk = 0 by omega, Nat.zero_mul, Nat.add_zero]
                      refine z_goto (tgt := 33) S d_M_digit_118 (by decide) ?_
                      refine z_lv (lv' := [(0, .ref mo), (1, .int (zI (u : Int))), (2, .int (zI 1)), (3, .int (zI i)), (4, .int (zI 1)), (5, .int (zI ((ul (dg 10 (dn u % 1000000 ^ kk)) 108 : Nat) : Int))), (6, .long (zL (lb : Int))), (8, .int (zI ((kk + 1 : Nat) : Int)))]) [2, 3, 4, 5, 6, 7, 8, 0] rfl ?_
                      refine z_lq (lv' := [(0, .ref mo), (1, .int (zI (u : Int))), (2, .int (zI 1)), (3, .int (zI i)), (4, .int (zI 1)), (5, .int (zI ((ul (dg 10 (dn u % 1000000 ^ (kk + 1))) 108 : Nat) : Int))), (6, .long (zL (lb : Int))), (8, .int (zI ((kk + 1 : Nat) : Int)))]) (congrArg (fun zzz : Int => ([(0, .ref mo), (1, .int (zI (u : Int))), (2, .int (zI 1)), (3, .int (zI i)), (4, .int (zI 1)), (5, .int (zI zzz)), (6, .long (zL (lb : Int))), (8, .int (zI ((kk + 1 : Nat) : Int)))] : List (Nat × Value))) (show (((ul (dg 10 (dn u % 1000000 ^ kk)) 108 : Nat) : Int) : Int) = ((ul (dg 10 (dn u % 1000000 ^ (kk + 1))) 108 : Nat) : Int) by omega)) ?_
                      exact ih33 ((kk + 1), lb) (show ((kk + 1) ≤ 8) from by omega) (show 8 - (kk + 1) < 8 - kk from by omega)
                    · skip
                      refine z_lload S d_M_digit_111 0 rfl ?_
                      refine z_lstore (lv' := [(6, .long (zL ((dg 1000000 (dn u) kk : Nat) : Int))), (9, .long (zL ((dg 1000000 (dn u) kk : Nat) : Int))), (0, .ref mo), (1, .int (zI (u : Int))), (2, .int (zI 1)), (3, .int (zI i)), (4, .int (zI 1)), (5, .int (zI ((ul (dg 10 (dn u % 1000000 ^ kk)) 108 : Nat) : Int))), (8, .int (zI (kk : Int)))]) S d_M_digit_113 (by decide) rfl ?_
                      refine z_iinc (y := ((kk + 1 : Nat) : Int)) (lv' := [(8, .int (zI ((kk + 1 : Nat) : Int))), (6, .long (zL ((dg 1000000 (dn u) kk : Nat) : Int))), (9, .long (zL ((dg 1000000 (dn u) kk : Nat) : Int))), (0, .ref mo), (1, .int (zI (u : Int))), (2, .int (zI 1)), (3, .int (zI i)), (4, .int (zI 1)), (5, .int (zI ((ul (dg 10 (dn u % 1000000 ^ kk)) 108 : Nat) : Int)))]) S d_M_digit_115 8 rfl (by omega) (by decide) rfl ?_
                      have hdd : ul (dg 10 (dn u % 1000000 ^ (kk + 1))) 108 = ul (dg 10 (dn u % 1000000 ^ kk)) 108 := by rw [md_s, show dg 1000000 (dn u) kk = 0 by omega, Nat.zero_mul, Nat.add_zero]
                      refine z_goto (tgt := 33) S d_M_digit_118 (by decide) ?_
                      refine z_lv (lv' := [(0, .ref mo), (1, .int (zI (u : Int))), (2, .int (zI 1)), (3, .int (zI i)), (4, .int (zI 1)), (5, .int (zI ((ul (dg 10 (dn u % 1000000 ^ kk)) 108 : Nat) : Int))), (6, .long (zL ((dg 1000000 (dn u) kk : Nat) : Int))), (8, .int (zI ((kk + 1 : Nat) : Int)))]) [3, 4, 5, 6, 7, 8, 1, 0] rfl ?_
                      refine z_lq (lv' := [(0, .ref mo), (1, .int (zI (u : Int))), (2, .int (zI 1)), (3, .int (zI i)), (4, .int (zI 1)), (5, .int (zI ((ul (dg 10 (dn u % 1000000 ^ (kk + 1))) 108 : Nat) : Int))), (6, .long (zL ((dg 1000000 (dn u) kk : Nat) : Int))), (8, .int (zI ((kk + 1 : Nat) : Int)))]) (congrArg (fun zzz : Int => ([(0, .ref mo), (1, .int (zI (u : Int))), (2, .int (zI 1)), (3, .int (zI i)), (4, .int (zI 1)), (5, .int (zI zzz)), (6, .long (zL ((dg 1000000 (dn u) kk : Nat) : Int))), (8, .int (zI ((kk + 1 : Nat) : Int)))] : List (Nat × Value))) (show (((ul (dg 10 (dn u % 1000000 ^ kk)) 108 : Nat) : Int) : Int) = ((ul (dg 10 (dn u % 1000000 ^ (kk + 1))) 108 : Nat) : Int) by omega)) ?_
                      exact ih33 ((kk + 1), (dg 1000000 (dn u) kk)) (show ((kk + 1) ≤ 8) from by omega) (show 8 - (kk + 1) < 8 - kk from by omega)
                · skip
                  refine z_bipush S d_M_digit_85 rfl ?_
                  refine z_iload S d_M_digit_87 8 rfl ?_
                  refine z_imul S d_M_digit_89 ?_
                  refine z_lload S d_M_digit_90 0 rfl ?_
                  refine z_callSa (As := [.long (zL ((dg 1000000 (dn u) kk : Nat) : Int))]) (st := [.int (zI (6 * (kk : Int)))]) (wc := []) (wr := [oM mo th mw (nv : Int) mg ma mb (ns : Int) mlo mhi (nw : Int) mwe mru mrd, aL cL mb 800 (moA dn)]) S hGok hK hg hA (s_M_many l dC dI cI cL qT (dg 1000000 (dn u) kk) l1 (by omega)) (zcwS S k_M_155 mS_M_many hd_M_many rfl rfl ⟨Nat.le_of_ble_eq_true rfl, Nat.le_of_ble_eq_true rfl⟩) rfl (Nat.le_of_ble_eq_true rfl) d_M_digit_92 ⟨Nat.le_of_ble_eq_true rfl, Nat.le_of_ble_eq_true rfl⟩ rfl [] [0, 1] (by decide) rfl rfl rfl (by decide) (by decide) (fun x w hp => ?_)
                  obtain ⟨mm, f1, f2, f3, f4, rfl, rfl⟩ := hp
                  show ZZ _ _ _ _ _ _ _ _ _ _ _ _ _ _ _ _ _ _ 95 [(9, .long (zL ((dg 1000000 (dn u) kk : Nat) : Int))), (0, .ref mo), (1, .int (zI (u : Int))), (2, .int (zI 1)), (3, .int (zI i)), (4, .int (zI 1)), (5, .int (zI ((ul (dg 10 (dn u % 1000000 ^ kk)) 108 : Nat) : Int))), (6, .long (zL (lb : Int))), (8, .int (zI (kk : Int)))] [.int (zI (mm : Int)), .int (zI (6 * (kk : Int)))] [oM mo th mw (nv : Int) mg ma mb (ns : Int) mlo mhi (nw : Int) mwe mru mrd, aL cL mb 800 (moA dn)]
                  refine z_iadd S d_M_digit_95 ?_
                  refine z_topi (fun x21 ex21 => ?_)
                  refine z_istore (lv' := [(5, .int (zI x21)), (9, .long (zL ((dg 1000000 (dn u) kk : Nat) : Int))), (0, .ref mo), (1, .int (zI (u : Int))), (2, .int (zI 1)), (3, .int (zI i)), (4, .int (zI 1)), (6, .long (zL (lb : Int))), (8, .int (zI (kk : Int)))]) S d_M_digit_96 (by decide) rfl ?_
                  refine z_iload_n S d_M_digit_98 5 rfl ?_
                  refine z_if_lt (tgt := 115) S d_M_digit_99 (by decide) (by omega) (fun c22 => ?_) (fun c22 => ?_)
                  · skip
                    refine z_iinc (y := ((kk + 1 : Nat) : Int)) (lv' := [(8, .int (zI ((kk + 1 : Nat) : Int))), (5, .int (zI x21)), (9, .long (zL ((dg 1000000 (dn u) kk : Nat) : Int))), (0, .ref mo), (1, .int (zI (u : Int))), (2, .int (zI 1)), (3, .int (zI i)), (4, .int (zI 1)), (6, .long (zL (lb : Int)))]) S d_M_digit_115 8 rfl (by omega) (by decide) rfl ?_
                    have hdd : ul (dg 10 (dn u % 1000000 ^ (kk + 1))) 108 = 6 * kk + mm := nd_step f1 f2 f3 (by omega)
                    refine z_goto (tgt := 33) S d_M_digit_118 (by decide) ?_
                    refine z_lv (lv' := [(0, .ref mo), (1, .int (zI (u : Int))), (2, .int (zI 1)), (3, .int (zI i)), (4, .int (zI 1)), (5, .int (zI x21)), (6, .long (zL (lb : Int))), (8, .int (zI ((kk + 1 : Nat) : Int)))]) [3, 4, 5, 6, 7, 1, 8, 0] rfl ?_
                    refine z_lq (lv' := [(0, .ref mo), (1, .int (zI (u : Int))), (2, .int (zI 1)), (3, .int (zI i)), (4, .int (zI 1)), (5, .int (zI ((ul (dg 10 (dn u % 1000000 ^ (kk + 1))) 108 : Nat) : Int))), (6, .long (zL (lb : Int))), (8, .int (zI ((kk + 1 : Nat) : Int)))]) (congrArg (fun zzz : Int => ([(0, .ref mo), (1, .int (zI (u : Int))), (2, .int (zI 1)), (3, .int (zI i)), (4, .int (zI 1)), (5, .int (zI zzz)), (6, .long (zL (lb : Int))), (8, .int (zI ((kk + 1 : Nat) : Int)))] : List (Nat × Value))) (show (x21 : Int) = ((ul (dg 10 (dn u % 1000000 ^ (kk + 1))) 108 : Nat) : Int) by omega)) ?_
                    exact ih33 ((kk + 1), lb) (show ((kk + 1) ≤ 8) from by omega) (show 8 - (kk + 1) < 8 - kk from by omega)
                  · skip
                    refine z_iload S d_M_digit_102 8 rfl ?_
                    refine z_iload_n S d_M_digit_104 5 rfl ?_
                    refine z_bipush S d_M_digit_105 rfl ?_
                    refine z_idiv S d_M_digit_107 (by omega) (by omega) ?_
                    refine z_icmp_ne (tgt := 115) S d_M_digit_108 (by decide) (by omega) (by omega) (fun c23 => ?_) (fun c23 => ?_)
                    · skip
                      refine z_iinc (y := ((kk + 1 : Nat) : Int)) (lv' := [(8, .int (zI ((kk + 1 : Nat) : Int))), (5, .int (zI x21)), (9, .long (zL ((dg 1000000 (dn u) kk : Nat) : Int))), (0, .ref mo), (1, .int (zI (u : Int))), (2, .int (zI 1)), (3, .int (zI i)), (4, .int (zI 1)), (6, .long (zL (lb : Int)))]) S d_M_digit_115 8 rfl (by omega) (by decide) rfl ?_
                      have hdd : ul (dg 10 (dn u % 1000000 ^ (kk + 1))) 108 = 6 * kk + mm := nd_step f1 f2 f3 (by omega)
                      refine z_goto (tgt := 33) S d_M_digit_118 (by decide) ?_
                      refine z_lv (lv' := [(0, .ref mo), (1, .int (zI (u : Int))), (2, .int (zI 1)), (3, .int (zI i)), (4, .int (zI 1)), (5, .int (zI x21)), (6, .long (zL (lb : Int))), (8, .int (zI ((kk + 1 : Nat) : Int)))]) [3, 4, 5, 6, 7, 1, 8, 0] rfl ?_
                      refine z_lq (lv' := [(0, .ref mo), (1, .int (zI (u : Int))), (2, .int (zI 1)), (3, .int (zI i)), (4, .int (zI 1)), (5, .int (zI ((ul (dg 10 (dn u % 1000000 ^ (kk + 1))) 108 : Nat) : Int))), (6, .long (zL (lb : Int))), (8, .int (zI ((kk + 1 : Nat) : Int)))]) (congrArg (fun zzz : Int => ([(0, .ref mo), (1, .int (zI (u : Int))), (2, .int (zI 1)), (3, .int (zI i)), (4, .int (zI 1)), (5, .int (zI zzz)), (6, .long (zL (lb : Int))), (8, .int (zI ((kk + 1 : Nat) : Int)))] : List (Nat × Value))) (show (x21 : Int) = ((ul (dg 10 (dn u % 1000000 ^ (kk + 1))) 108 : Nat) : Int) by omega)) ?_
                      exact ih33 ((kk + 1), lb) (show ((kk + 1) ≤ 8) from by omega) (show 8 - (kk + 1) < 8 - kk from by omega)
                    · skip
                      refine z_lload S d_M_digit_111 1 rfl ?_
                      refine z_lstore (lv' := [(6, .long (zL ((dg 1000000 (dn u) kk : Nat) : Int))), (5, .int (zI x21)), (9, .long (zL ((dg 1000000 (dn u) kk : Nat) : Int))), (0, .ref mo), (1, .int (zI (u : Int))), (2, .int (zI 1)), (3, .int (zI i)), (4, .int (zI 1)), (8, .int (zI (kk : Int)))]) S d_M_digit_113 (by decide) rfl ?_
                      refine z_iinc (y := ((kk + 1 : Nat) : Int)) (lv' := [(8, .int (zI ((kk + 1 : Nat) : Int))), (6, .long (zL ((dg 1000000 (dn u) kk : Nat) : Int))), (5, .int (zI x21)), (9, .long (zL ((dg 1000000 (dn u) kk : Nat) : Int))), (0, .ref mo), (1, .int (zI (u : Int))), (2, .int (zI 1)), (3, .int (zI i)), (4, .int (zI 1))]) S d_M_digit_115 8 rfl (by omega) (by decide) rfl ?_
                      have hdd : ul (dg 10 (dn u % 1000000 ^ (kk + 1))) 108 = 6 * kk + mm := nd_step f1 f2 f3 (by omega)
                      refine z_goto (tgt := 33) S d_M_digit_118 (by decide) ?_
                      refine z_lv (lv' := [(0, .ref mo), (1, .int (zI (u : Int))), (2, .int (zI 1)), (3, .int (zI i)), (4, .int (zI 1)), (5, .int (zI x21)), (6, .long (zL ((dg 1000000 (dn u) kk : Nat) : Int))), (8, .int (zI ((kk + 1 : Nat) : Int)))]) [4, 5, 6, 7, 8, 2, 1, 0] rfl ?_
                      refine z_lq (lv' := [(0, .ref mo), (1, .int (zI (u : Int))), (2, .int (zI 1)), (3, .int (zI i)), (4, .int (zI 1)), (5, .int (zI ((ul (dg 10 (dn u % 1000000 ^ (kk + 1))) 108 : Nat) : Int))), (6, .long (zL ((dg 1000000 (dn u) kk : Nat) : Int))), (8, .int (zI ((kk + 1 : Nat) : Int)))]) (congrArg (fun zzz : Int => ([(0, .ref mo), (1, .int (zI (u : Int))), (2, .int (zI 1)), (3, .int (zI i)), (4, .int (zI 1)), (5, .int (zI zzz)), (6, .long (zL ((dg 1000000 (dn u) kk : Nat) : Int))), (8, .int (zI ((kk + 1 : Nat) : Int)))] : List (Nat × Value))) (show (x21 : Int) = ((ul (dg 10 (dn u % 1000000 ^ (kk + 1))) 108 : Nat) : Int) by omega)) ?_
                      exact ih33 ((kk + 1), (dg 1000000 (dn u) kk)) (show ((kk + 1) ≤ 8) from by omega) (show 8 - (kk + 1) < 8 - kk from by omega)
              · skip
                exact absurd c17 (by omega)
set_option maxHeartbeats 4000000 in
set_option maxRecDepth 100000 in
theorem f1_M_digit (l : Launch) (dC : Nat → ClassId) (dI : Nat → Nat → Nat) (cI cL : ClassId) (qT : Nat) (mo : Nat) (mw : Nat) (nv : Nat) (ma : Nat) (mb : Nat) (ns : Nat) (mlo : Nat) (mhi : Nat) (nw : Nat) (mwe : Nat) (mru : Nat) (mrd : Nat) (th : Int) (mg : Nat) (u : Int) (t : Int) (i : Int) (hnv : nv ≤ 100) (hur : -2147483648 ≤ u ∧ u < 2147483648) (htr : -2147483648 ≤ t ∧ t < 2147483648) (hir : -2147483648 ≤ i ∧ i < 2147483648) (hu : ¬ ((0 ≤ u ∧ u < (nv : Int)) ∧ (t = 0 ∨ t = 1))) : Ct l y_M_digit (Cond.code y_M_digit c_M_digit 11 (some .int) :: zB) { frames := 1, cells := 0, slots := 0, locals := 24 } (dC, dI) zcl [(cI, .int), (cL, .long)] (zG cI cL qT) [.ref mo, .int (zI u), .int (zI t), .int (zI i)] [oM mo th mw (nv : Int) mg ma mb (ns : Int) mlo mhi (nw : Int) mwe mru mrd] (fun rv wv => rv = .int (zI 0) ∧ wv = [oM mo 1 mw (nv : Int) mg ma mb (ns : Int) mlo mhi (nw : Int) mwe mru mrd]) 0 0 := by
  refine Cm.ofZ (cc := c_M_digit) (maxL := 11) (ret := (some .int)) (by decide) rfl (Nat.le_of_ble_eq_true rfl) rfl ?_
  intro p e s m below meth c A S hr hlo hnm hK hg hA hAe
  have hGok := zG_ok cI cL qT
  show ZZ _ _ _ _ _ _ _ _ _ _ _ _ _ _ _ _ _ _ 0 [(0, .ref mo), (1, .int (zI u)), (2, .int (zI t)), (3, .int (zI i))] [] [oM mo th mw (nv : Int) mg ma mb (ns : Int) mlo mhi (nw : Int) mwe mru mrd]
  refine z_aload_n S d_M_digit_0 0 rfl ?_
  refine z_iload_n S d_M_digit_1 1 rfl ?_
  refine z_callVa (As := [.int (zI u)]) (st := []) (wc := [oM mo th mw (nv : Int) mg ma mb (ns : Int) mlo mhi (nw : Int) mwe mru mrd]) (wr := []) S hGok hK hg hA (s_M_isValue l dC dI cI cL qT mo mw nv ma mb ns mlo mhi nw mwe mru mrd th mg u (by omega) (by omega)) (zcwV S (List.mem_cons_of_mem _ k_M_125) mV_M_isValue k_M_125 hd_M_isValue rfl rfl ⟨Nat.le_of_ble_eq_true rfl, Nat.le_of_ble_eq_true rfl⟩) rfl (Nat.le_of_ble_eq_true rfl) d_M_digit_2 ⟨Nat.le_of_ble_eq_true rfl, Nat.le_of_ble_eq_true rfl⟩ rfl [0] [] 0 rfl rfl rfl (by decide) rfl rfl rfl (by decide) (by decide) (fun x w hp => ?_)
  obtain ⟨rfl, rfl⟩ := hp
  show ZZ _ _ _ _ _ _ _ _ _ _ _ _ _ _ _ _ _ _ 5 [(0, .ref mo), (1, .int (zI u)), (2, .int (zI t)), (3, .int (zI i))] [.int (zI (b2 (0 ≤ u ∧ u < (nv : Int))))] [oM mo th mw (nv : Int) mg ma mb (ns : Int) mlo mhi (nw : Int) mwe mru mrd]
  have hb1 := b2_r (0 ≤ u ∧ u < (nv : Int))
  refine z_if_eq (tgt := 21) S d_M_digit_5 (by decide) (by omega) (fun c1 => ?_) (fun c1 => ?_)
  · skip
    refine z_iconst S d_M_digit_21 ?_
    refine z_istore (lv' := [(4, .int (zI 0)), (0, .ref mo), (1, .int (zI u)), (2, .int (zI t)), (3, .int (zI i))]) S d_M_digit_22 (by decide) rfl ?_
    refine z_iconst S d_M_digit_24 ?_
    refine z_istore (lv' := [(5, .int (zI 0)), (4, .int (zI 0)), (0, .ref mo), (1, .int (zI u)), (2, .int (zI t)), (3, .int (zI i))]) S d_M_digit_25 (by decide) rfl ?_
    refine z_lconst (z := 0) S d_M_digit_27 rfl ?_
    refine z_lstore (lv' := [(6, .long (zL 0)), (5, .int (zI 0)), (4, .int (zI 0)), (0, .ref mo), (1, .int (zI u)), (2, .int (zI t)), (3, .int (zI i))]) S d_M_digit_28 (by decide) rfl ?_
    refine z_iconst S d_M_digit_30 ?_
    refine z_istore (lv' := [(8, .int (zI 0)), (6, .long (zL 0)), (5, .int (zI 0)), (4, .int (zI 0)), (0, .ref mo), (1, .int (zI u)), (2, .int (zI t)), (3, .int (zI i))]) S d_M_digit_31 (by decide) rfl ?_
    refine z_iload S d_M_digit_33 0 rfl ?_
    refine z_bipush S d_M_digit_35 rfl ?_
    refine z_icmp_ge (tgt := 121) S d_M_digit_37 (by decide) (by omega) (by omega) (fun c2 => ?_) (fun c2 => ?_)
    · skip
      exact absurd c2 (by omega)
    · skip
      refine z_iload S d_M_digit_40 3 rfl ?_
      refine z_if_eq (tgt := 121) S d_M_digit_42 (by decide) (by omega) (fun c3 => ?_) (fun c3 => ?_)
      · skip
        refine z_iload S d_M_digit_121 2 rfl ?_
        refine z_if_ne (tgt := 129) S d_M_digit_123 (by decide) (by omega) (fun c4 => ?_) (fun c4 => ?_)
        · skip
          exact absurd c4 (by omega)
        · skip
          refine z_iconst S d_M_digit_126 ?_
          refine z_istore (lv' := [(5, .int (zI 1)), (8, .int (zI 0)), (6, .long (zL 0)), (4, .int (zI 0)), (0, .ref mo), (1, .int (zI u)), (2, .int (zI t)), (3, .int (zI i))]) S d_M_digit_127 (by decide) rfl ?_
          refine z_aload_n S d_M_digit_129 4 rfl ?_
          refine z_iload S d_M_digit_130 3 rfl ?_
          refine z_if_eq (tgt := 149) S d_M_digit_132 (by decide) (by omega) (fun c5 => ?_) (fun c5 => ?_)
          · skip
            refine z_iconst S d_M_digit_149 ?_
            refine z_iconst S d_M_digit_150 ?_
            refine z_iconst S d_M_digit_151 ?_
            refine z_callVa (As := [.int (zI 0), .int (zI 1), .int (zI 1)]) (st := []) (wc := [oM mo th mw (nv : Int) mg ma mb (ns : Int) mlo mhi (nw : Int) mwe mru mrd]) (wr := []) S hGok hK hg hA (s_M_goes l dC dI cI cL qT mo mw nv ma mb ns mlo mhi nw mwe mru mrd th mg 0 1 1 (by omega) (by omega) (by omega)) (zcwV S (List.mem_cons_of_mem _ k_M_118) mV_M_goes k_M_118 hd_M_goes rfl rfl ⟨Nat.le_of_ble_eq_true rfl, Nat.le_of_ble_eq_true rfl⟩) rfl (Nat.le_of_ble_eq_true rfl) d_M_digit_152 ⟨Nat.le_of_ble_eq_true rfl, Nat.le_of_ble_eq_true rfl⟩ rfl [0] [] 0 rfl rfl rfl (by decide) rfl rfl rfl (by decide) (by decide) (fun x w hp => ?_)
            obtain ⟨rfl, rfl⟩ := hp
            show ZZ _ _ _ _ _ _ _ _ _ _ _ _ _ _ _ _ _ _ 155 [(5, .int (zI 1)), (8, .int (zI 0)), (6, .long (zL 0)), (4, .int (zI 0)), (0, .ref mo), (1, .int (zI u)), (2, .int (zI t)), (3, .int (zI i))] [.int (zI (b2 (gth 0 1 1 = 0)))] [oM mo (gth 0 1 1) mw (nv : Int) mg ma mb (ns : Int) mlo mhi (nw : Int) mwe mru mrd]
            refine z_toi (a := 0) rfl ?_
            refine z_wq (ws' := [oM mo 1 mw (nv : Int) mg ma mb (ns : Int) mlo mhi (nw : Int) mwe mru mrd]) rfl ?_
            refine z_if_ne (tgt := 160) S d_M_digit_155 (by decide) (by omega) (fun c6 => ?_) (fun c6 => ?_)
            · skip
              exact absurd c6 (by omega)
            · skip
              refine z_iconst S d_M_digit_158 ?_
              exact z_iret (w := [oM mo 1 mw (nv : Int) mg ma mb (ns : Int) mlo mhi (nw : Int) mwe mru mrd]) S hr hlo hAe d_M_digit_159 [0] (by decide) rfl rfl ⟨Nat.le_refl _, Nat.le_refl _⟩ (⟨rfl, rfl⟩)
          · skip
            exact absurd c5 (by omega)
      · skip
        exact absurd c3 (by omega)
  · skip
    have hq5 := b2_p c1
    refine z_iload_n S d_M_digit_8 2 rfl ?_
    refine z_if_lt (tgt := 21) S d_M_digit_9 (by decide) (by omega) (fun c7 => ?_) (fun c7 => ?_)
    · skip
      refine z_iconst S d_M_digit_21 ?_
      refine z_istore (lv' := [(4, .int (zI 0)), (0, .ref mo), (1, .int (zI u)), (2, .int (zI t)), (3, .int (zI i))]) S d_M_digit_22 (by decide) rfl ?_
      refine z_iconst S d_M_digit_24 ?_
      refine z_istore (lv' := [(5, .int (zI 0)), (4, .int (zI 0)), (0, .ref mo), (1, .int (zI u)), (2, .int (zI t)), (3, .int (zI i))]) S d_M_digit_25 (by decide) rfl ?_
      refine z_lconst (z := 0) S d_M_digit_27 rfl ?_
      refine z_lstore (lv' := [(6, .long (zL 0)), (5, .int (zI 0)), (4, .int (zI 0)), (0, .ref mo), (1, .int (zI u)), (2, .int (zI t)), (3, .int (zI i))]) S d_M_digit_28 (by decide) rfl ?_
      refine z_iconst S d_M_digit_30 ?_
      refine z_istore (lv' := [(8, .int (zI 0)), (6, .long (zL 0)), (5, .int (zI 0)), (4, .int (zI 0)), (0, .ref mo), (1, .int (zI u)), (2, .int (zI t)), (3, .int (zI i))]) S d_M_digit_31 (by decide) rfl ?_
      refine z_iload S d_M_digit_33 0 rfl ?_
      refine z_bipush S d_M_digit_35 rfl ?_
      refine z_icmp_ge (tgt := 121) S d_M_digit_37 (by decide) (by omega) (by omega) (fun c8 => ?_) (fun c8 => ?_)
      · skip
        exact absurd c8 (by omega)
      · skip
        refine z_iload S d_M_digit_40 3 rfl ?_
        refine z_if_eq (tgt := 121) S d_M_digit_42 (by decide) (by omega) (fun c9 => ?_) (fun c9 => ?_)
        · skip
          refine z_iload S d_M_digit_121 2 rfl ?_
          refine z_if_ne (tgt := 129) S d_M_digit_123 (by decide) (by omega) (fun c10 => ?_) (fun c10 => ?_)
          · skip
            exact absurd c10 (by omega)
          · skip
            refine z_iconst S d_M_digit_126 ?_
            refine z_istore (lv' := [(5, .int (zI 1)), (8, .int (zI 0)), (6, .long (zL 0)), (4, .int (zI 0)), (0, .ref mo), (1, .int (zI u)), (2, .int (zI t)), (3, .int (zI i))]) S d_M_digit_127 (by decide) rfl ?_
            refine z_aload_n S d_M_digit_129 4 rfl ?_
            refine z_iload S d_M_digit_130 3 rfl ?_
            refine z_if_eq (tgt := 149) S d_M_digit_132 (by decide) (by omega) (fun c11 => ?_) (fun c11 => ?_)
            · skip
              refine z_iconst S d_M_digit_149 ?_
              refine z_iconst S d_M_digit_150 ?_
              refine z_iconst S d_M_digit_151 ?_
              refine z_callVa (As := [.int (zI 0), .int (zI 1), .int (zI 1)]) (st := []) (wc := [oM mo th mw (nv : Int) mg ma mb (ns : Int) mlo mhi (nw : Int) mwe mru mrd]) (wr := []) S hGok hK hg hA (s_M_goes l dC dI cI cL qT mo mw nv ma mb ns mlo mhi nw mwe mru mrd th mg 0 1 1 (by omega) (by omega) (by omega)) (zcwV S (List.mem_cons_of_mem _ k_M_118) mV_M_goes k_M_118 hd_M_goes rfl rfl ⟨Nat.le_of_ble_eq_true rfl, Nat.le_of_ble_eq_true rfl⟩) rfl (Nat.le_of_ble_eq_true rfl) d_M_digit_152 ⟨Nat.le_of_ble_eq_true rfl, Nat.le_of_ble_eq_true rfl⟩ rfl [0] [] 0 rfl rfl rfl (by decide) rfl rfl rfl (by decide) (by decide) (fun x w hp => ?_)
              obtain ⟨rfl, rfl⟩ := hp
              show ZZ _ _ _ _ _ _ _ _ _ _ _ _ _ _ _ _ _ _ 155 [(5, .int (zI 1)), (8, .int (zI 0)), (6, .long (zL 0)), (4, .int (zI 0)), (0, .ref mo), (1, .int (zI u)), (2, .int (zI t)), (3, .int (zI i))] [.int (zI (b2 (gth 0 1 1 = 0)))] [oM mo (gth 0 1 1) mw (nv : Int) mg ma mb (ns : Int) mlo mhi (nw : Int) mwe mru mrd]
              refine z_toi (a := 0) rfl ?_
              refine z_wq (ws' := [oM mo 1 mw (nv : Int) mg ma mb (ns : Int) mlo mhi (nw : Int) mwe mru mrd]) rfl ?_
              refine z_if_ne (tgt := 160) S d_M_digit_155 (by decide) (by omega) (fun c12 => ?_) (fun c12 => ?_)
              · skip
                exact absurd c12 (by omega)
              · skip
                refine z_iconst S d_M_digit_158 ?_
                exact z_iret (w := [oM mo 1 mw (nv : Int) mg ma mb (ns : Int) mlo mhi (nw : Int) mwe mru mrd]) S hr hlo hAe d_M_digit_159 [0] (by decide) rfl rfl ⟨Nat.le_refl _, Nat.le_refl _⟩ (⟨rfl, rfl⟩)
            · skip
              exact absurd c11 (by omega)
        · skip
          exact absurd c9 (by omega)
    · skip
      refine z_iload_n S d_M_digit_12 2 rfl ?_
      refine z_iconst S d_M_digit_13 ?_
      refine z_icmp_gt (tgt := 21) S d_M_digit_14 (by decide) (by omega) (by omega) (fun c13 => ?_) (fun c13 => ?_)
      · skip
        refine z_iconst S d_M_digit_21 ?_
        refine z_istore (lv' := [(4, .int (zI 0)), (0, .ref mo), (1, .int (zI u)), (2, .int (zI t)), (3, .int (zI i))]) S d_M_digit_22 (by decide) rfl ?_
        refine z_iconst S d_M_digit_24 ?_
        refine z_istore (lv' := [(5, .int (zI 0)), (4, .int (zI 0)), (0, .ref mo), (1, .int (zI u)), (2, .int (zI t)), (3, .int (zI i))]) S d_M_digit_25 (by decide) rfl ?_
        refine z_lconst (z := 0) S d_M_digit_27 rfl ?_
        refine z_lstore (lv' := [(6, .long (zL 0)), (5, .int (zI 0)), (4, .int (zI 0)), (0, .ref mo), (1, .int (zI u)), (2, .int (zI t)), (3, .int (zI i))]) S d_M_digit_28 (by decide) rfl ?_
        refine z_iconst S d_M_digit_30 ?_
        refine z_istore (lv' := [(8, .int (zI 0)), (6, .long (zL 0)), (5, .int (zI 0)), (4, .int (zI 0)), (0, .ref mo), (1, .int (zI u)), (2, .int (zI t)), (3, .int (zI i))]) S d_M_digit_31 (by decide) rfl ?_
        refine z_iload S d_M_digit_33 0 rfl ?_
        refine z_bipush S d_M_digit_35 rfl ?_
        refine z_icmp_ge (tgt := 121) S d_M_digit_37 (by decide) (by omega) (by omega) (fun c14 => ?_) (fun c14 => ?_)
        · skip
          exact absurd c14 (by omega)
        · skip
          refine z_iload S d_M_digit_40 3 rfl ?_
          refine z_if_eq (tgt := 121) S d_M_digit_42 (by decide) (by omega) (fun c15 => ?_) (fun c15 => ?_)
          · skip
            refine z_iload S d_M_digit_121 2 rfl ?_
            refine z_if_ne (tgt := 129) S d_M_digit_123 (by decide) (by omega) (fun c16 => ?_) (fun c16 => ?_)
            · skip
              exact absurd c16 (by omega)
            · skip
              refine z_iconst S d_M_digit_126 ?_
              refine z_istore (lv' := [(5, .int (zI 1)), (8, .int (zI 0)), (6, .long (zL 0)), (4, .int (zI 0)), (0, .ref mo), (1, .int (zI u)), (2, .int (zI t)), (3, .int (zI i))]) S d_M_digit_127 (by decide) rfl ?_
              refine z_aload_n S d_M_digit_129 4 rfl ?_
              refine z_iload S d_M_digit_130 3 rfl ?_
              refine z_if_eq (tgt := 149) S d_M_digit_132 (by decide) (by omega) (fun c17 => ?_) (fun c17 => ?_)
              · skip
                refine z_iconst S d_M_digit_149 ?_
                refine z_iconst S d_M_digit_150 ?_
                refine z_iconst S d_M_digit_151 ?_
                refine z_callVa (As := [.int (zI 0), .int (zI 1), .int (zI 1)]) (st := []) (wc := [oM mo th mw (nv : Int) mg ma mb (ns : Int) mlo mhi (nw : Int) mwe mru mrd]) (wr := []) S hGok hK hg hA (s_M_goes l dC dI cI cL qT mo mw nv ma mb ns mlo mhi nw mwe mru mrd th mg 0 1 1 (by omega) (by omega) (by omega)) (zcwV S (List.mem_cons_of_mem _ k_M_118) mV_M_goes k_M_118 hd_M_goes rfl rfl ⟨Nat.le_of_ble_eq_true rfl, Nat.le_of_ble_eq_true rfl⟩) rfl (Nat.le_of_ble_eq_true rfl) d_M_digit_152 ⟨Nat.le_of_ble_eq_true rfl, Nat.le_of_ble_eq_true rfl⟩ rfl [0] [] 0 rfl rfl rfl (by decide) rfl rfl rfl (by decide) (by decide) (fun x w hp => ?_)
                obtain ⟨rfl, rfl⟩ := hp
                show ZZ _ _ _ _ _ _ _ _ _ _ _ _ _ _ _ _ _ _ 155 [(5, .int (zI 1)), (8, .int (zI 0)), (6, .long (zL 0)), (4, .int (zI 0)), (0, .ref mo), (1, .int (zI u)), (2, .int (zI t)), (3, .int (zI i))] [.int (zI (b2 (gth 0 1 1 = 0)))] [oM mo (gth 0 1 1) mw (nv : Int) mg ma mb (ns : Int) mlo mhi (nw : Int) mwe mru mrd]
                refine z_toi (a := 0) rfl ?_
                refine z_wq (ws' := [oM mo 1 mw (nv : Int) mg ma mb (ns : Int) mlo mhi (nw : Int) mwe mru mrd]) rfl ?_
                refine z_if_ne (tgt := 160) S d_M_digit_155 (by decide) (by omega) (fun c18 => ?_) (fun c18 => ?_)
                · skip
                  exact absurd c18 (by omega)
                · skip
                  refine z_iconst S d_M_digit_158 ?_
                  exact z_iret (w := [oM mo 1 mw (nv : Int) mg ma mb (ns : Int) mlo mhi (nw : Int) mwe mru mrd]) S hr hlo hAe d_M_digit_159 [0] (by decide) rfl rfl ⟨Nat.le_refl _, Nat.le_refl _⟩ (⟨rfl, rfl⟩)
              · skip
                exact absurd c17 (by omega)
          · skip
            exact absurd c15 (by omega)
      · skip
        exact absurd ⟨hq5, by omega⟩ hu
set_option maxHeartbeats 4000000 in
set_option maxRecDepth 100000 in
theorem s_M_lowestOf (l : Launch) (dC : Nat → ClassId) (dI : Nat → Nat → Nat) (cI cL : ClassId) (qT : Nat) (mo : Nat) (mw : Nat) (nv : Nat) (ma : Nat) (mb : Nat) (ns : Nat) (mlo : Nat) (mhi : Nat) (nw : Nat) (mwe : Nat) (mru : Nat) (mrd : Nat) (th : Int) (mg : Nat) (rr : Nat → Nat) (h0b : rr 0 < 1000000 ^ 20) (h1b : rr 1 < 1000000 ^ 20) (h1p : 0 < rr 1) : Ct l y_M_lowestOf (Cond.code y_M_lowestOf c_M_lowestOf 2 (some .boolean) :: zB) { frames := 4, cells := 0, slots := 0, locals := 106 } (dC, dI) zcl [(cI, .int), (cL, .long)] (zG cI cL qT) [.ref mo] [oM mo th mw (nv : Int) mg ma mb (ns : Int) mlo mhi (nw : Int) mwe mru mrd, aL cL mw 160 (wkA rr)] (fun rv wv => ∃ rr2 : Nat → Nat, (rr2 0 = lwX (rr 0) (rr 1)) ∧ (rr2 1 = lwZ (rr 0) (rr 1)) ∧ rv = .int (zI (b2 (lwZ (rr 0) (rr 1) < 10 ^ 48))) ∧ wv = [oM mo th mw (nv : Int) mg ma mb (ns : Int) mlo mhi (nw : Int) mwe mru mrd, aL cL mw 160 (wkA rr2)]) 0 0 := by
  refine Cm.ofZ (cc := c_M_lowestOf) (maxL := 2) (ret := (some .boolean)) (by decide) rfl (Nat.le_of_ble_eq_true rfl) rfl ?_
  intro p e s m below meth c A S hr hlo hnm hK hg hA hAe
  have hGok := zG_ok cI cL qT
  show ZZ _ _ _ _ _ _ _ _ _ _ _ _ _ _ _ _ _ _ 0 [(0, .ref mo)] [] [oM mo th mw (nv : Int) mg ma mb (ns : Int) mlo mhi (nw : Int) mwe mru mrd, aL cL mw 160 (wkA rr)]
  have hle := lw_le (rr 0) (rr 1)
  have hbf := b2_r (lwX (rr 0) (rr 1) < 10 ^ 48 ∧ lwZ (rr 0) (rr 1) < 10 ^ 48)
  refine z_aload_n S d_M_lowestOf_0 0 rfl ?_
  refine z_callVa (As := []) (st := []) (wc := [oM mo th mw (nv : Int) mg ma mb (ns : Int) mlo mhi (nw : Int) mwe mru mrd, aL cL mw 160 (wkA rr)]) (wr := []) S hGok hK hg hA (s_M_lowest l dC dI cI cL qT mo mw nv ma mb ns mlo mhi nw mwe mru mrd th mg rr (by omega) (by omega) (by omega)) (zcwV S (List.mem_cons_of_mem _ k_M_105) mV_M_lowest k_M_105 hd_M_lowest rfl rfl ⟨Nat.le_of_ble_eq_true rfl, Nat.le_of_ble_eq_true rfl⟩) rfl (Nat.le_of_ble_eq_true rfl) d_M_lowestOf_1 ⟨Nat.le_of_ble_eq_true rfl, Nat.le_of_ble_eq_true rfl⟩ rfl [0, 1] [] 0 rfl rfl rfl (by decide) rfl rfl rfl (by decide) (by decide) (fun x w hp => ?_)
  obtain ⟨rk, k0, k1, rfl, rfl⟩ := hp
  show ZZ _ _ _ _ _ _ _ _ _ _ _ _ _ _ _ _ _ _ 4 [(0, .ref mo)] [.int (zI (b2 (lwX (rr 0) (rr 1) < 10 ^ 48 ∧ lwZ (rr 0) (rr 1) < 10 ^ 48)))] [oM mo th mw (nv : Int) mg ma mb (ns : Int) mlo mhi (nw : Int) mwe mru mrd, aL cL mw 160 (wkA rk)]
  refine z_istore_n (lv' := [(1, .int (zI (b2 (lwX (rr 0) (rr 1) < 10 ^ 48 ∧ lwZ (rr 0) (rr 1) < 10 ^ 48)))), (0, .ref mo)]) S d_M_lowestOf_4 rfl (by decide) rfl ?_
  refine z_iload_n S d_M_lowestOf_5 0 rfl ?_
  refine z_if_ne (tgt := 19) S d_M_lowestOf_6 (by decide) (by omega) (fun c1 => ?_) (fun c1 => ?_)
  · skip
    refine z_iconst S d_M_lowestOf_19 ?_
    refine z_goto (tgt := 24) S d_M_lowestOf_20 (by decide) ?_
    exact z_zret (w := [oM mo th mw (nv : Int) mg ma mb (ns : Int) mlo mhi (nw : Int) mwe mru mrd, aL cL mw 160 (wkA rk)]) S hr hlo hAe (by first | exact Or.inl rfl | exact Or.inr rfl) d_M_lowestOf_24 [0, 1] (by decide) rfl rfl ⟨Nat.le_refl _, Nat.le_refl _⟩ (⟨rk, k0, k1, by rw [b2_t (b2_p c1).2], rfl⟩)
  · skip
    refine z_aload_n S d_M_lowestOf_9 1 rfl ?_
    refine z_iconst S d_M_lowestOf_10 ?_
    refine z_callVa (As := [.int (zI 1)]) (st := []) (wc := [oM mo th mw (nv : Int) mg ma mb (ns : Int) mlo mhi (nw : Int) mwe mru mrd, aL cL mw 160 (wkA rk)]) (wr := []) S hGok hK hg hA (s_M_top l dC dI cI cL qT mo mw nv ma mb ns mlo mhi nw mwe mru mrd th mg rk 1 (by omega)) (zcwV S (List.mem_cons_of_mem _ k_M_56) mV_M_top k_M_56 hd_M_top rfl rfl ⟨Nat.le_of_ble_eq_true rfl, Nat.le_of_ble_eq_true rfl⟩) rfl (Nat.le_of_ble_eq_true rfl) d_M_lowestOf_11 ⟨Nat.le_of_ble_eq_true rfl, Nat.le_of_ble_eq_true rfl⟩ rfl [0, 1] [] 0 rfl rfl rfl (by decide) rfl rfl rfl (by decide) (by decide) (fun x w hp => ?_)
    obtain ⟨rfl, rfl⟩ := hp
    show ZZ _ _ _ _ _ _ _ _ _ _ _ _ _ _ _ _ _ _ 14 [(1, .int (zI (b2 (lwX (rr 0) (rr 1) < 10 ^ 48 ∧ lwZ (rr 0) (rr 1) < 10 ^ 48)))), (0, .ref mo)] [.int (zI (((tp (rk 1) : Nat) : Int) - 1))] [oM mo th mw (nv : Int) mg ma mb (ns : Int) mlo mhi (nw : Int) mwe mru mrd, aL cL mw 160 (wkA rk)]
    have t1 := tp_le (rk 1)
    refine z_bipush S d_M_lowestOf_14 rfl ?_
    refine z_icmp_ge (tgt := 23) S d_M_lowestOf_16 (by decide) (by omega) (by omega) (fun c2 => ?_) (fun c2 => ?_)
    · skip
      refine z_iconst S d_M_lowestOf_23 ?_
      have kt := tp_8 (show rk 1 < 1000000 ^ 20 by omega)
      exact z_zret (w := [oM mo th mw (nv : Int) mg ma mb (ns : Int) mlo mhi (nw : Int) mwe mru mrd, aL cL mw 160 (wkA rk)]) S hr hlo hAe (by first | exact Or.inl rfl | exact Or.inr rfl) d_M_lowestOf_24 [0, 1] (by decide) rfl rfl ⟨Nat.le_refl _, Nat.le_refl _⟩ (⟨rk, k0, k1, by rw [← k1, b2_f (P := rk 1 < 10 ^ 48) (by omega)], rfl⟩)
    · skip
      refine z_iconst S d_M_lowestOf_19 ?_
      refine z_goto (tgt := 24) S d_M_lowestOf_20 (by decide) ?_
      have kt := tp_8 (show rk 1 < 1000000 ^ 20 by omega)
      exact z_zret (w := [oM mo th mw (nv : Int) mg ma mb (ns : Int) mlo mhi (nw : Int) mwe mru mrd, aL cL mw 160 (wkA rk)]) S hr hlo hAe (by first | exact Or.inl rfl | exact Or.inr rfl) d_M_lowestOf_24 [0, 1] (by decide) rfl rfl ⟨Nat.le_refl _, Nat.le_refl _⟩ (⟨rk, k0, k1, by rw [← k1, b2_t (P := rk 1 < 10 ^ 48) (by omega)], rfl⟩)
