def moA (ff : Nat → Nat) : Nat → Int64 := fun i => zL ((dg 1000000 (ff (i / 8)) (i % 8) : Nat) : Int)
theorem moA_at (ff : Nat → Nat) {k i : Nat} (h : i < 8) : moA ff (8 * k + i) = zL ((dg 1000000 (ff k) i : Nat) : Int) := by
  unfold moA
  rw [show (8 * k + i) / 8 = k by omega, show (8 * k + i) % 8 = i by omega]
def moM (ff : Nat → Nat) (k v i : Nat) : Nat → Int64 := fun j => if 8 * k ≤ j ∧ j < 8 * k + i then zL ((dg 1000000 v (j - 8 * k) : Nat) : Int) else moA ff j
theorem moM_0 (ff : Nat → Nat) (k v : Nat) : moM ff k v 0 = moA ff := by
  funext j; unfold moM; rw [if_neg (by omega)]
theorem moM_s {ff : Nat → Nat} {k v i : Nat} {x : Int64} (h : x = zL ((dg 1000000 v i : Nat) : Int)) : vp_updL (moM ff k v i) (8 * k + i) x = moM ff k v (i + 1) := by
  funext j; unfold vp_updL moM
  by_cases q : j = 8 * k + i
  · rw [if_pos q, if_pos (by omega), h, q, show 8 * k + i - 8 * k = i by omega]
  · rw [if_neg q]
    by_cases q2 : 8 * k ≤ j ∧ j < 8 * k + i
    · rw [if_pos q2, if_pos (by omega)]
    · rw [if_neg q2, if_neg (by omega)]
theorem moM_8 (ff : Nat → Nat) (k v : Nat) : moM ff k v 8 = moA (un ff k v) := by
  funext j; unfold moM moA un
  by_cases q : 8 * k ≤ j ∧ j < 8 * k + 8
  · rw [if_pos q, if_pos (by omega), show j - 8 * k = j % 8 by omega]
  · rw [if_neg q, if_neg (by omega)]
def kpU (f : Nat → Nat) (n v x z : Nat) : Nat → Nat := if x < 10 ^ 48 ∧ z < 10 ^ 48 then un f n v else f
theorem lw_0 {D : Nat} (h : 0 < D) : lwX 0 D = 0 ∧ lwZ 0 D = 1 := by
  unfold lwX lwZ
  rw [Nat.zero_div, Nat.gcd_zero_right, Nat.div_self h]
  exact ⟨rfl, rfl⟩
theorem lwX_0 {N D : Nat} (h : 0 < D) : lwX N D = 0 ↔ N = 0 := by
  unfold lwX
  constructor
  · intro q
    rcases Nat.eq_zero_or_pos N with z | z
    · exact z
    · have h1 : Nat.gcd D N ≤ N := Nat.le_of_dvd z (Nat.gcd_dvd_right _ _)
      have := Nat.div_pos h1 (Nat.gcd_pos_of_pos_left _ h)
      omega
  · intro q
    rw [q, Nat.zero_div]
theorem e48 : (10 : Nat) ^ 48 = 1000000 ^ 8 := by decide
theorem b48_20 {v : Nat} (h : v < 10 ^ 48) : v < 1000000 ^ 20 := Nat.lt_of_lt_of_le h (by decide)
/-- the sign that the model's sum gives, where the sum isn't 0, is the class's -/
def smS (x y : Int) (P Q : Nat) : Int := if 0 ≤ x * y then (if x = 0 then y else x) else if Q ≤ P then x else y
theorem smS_zs {x y : Int} {P Q : Nat} (hx : -1 ≤ x ∧ x ≤ 1) (hy : -1 ≤ y ∧ y ≤ 1) (h1 : x = 0 ↔ P = 0) (h2 : y = 0 ↔ Q = 0) : zs (suN x y P Q) (smS x y P Q) = suS x y P Q := by
  unfold zs suN smS suS
  by_cases q : 0 ≤ x * y
  · rw [if_pos q, if_pos q, if_pos q]
    by_cases z : P + Q = 0
    · rw [if_pos z, if_pos (by omega)]; omega
    · rw [if_neg z]
  · rw [if_neg q, if_neg q, if_neg q]
    have h5 : (x = 1 ∧ y = -1) ∨ (x = -1 ∧ y = 1) := by
      rcases (show x = -1 ∨ x = 0 ∨ x = 1 by omega) with a | a | a <;> rcases (show y = -1 ∨ y = 0 ∨ y = 1 by omega) with b | b | b <;> subst a <;> subst b <;> simp_all
    by_cases w : Q ≤ P
    · rw [if_pos w, if_pos w]
      by_cases z : P - Q = 0
      · rw [if_pos z, cmpN_eq (by omega), Int.mul_zero]
      · rw [if_neg z, cmpN_gt (by omega), Int.mul_one]
    · rw [if_neg w, if_neg w, if_neg (by omega), cmpN_lt (by omega)]
      rcases h5 with ⟨a, b⟩ | ⟨a, b⟩ <;> rw [a, b] <;> rfl
theorem smS_r {x y : Int} {P Q : Nat} (hx : -1 ≤ x ∧ x ≤ 1) (hy : -1 ≤ y ∧ y ≤ 1) : -1 ≤ smS x y P Q ∧ smS x y P Q ≤ 1 := by
  unfold smS
  split
  · split <;> omega
  · split <;> omega
set_option maxHeartbeats 4000000 in
set_option maxRecDepth 100000 in
theorem s_M_lowest (l : Launch) (dC : Nat → ClassId) (dI : Nat → Nat → Nat) (cI cL : ClassId) (qT : Nat) (mo : Nat) (mw : Nat) (nv : Nat) (ma : Nat) (mb : Nat) (ns : Nat) (mlo : Nat) (mhi : Nat) (nw : Nat) (mwe : Nat) (mru : Nat) (mrd : Nat) (th : Int) (mg : Nat) (rr : Nat → Nat) (h0b : rr 0 < 1000000 ^ 20) (h1b : rr 1 < 1000000 ^ 20) (h1p : 0 < rr 1) : Ct l y_M_lowest (Cond.code y_M_lowest c_M_lowest 1 (some .boolean) :: zB) { frames := 3, cells := 0, slots := 0, locals := 86 } (dC, dI) zcl [(cI, .int), (cL, .long)] (zG cI cL qT) [.ref mo] [oM mo th mw (nv : Int) mg ma mb (ns : Int) mlo mhi (nw : Int) mwe mru mrd, aL cL mw 160 (wkA rr)] (fun rv wv => ∃ rr2 : Nat → Nat, (rr2 0 = lwX (rr 0) (rr 1)) ∧ (rr2 1 = lwZ (rr 0) (rr 1)) ∧ rv = .int (zI (b2 (lwX (rr 0) (rr 1) < 10 ^ 48 ∧ lwZ (rr 0) (rr 1) < 10 ^ 48))) ∧ wv = [oM mo th mw (nv : Int) mg ma mb (ns : Int) mlo mhi (nw : Int) mwe mru mrd, aL cL mw 160 (wkA rr2)]) 0 0 := by
  refine Cm.ofZ (cc := c_M_lowest) (maxL := 1) (ret := (some .boolean)) (by decide) rfl (Nat.le_of_ble_eq_true rfl) rfl ?_
  intro p e s m below meth c A S hr hlo hnm hK hg hA hAe
  have hGok := zG_ok cI cL qT
  show ZZ _ _ _ _ _ _ _ _ _ _ _ _ _ _ _ _ _ _ 0 [(0, .ref mo)] [] [oM mo th mw (nv : Int) mg ma mb (ns : Int) mlo mhi (nw : Int) mwe mru mrd, aL cL mw 160 (wkA rr)]
  have hbz := b2_r (rr 0 = 0)
  refine z_aload_n S d_M_lowest_0 0 rfl ?_
  refine z_iconst S d_M_lowest_1 ?_
  refine z_callVa (As := [.int (zI 0)]) (st := []) (wc := [oM mo th mw (nv : Int) mg ma mb (ns : Int) mlo mhi (nw : Int) mwe mru mrd, aL cL mw 160 (wkA rr)]) (wr := []) S hGok hK hg hA (s_M_isNought l dC dI cI cL qT mo mw nv ma mb ns mlo mhi nw mwe mru mrd th mg rr 0 (by omega) (by omega)) (zcwV S (List.mem_cons_of_mem _ k_M_77) mV_M_isNought k_M_77 hd_M_isNought rfl rfl ⟨Nat.le_of_ble_eq_true rfl, Nat.le_of_ble_eq_true rfl⟩) rfl (Nat.le_of_ble_eq_true rfl) d_M_lowest_2 ⟨Nat.le_of_ble_eq_true rfl, Nat.le_of_ble_eq_true rfl⟩ rfl [0, 1] [] 0 rfl rfl rfl (by decide) rfl rfl rfl (by decide) (by decide) (fun x w hp => ?_)
  obtain ⟨rfl, rfl⟩ := hp
  show ZZ _ _ _ _ _ _ _ _ _ _ _ _ _ _ _ _ _ _ 5 [(0, .ref mo)] [.int (zI (b2 (rr 0 = 0)))] [oM mo th mw (nv : Int) mg ma mb (ns : Int) mlo mhi (nw : Int) mwe mru mrd, aL cL mw 160 (wkA rr)]
  refine z_if_eq (tgt := 16) S d_M_lowest_5 (by decide) (by omega) (fun c1 => ?_) (fun c1 => ?_)
  · skip
    have hz := b2_0.mp c1
    have hgl : Nat.gcd (rr 1) (rr 0) ≤ rr 1 := gcd_l h1p
    have hgp : 0 < Nat.gcd (rr 1) (rr 0) := Nat.gcd_pos_of_pos_left _ h1p
    have hle := lw_le (rr 0) (rr 1)
    refine z_aload_n S d_M_lowest_16 0 rfl ?_
    refine z_iconst S d_M_lowest_17 ?_
    refine z_iconst S d_M_lowest_18 ?_
    refine z_callVv (As := [.int (zI 0), .int (zI 4)]) (st := []) (wc := [oM mo th mw (nv : Int) mg ma mb (ns : Int) mlo mhi (nw : Int) mwe mru mrd, aL cL mw 160 (wkA rr)]) (wr := []) S hGok hK hg hA (s_M_copy l dC dI cI cL qT mo mw nv ma mb ns mlo mhi nw mwe mru mrd th mg rr 0 4 (by omega) (by omega)) (zcwV S (List.mem_cons_of_mem _ k_M_95) mV_M_copy k_M_95 hd_M_copy rfl rfl ⟨Nat.le_of_ble_eq_true rfl, Nat.le_of_ble_eq_true rfl⟩) rfl (Nat.le_of_ble_eq_true rfl) d_M_lowest_19 ⟨Nat.le_of_ble_eq_true rfl, Nat.le_of_ble_eq_true rfl⟩ rfl [0, 1] [] 0 rfl rfl rfl (by decide) rfl rfl rfl (by decide) (by decide) (fun w hp => ?_)
    subst hp
    show ZZ _ _ _ _ _ _ _ _ _ _ _ _ _ _ _ _ _ _ 22 [(0, .ref mo)] [] [oM mo th mw (nv : Int) mg ma mb (ns : Int) mlo mhi (nw : Int) mwe mru mrd, aL cL mw 160 (wkA (un rr 4 (rr 0)))]
    obtain ⟨ra0, hra0, q0, q1, q4⟩ : ∃ ra0 : Nat → Nat, ra0 = (un rr 4 (rr 0)) ∧ ra0 0 = rr 0 ∧ ra0 1 = rr 1 ∧ ra0 4 = rr 0 := ⟨(un rr 4 (rr 0)), rfl, rfl, rfl, rfl⟩
    refine z_wq (ws' := [oM mo th mw (nv : Int) mg ma mb (ns : Int) mlo mhi (nw : Int) mwe mru mrd, aL cL mw 160 (wkA ra0)]) (by rw [hra0]) ?_
    refine z_aload_n S d_M_lowest_22 0 rfl ?_
    refine z_iconst S d_M_lowest_23 ?_
    refine z_iconst S d_M_lowest_24 ?_
    refine z_callVv (As := [.int (zI 1), .int (zI 5)]) (st := []) (wc := [oM mo th mw (nv : Int) mg ma mb (ns : Int) mlo mhi (nw : Int) mwe mru mrd, aL cL mw 160 (wkA ra0)]) (wr := []) S hGok hK hg hA (s_M_copy l dC dI cI cL qT mo mw nv ma mb ns mlo mhi nw mwe mru mrd th mg ra0 1 5 (by omega) (by omega)) (zcwV S (List.mem_cons_of_mem _ k_M_95) mV_M_copy k_M_95 hd_M_copy rfl rfl ⟨Nat.le_of_ble_eq_true rfl, Nat.le_of_ble_eq_true rfl⟩) rfl (Nat.le_of_ble_eq_true rfl) d_M_lowest_25 ⟨Nat.le_of_ble_eq_true rfl, Nat.le_of_ble_eq_true rfl⟩ rfl [0, 1] [] 0 rfl rfl rfl (by decide) rfl rfl rfl (by decide) (by decide) (fun w hp => ?_)
    subst hp
    show ZZ _ _ _ _ _ _ _ _ _ _ _ _ _ _ _ _ _ _ 28 [(0, .ref mo)] [] [oM mo th mw (nv : Int) mg ma mb (ns : Int) mlo mhi (nw : Int) mwe mru mrd, aL cL mw 160 (wkA (un ra0 5 (ra0 1)))]
    obtain ⟨ra, hra, a0, a1, a4, a5⟩ : ∃ ra : Nat → Nat, ra = (un ra0 5 (ra0 1)) ∧ ra 0 = rr 0 ∧ ra 1 = rr 1 ∧ ra 4 = rr 0 ∧ ra 5 = rr 1 := ⟨(un ra0 5 (ra0 1)), rfl, q0, q1, q4, q1⟩
    refine z_wq (ws' := [oM mo th mw (nv : Int) mg ma mb (ns : Int) mlo mhi (nw : Int) mwe mru mrd, aL cL mw 160 (wkA ra)]) (by rw [hra]) ?_
    refine z_aload_n S d_M_lowest_28 0 rfl ?_
    refine z_iconst S d_M_lowest_29 ?_
    refine z_iconst S d_M_lowest_30 ?_
    refine z_callVv (As := [.int (zI 4), .int (zI 5)]) (st := []) (wc := [oM mo th mw (nv : Int) mg ma mb (ns : Int) mlo mhi (nw : Int) mwe mru mrd, aL cL mw 160 (wkA ra)]) (wr := []) S hGok hK hg hA (s_M_common l dC dI cI cL qT mo mw nv ma mb ns mlo mhi nw mwe mru mrd th mg ra 4 5 (by omega) (by omega) (by omega) (by omega) (by omega) (by omega) (by omega)) (zcwV S (List.mem_cons_of_mem _ k_M_98) mV_M_common k_M_98 hd_M_common rfl rfl ⟨Nat.le_of_ble_eq_true rfl, Nat.le_of_ble_eq_true rfl⟩) rfl (Nat.le_of_ble_eq_true rfl) d_M_lowest_31 ⟨Nat.le_of_ble_eq_true rfl, Nat.le_of_ble_eq_true rfl⟩ rfl [0, 1] [] 0 rfl rfl rfl (by decide) rfl rfl rfl (by decide) (by decide) (fun w hp => ?_)
    subst hp
    show ZZ _ _ _ _ _ _ _ _ _ _ _ _ _ _ _ _ _ _ 34 [(0, .ref mo)] [] [oM mo th mw (nv : Int) mg ma mb (ns : Int) mlo mhi (nw : Int) mwe mru mrd, aL cL mw 160 (wkA (un (un ra 4 (Nat.gcd (ra 4) (ra 5))) 5 (0)))]
    obtain ⟨rb, hrb, b0, b1, b4⟩ : ∃ rb : Nat → Nat, rb = (un (un ra 4 (Nat.gcd (ra 4) (ra 5))) 5 (0)) ∧ rb 0 = rr 0 ∧ rb 1 = rr 1 ∧ rb 4 = Nat.gcd (rr 1) (rr 0) := ⟨(un (un ra 4 (Nat.gcd (ra 4) (ra 5))) 5 (0)), rfl, a0, a1, (by show Nat.gcd (ra 4) (ra 5) = _; rw [a4, a5, Nat.gcd_comm])⟩
    refine z_wq (ws' := [oM mo th mw (nv : Int) mg ma mb (ns : Int) mlo mhi (nw : Int) mwe mru mrd, aL cL mw 160 (wkA rb)]) (by rw [hrb]) ?_
    refine z_aload_n S d_M_lowest_34 0 rfl ?_
    refine z_iconst S d_M_lowest_35 ?_
    refine z_iconst S d_M_lowest_36 ?_
    refine z_iconst S d_M_lowest_37 ?_
    refine z_callVv (As := [.int (zI 0), .int (zI 4), .int (zI 5)]) (st := []) (wc := [oM mo th mw (nv : Int) mg ma mb (ns : Int) mlo mhi (nw : Int) mwe mru mrd, aL cL mw 160 (wkA rb)]) (wr := []) S hGok hK hg hA (s_M_divide l dC dI cI cL qT mo mw nv ma mb ns mlo mhi nw mwe mru mrd th mg rb 0 4 5 (by omega) (by omega) (by omega) (by omega) (by omega) (by omega) (by omega) (by omega) (by omega)) (zcwV S (List.mem_cons_of_mem _ k_M_101) mV_M_divide k_M_101 hd_M_divide rfl rfl ⟨Nat.le_of_ble_eq_true rfl, Nat.le_of_ble_eq_true rfl⟩) rfl (Nat.le_of_ble_eq_true rfl) d_M_lowest_38 ⟨Nat.le_of_ble_eq_true rfl, Nat.le_of_ble_eq_true rfl⟩ rfl [0, 1] [] 0 rfl rfl rfl (by decide) rfl rfl rfl (by decide) (by decide) (fun w hp => ?_)
    subst hp
    show ZZ _ _ _ _ _ _ _ _ _ _ _ _ _ _ _ _ _ _ 41 [(0, .ref mo)] [] [oM mo th mw (nv : Int) mg ma mb (ns : Int) mlo mhi (nw : Int) mwe mru mrd, aL cL mw 160 (wkA (un (un rb 5 (rb 0 / rb 4)) 0 (rb 0 % rb 4)))]
    obtain ⟨rc, hrc, c5, d1, d4⟩ : ∃ rc : Nat → Nat, rc = (un (un rb 5 (rb 0 / rb 4)) 0 (rb 0 % rb 4)) ∧ rc 5 = lwX (rr 0) (rr 1) ∧ rc 1 = rr 1 ∧ rc 4 = Nat.gcd (rr 1) (rr 0) := ⟨(un (un rb 5 (rb 0 / rb 4)) 0 (rb 0 % rb 4)), rfl, (by show rb 0 / rb 4 = _; rw [b0, b4]; rfl), b1, b4⟩
    refine z_wq (ws' := [oM mo th mw (nv : Int) mg ma mb (ns : Int) mlo mhi (nw : Int) mwe mru mrd, aL cL mw 160 (wkA rc)]) (by rw [hrc]) ?_
    refine z_aload_n S d_M_lowest_41 0 rfl ?_
    refine z_iconst S d_M_lowest_42 ?_
    refine z_iconst S d_M_lowest_43 ?_
    refine z_callVv (As := [.int (zI 5), .int (zI 0)]) (st := []) (wc := [oM mo th mw (nv : Int) mg ma mb (ns : Int) mlo mhi (nw : Int) mwe mru mrd, aL cL mw 160 (wkA rc)]) (wr := []) S hGok hK hg hA (s_M_copy l dC dI cI cL qT mo mw nv ma mb ns mlo mhi nw mwe mru mrd th mg rc 5 0 (by omega) (by omega)) (zcwV S (List.mem_cons_of_mem _ k_M_95) mV_M_copy k_M_95 hd_M_copy rfl rfl ⟨Nat.le_of_ble_eq_true rfl, Nat.le_of_ble_eq_true rfl⟩) rfl (Nat.le_of_ble_eq_true rfl) d_M_lowest_44 ⟨Nat.le_of_ble_eq_true rfl, Nat.le_of_ble_eq_true rfl⟩ rfl [0, 1] [] 0 rfl rfl rfl (by decide) rfl rfl rfl (by decide) (by decide) (fun w hp => ?_)
    subst hp
    show ZZ _ _ _ _ _ _ _ _ _ _ _ _ _ _ _ _ _ _ 47 [(0, .ref mo)] [] [oM mo th mw (nv : Int) mg ma mb (ns : Int) mlo mhi (nw : Int) mwe mru mrd, aL cL mw 160 (wkA (un rc 0 (rc 5)))]
    obtain ⟨rd, hrd, e0, e1, e4⟩ : ∃ rd : Nat → Nat, rd = (un rc 0 (rc 5)) ∧ rd 0 = lwX (rr 0) (rr 1) ∧ rd 1 = rr 1 ∧ rd 4 = Nat.gcd (rr 1) (rr 0) := ⟨(un rc 0 (rc 5)), rfl, c5, d1, d4⟩
    refine z_wq (ws' := [oM mo th mw (nv : Int) mg ma mb (ns : Int) mlo mhi (nw : Int) mwe mru mrd, aL cL mw 160 (wkA rd)]) (by rw [hrd]) ?_
    refine z_aload_n S d_M_lowest_47 0 rfl ?_
    refine z_iconst S d_M_lowest_48 ?_
    refine z_iconst S d_M_lowest_49 ?_
    refine z_iconst S d_M_lowest_50 ?_
    refine z_callVv (As := [.int (zI 1), .int (zI 4), .int (zI 5)]) (st := []) (wc := [oM mo th mw (nv : Int) mg ma mb (ns : Int) mlo mhi (nw : Int) mwe mru mrd, aL cL mw 160 (wkA rd)]) (wr := []) S hGok hK hg hA (s_M_divide l dC dI cI cL qT mo mw nv ma mb ns mlo mhi nw mwe mru mrd th mg rd 1 4 5 (by omega) (by omega) (by omega) (by omega) (by omega) (by omega) (by omega) (by omega) (by omega)) (zcwV S (List.mem_cons_of_mem _ k_M_101) mV_M_divide k_M_101 hd_M_divide rfl rfl ⟨Nat.le_of_ble_eq_true rfl, Nat.le_of_ble_eq_true rfl⟩) rfl (Nat.le_of_ble_eq_true rfl) d_M_lowest_51 ⟨Nat.le_of_ble_eq_true rfl, Nat.le_of_ble_eq_true rfl⟩ rfl [0, 1] [] 0 rfl rfl rfl (by decide) rfl rfl rfl (by decide) (by decide) (fun w hp => ?_)
    subst hp
    show ZZ _ _ _ _ _ _ _ _ _ _ _ _ _ _ _ _ _ _ 54 [(0, .ref mo)] [] [oM mo th mw (nv : Int) mg ma mb (ns : Int) mlo mhi (nw : Int) mwe mru mrd, aL cL mw 160 (wkA (un (un rd 5 (rd 1 / rd 4)) 1 (rd 1 % rd 4)))]
    obtain ⟨re, hre, g5, g0⟩ : ∃ re : Nat → Nat, re = (un (un rd 5 (rd 1 / rd 4)) 1 (rd 1 % rd 4)) ∧ re 5 = lwZ (rr 0) (rr 1) ∧ re 0 = lwX (rr 0) (rr 1) := ⟨(un (un rd 5 (rd 1 / rd 4)) 1 (rd 1 % rd 4)), rfl, (by show rd 1 / rd 4 = _; rw [e1, e4]; rfl), e0⟩
    refine z_wq (ws' := [oM mo th mw (nv : Int) mg ma mb (ns : Int) mlo mhi (nw : Int) mwe mru mrd, aL cL mw 160 (wkA re)]) (by rw [hre]) ?_
    refine z_aload_n S d_M_lowest_54 0 rfl ?_
    refine z_iconst S d_M_lowest_55 ?_
    refine z_iconst S d_M_lowest_56 ?_
    refine z_callVv (As := [.int (zI 5), .int (zI 1)]) (st := []) (wc := [oM mo th mw (nv : Int) mg ma mb (ns : Int) mlo mhi (nw : Int) mwe mru mrd, aL cL mw 160 (wkA re)]) (wr := []) S hGok hK hg hA (s_M_copy l dC dI cI cL qT mo mw nv ma mb ns mlo mhi nw mwe mru mrd th mg re 5 1 (by omega) (by omega)) (zcwV S (List.mem_cons_of_mem _ k_M_95) mV_M_copy k_M_95 hd_M_copy rfl rfl ⟨Nat.le_of_ble_eq_true rfl, Nat.le_of_ble_eq_true rfl⟩) rfl (Nat.le_of_ble_eq_true rfl) d_M_lowest_57 ⟨Nat.le_of_ble_eq_true rfl, Nat.le_of_ble_eq_true rfl⟩ rfl [0, 1] [] 0 rfl rfl rfl (by decide) rfl rfl rfl (by decide) (by decide) (fun w hp => ?_)
    subst hp
    show ZZ _ _ _ _ _ _ _ _ _ _ _ _ _ _ _ _ _ _ 60 [(0, .ref mo)] [] [oM mo th mw (nv : Int) mg ma mb (ns : Int) mlo mhi (nw : Int) mwe mru mrd, aL cL mw 160 (wkA (un re 1 (re 5)))]
    obtain ⟨rf, hrf, f0, f1⟩ : ∃ rf : Nat → Nat, rf = (un re 1 (re 5)) ∧ rf 0 = lwX (rr 0) (rr 1) ∧ rf 1 = lwZ (rr 0) (rr 1) := ⟨(un re 1 (re 5)), rfl, g0, g5⟩
    refine z_wq (ws' := [oM mo th mw (nv : Int) mg ma mb (ns : Int) mlo mhi (nw : Int) mwe mru mrd, aL cL mw 160 (wkA rf)]) (by rw [hrf]) ?_
    have t0 := tp_le (rf 0)
    have t1 := tp_le (rf 1)
    refine z_aload_n S d_M_lowest_60 0 rfl ?_
    refine z_iconst S d_M_lowest_61 ?_
    refine z_callVa (As := [.int (zI 0)]) (st := []) (wc := [oM mo th mw (nv : Int) mg ma mb (ns : Int) mlo mhi (nw : Int) mwe mru mrd, aL cL mw 160 (wkA rf)]) (wr := []) S hGok hK hg hA (s_M_top l dC dI cI cL qT mo mw nv ma mb ns mlo mhi nw mwe mru mrd th mg rf 0 (by omega)) (zcwV S (List.mem_cons_of_mem _ k_M_56) mV_M_top k_M_56 hd_M_top rfl rfl ⟨Nat.le_of_ble_eq_true rfl, Nat.le_of_ble_eq_true rfl⟩) rfl (Nat.le_of_ble_eq_true rfl) d_M_lowest_62 ⟨Nat.le_of_ble_eq_true rfl, Nat.le_of_ble_eq_true rfl⟩ rfl [0, 1] [] 0 rfl rfl rfl (by decide) rfl rfl rfl (by decide) (by decide) (fun x w hp => ?_)
    obtain ⟨rfl, rfl⟩ := hp
    show ZZ _ _ _ _ _ _ _ _ _ _ _ _ _ _ _ _ _ _ 65 [(0, .ref mo)] [.int (zI (((tp (rf 0) : Nat) : Int) - 1))] [oM mo th mw (nv : Int) mg ma mb (ns : Int) mlo mhi (nw : Int) mwe mru mrd, aL cL mw 160 (wkA rf)]
    refine z_bipush S d_M_lowest_65 rfl ?_
    refine z_icmp_ge (tgt := 84) S d_M_lowest_67 (by decide) (by omega) (by omega) (fun c2 => ?_) (fun c2 => ?_)
    · skip
      refine z_iconst S d_M_lowest_84 ?_
      have k0 := tp_8 (show rf 0 < 1000000 ^ 20 by omega)
      have k1 := tp_8 (show rf 1 < 1000000 ^ 20 by omega)
      generalize tp (rf 0) = a0 at *
      skip
      exact z_zret (w := [oM mo th mw (nv : Int) mg ma mb (ns : Int) mlo mhi (nw : Int) mwe mru mrd, aL cL mw 160 (wkA rf)]) S hr hlo hAe (by first | exact Or.inl rfl | exact Or.inr rfl) d_M_lowest_85 [0, 1] (by decide) rfl rfl ⟨Nat.le_refl _, Nat.le_refl _⟩ (⟨rf, f0, f1, by rw [b2_f (by rw [← f0, ← f1]; omega)], rfl⟩)
    · skip
      refine z_aload_n S d_M_lowest_70 0 rfl ?_
      refine z_iconst S d_M_lowest_71 ?_
      refine z_callVa (As := [.int (zI 1)]) (st := []) (wc := [oM mo th mw (nv : Int) mg ma mb (ns : Int) mlo mhi (nw : Int) mwe mru mrd, aL cL mw 160 (wkA rf)]) (wr := []) S hGok hK hg hA (s_M_top l dC dI cI cL qT mo mw nv ma mb ns mlo mhi nw mwe mru mrd th mg rf 1 (by omega)) (zcwV S (List.mem_cons_of_mem _ k_M_56) mV_M_top k_M_56 hd_M_top rfl rfl ⟨Nat.le_of_ble_eq_true rfl, Nat.le_of_ble_eq_true rfl⟩) rfl (Nat.le_of_ble_eq_true rfl) d_M_lowest_72 ⟨Nat.le_of_ble_eq_true rfl, Nat.le_of_ble_eq_true rfl⟩ rfl [0, 1] [] 0 rfl rfl rfl (by decide) rfl rfl rfl (by decide) (by decide) (fun x w hp => ?_)
      obtain ⟨rfl, rfl⟩ := hp
      show ZZ _ _ _ _ _ _ _ _ _ _ _ _ _ _ _ _ _ _ 75 [(0, .ref mo)] [.int (zI (((tp (rf 1) : Nat) : Int) - 1))] [oM mo th mw (nv : Int) mg ma mb (ns : Int) mlo mhi (nw : Int) mwe mru mrd, aL cL mw 160 (wkA rf)]
      refine z_bipush S d_M_lowest_75 rfl ?_
      refine z_icmp_ge (tgt := 84) S d_M_lowest_77 (by decide) (by omega) (by omega) (fun c3 => ?_) (fun c3 => ?_)
      · skip
        refine z_iconst S d_M_lowest_84 ?_
        have k0 := tp_8 (show rf 0 < 1000000 ^ 20 by omega)
        have k1 := tp_8 (show rf 1 < 1000000 ^ 20 by omega)
        generalize tp (rf 0) = a0 at *
        generalize tp (rf 1) = a1 at *
        exact z_zret (w := [oM mo th mw (nv : Int) mg ma mb (ns : Int) mlo mhi (nw : Int) mwe mru mrd, aL cL mw 160 (wkA rf)]) S hr hlo hAe (by first | exact Or.inl rfl | exact Or.inr rfl) d_M_lowest_85 [0, 1] (by decide) rfl rfl ⟨Nat.le_refl _, Nat.le_refl _⟩ (⟨rf, f0, f1, by rw [b2_f (by rw [← f0, ← f1]; omega)], rfl⟩)
      · skip
        refine z_iconst S d_M_lowest_80 ?_
        refine z_goto (tgt := 85) S d_M_lowest_81 (by decide) ?_
        have k0 := tp_8 (show rf 0 < 1000000 ^ 20 by omega)
        have k1 := tp_8 (show rf 1 < 1000000 ^ 20 by omega)
        generalize tp (rf 0) = a0 at *
        generalize tp (rf 1) = a1 at *
        exact z_zret (w := [oM mo th mw (nv : Int) mg ma mb (ns : Int) mlo mhi (nw : Int) mwe mru mrd, aL cL mw 160 (wkA rf)]) S hr hlo hAe (by first | exact Or.inl rfl | exact Or.inr rfl) d_M_lowest_85 [0, 1] (by decide) rfl rfl ⟨Nat.le_refl _, Nat.le_refl _⟩ (⟨rf, f0, f1, by rw [b2_t (by rw [← f0, ← f1]; omega)], rfl⟩)
  · skip
    refine z_aload_n S d_M_lowest_8 0 rfl ?_
    refine z_iconst S d_M_lowest_9 ?_
    refine z_lconst (z := 1) S d_M_lowest_10 rfl ?_
    refine z_callVv (As := [.int (zI 1), .long (zL 1)]) (st := []) (wc := [oM mo th mw (nv : Int) mg ma mb (ns : Int) mlo mhi (nw : Int) mwe mru mrd, aL cL mw 160 (wkA rr)]) (wr := []) S hGok hK hg hA (s_M_set l dC dI cI cL qT mo mw nv ma mb ns mlo mhi nw mwe mru mrd th mg rr 1 1 (by omega) (by omega)) (zcwV S (List.mem_cons_of_mem _ k_M_91) mV_M_set k_M_91 hd_M_set rfl rfl ⟨Nat.le_of_ble_eq_true rfl, Nat.le_of_ble_eq_true rfl⟩) rfl (Nat.le_of_ble_eq_true rfl) d_M_lowest_11 ⟨Nat.le_of_ble_eq_true rfl, Nat.le_of_ble_eq_true rfl⟩ rfl [0, 1] [] 0 rfl rfl rfl (by decide) rfl rfl rfl (by decide) (by decide) (fun w hp => ?_)
    subst hp
    show ZZ _ _ _ _ _ _ _ _ _ _ _ _ _ _ _ _ _ _ 14 [(0, .ref mo)] [] [oM mo th mw (nv : Int) mg ma mb (ns : Int) mlo mhi (nw : Int) mwe mru mrd, aL cL mw 160 (wkA (un rr 1 1))]
    refine z_iconst S d_M_lowest_14 ?_
    have hz : rr 0 = 0 := b2_p c1
    have hl := lw_0 h1p
    rw [← hz] at hl
    exact z_zret (w := [oM mo th mw (nv : Int) mg ma mb (ns : Int) mlo mhi (nw : Int) mwe mru mrd, aL cL mw 160 (wkA (un rr 1 1))]) S hr hlo hAe (by first | exact Or.inl rfl | exact Or.inr rfl) d_M_lowest_15 [0, 1] (by decide) rfl rfl ⟨Nat.le_refl _, Nat.le_refl _⟩ (⟨un rr 1 1, (show rr 0 = lwX (rr 0) (rr 1) from hl.1.symm), hl.2.symm, by rw [b2_t ⟨by rw [hl.1, hz]; decide, by rw [hl.2]; decide⟩], rfl⟩)
set_option maxHeartbeats 4000000 in
set_option maxRecDepth 100000 in
theorem s_M_loadUp (l : Launch) (dC : Nat → ClassId) (dI : Nat → Nat → Nat) (cI cL : ClassId) (qT : Nat) (mo : Nat) (mw : Nat) (nv : Nat) (ma : Nat) (mb : Nat) (ns : Nat) (mlo : Nat) (mhi : Nat) (nw : Nat) (mwe : Nat) (mru : Nat) (mrd : Nat) (th : Int) (mg : Nat) (rr : Nat → Nat) (up : Nat → Nat) (u : Nat) (r : Nat) (hr8 : r < 8) (hu : u < 100) (hb : up u < 10 ^ 48) : Cv l y_M_loadUp (Cond.code y_M_loadUp c_M_loadUp 4 none :: zB) { frames := 1, cells := 0, slots := 0, locals := 22 } (dC, dI) zcl [(cI, .int), (cL, .long)] (zG cI cL qT) [.ref mo, .int (zI (u : Int)), .int (zI (r : Int))] [oM mo th mw (nv : Int) mg ma mb (ns : Int) mlo mhi (nw : Int) mwe mru mrd, aL cL mw 160 (wkA rr), aL cL ma 800 (moA up)] (fun wv => wv = [oM mo th mw (nv : Int) mg ma mb (ns : Int) mlo mhi (nw : Int) mwe mru mrd, aL cL mw 160 (wkA (un rr r (up u))), aL cL ma 800 (moA up)]) 0 0 := by
  refine Cm.ofZ (cc := c_M_loadUp) (maxL := 4) (ret := none) (by decide) rfl (Nat.le_of_ble_eq_true rfl) rfl ?_
  intro p e s m below meth c A S hr hlo hnm hK hg hA hAe
  have hGok := zG_ok cI cL qT
  show ZZ _ _ _ _ _ _ _ _ _ _ _ _ _ _ _ _ _ _ 0 [(0, .ref mo), (1, .int (zI (u : Int))), (2, .int (zI (r : Int)))] [] [oM mo th mw (nv : Int) mg ma mb (ns : Int) mlo mhi (nw : Int) mwe mru mrd, aL cL mw 160 (wkA rr), aL cL ma 800 (moA up)]
  refine z_aload_n S d_M_loadUp_0 0 rfl ?_
  refine z_iload_n S d_M_loadUp_1 2 rfl ?_
  refine z_callVv (As := [.int (zI (r : Int))]) (st := []) (wc := [oM mo th mw (nv : Int) mg ma mb (ns : Int) mlo mhi (nw : Int) mwe mru mrd, aL cL mw 160 (wkA rr)]) (wr := [aL cL ma 800 (moA up)]) S hGok hK hg hA (s_M_clear l dC dI cI cL qT mo mw nv ma mb ns mlo mhi nw mwe mru mrd th mg rr r (by omega)) (zcwV S (List.mem_cons_of_mem _ k_M_48) mV_M_clear k_M_48 hd_M_clear rfl rfl ⟨Nat.le_of_ble_eq_true rfl, Nat.le_of_ble_eq_true rfl⟩) rfl (Nat.le_of_ble_eq_true rfl) d_M_loadUp_2 ⟨Nat.le_of_ble_eq_true rfl, Nat.le_of_ble_eq_true rfl⟩ rfl [0, 1] [2] 0 rfl rfl rfl (by decide) rfl rfl rfl (by decide) (by decide) (fun w hp => ?_)
  subst hp
  show ZZ _ _ _ _ _ _ _ _ _ _ _ _ _ _ _ _ _ _ 5 [(0, .ref mo), (1, .int (zI (u : Int))), (2, .int (zI (r : Int)))] [] [aL cL ma 800 (moA up), oM mo th mw (nv : Int) mg ma mb (ns : Int) mlo mhi (nw : Int) mwe mru mrd, aL cL mw 160 (wkA (un rr r 0))]
  refine z_iconst S d_M_loadUp_5 ?_
  refine z_istore_n (lv' := [(3, .int (zI 0)), (0, .ref mo), (1, .int (zI (u : Int))), (2, .int (zI (r : Int)))]) S d_M_loadUp_6 rfl (by decide) rfl ?_
  refine z_lv (lv' := [(0, .ref mo), (1, .int (zI (u : Int))), (2, .int (zI (r : Int))), (3, .int (zI 0))]) [1, 2, 3, 0] rfl ?_
  refine z_ws (ws' := [oM mo th mw (nv : Int) mg ma mb (ns : Int) mlo mhi (nw : Int) mwe mru mrd, aL cL mw 160 (wkA (un rr r 0)), aL cL ma 800 (moA up)]) [1, 2, 0] (by decide) rfl rfl ?_
  refine z_wq (ws' := [oM mo th mw (nv : Int) mg ma mb (ns : Int) mlo mhi (nw : Int) mwe mru mrd, aL cL mw 160 (wkR rr r (mx (dg 1000000 (up u)) (dg 1000000 0) 0)), aL cL ma 800 (moA up)]) (by rw [mx_0, wkR_un]) ?_
  refine z_lq (lv' := [(0, .ref mo), (1, .int (zI (u : Int))), (2, .int (zI (r : Int))), (3, .int (zI ((0 : Nat) : Int)))]) (congrArg (fun zzz : Int => ([(0, .ref mo), (1, .int (zI (u : Int))), (2, .int (zI (r : Int))), (3, .int (zI zzz))] : List (Nat × Value))) (show (0 : Int) = ((0 : Nat) : Int) by omega)) ?_
  refine z_loop (I := fun (i : Nat) => (i ≤ 8)) (μ := fun (i : Nat) => 8 - i) (LV := fun (i : Nat) => [(0, .ref mo), (1, .int (zI (u : Int))), (2, .int (zI (r : Int))), (3, .int (zI (i : Int)))]) (WS := fun (i : Nat) => [oM mo th mw (nv : Int) mg ma mb (ns : Int) mlo mhi (nw : Int) mwe mru mrd, aL cL mw 160 (wkR rr r (mx (dg 1000000 (up u)) (dg 1000000 0) i)), aL cL ma 800 (moA up)]) (a := 0) ?_ ?_
  · exact (show (0 ≤ 8) from by omega)
  · intro i hI ih7
    have hi : i ≤ 8 := hI
    show ZZ _ _ _ _ _ _ _ _ _ _ _ _ _ _ _ _ _ _ 7 [(0, .ref mo), (1, .int (zI (u : Int))), (2, .int (zI (r : Int))), (3, .int (zI (i : Int)))] [] [oM mo th mw (nv : Int) mg ma mb (ns : Int) mlo mhi (nw : Int) mwe mru mrd, aL cL mw 160 (wkR rr r (mx (dg 1000000 (up u)) (dg 1000000 0) i)), aL cL ma 800 (moA up)]
    refine z_iload_n S d_M_loadUp_7 3 rfl ?_
    refine z_bipush S d_M_loadUp_8 rfl ?_
    refine z_icmp_ge (tgt := 41) S d_M_loadUp_10 (by decide) (by omega) (by omega) (fun c1 => ?_) (fun c1 => ?_)
    · skip
      refine z_wq (ws' := [oM mo th mw (nv : Int) mg ma mb (ns : Int) mlo mhi (nw : Int) mwe mru mrd, aL cL mw 160 (wkA (un rr r (up u))), aL cL ma 800 (moA up)]) (by rw [show i = 8 by omega, mx_e2 (show up u / 1000000 ^ 8 = 0 / 1000000 ^ 8 by rw [dv_z (by rw [← e48]; exact hb), Nat.zero_div]), wkR_un]) ?_
      exact z_vret (w := [oM mo th mw (nv : Int) mg ma mb (ns : Int) mlo mhi (nw : Int) mwe mru mrd, aL cL mw 160 (wkA (un rr r (up u))), aL cL ma 800 (moA up)]) S hr hlo hAe d_M_loadUp_41 [0, 1, 2] (by decide) rfl rfl ⟨Nat.le_refl _, Nat.le_refl _⟩ (rfl)
    · skip
      refine z_aload_n S d_M_loadUp_13 0 rfl ?_
      refine z_get S hK la_M 0 rfl rfl 1 (by decide) k_M_7 rfl d_M_loadUp_14 ?_
      refine z_iload_n S d_M_loadUp_17 2 rfl ?_
      refine z_bipush S d_M_loadUp_18 rfl ?_
      refine z_imul S d_M_loadUp_20 ?_
      refine z_iload_n S d_M_loadUp_21 3 rfl ?_
      refine z_iadd S d_M_loadUp_22 ?_
      refine z_aload_n S d_M_loadUp_23 0 rfl ?_
      refine z_get S hK la_M 0 rfl rfl 4 (by decide) k_M_17 rfl d_M_loadUp_24 ?_
      refine z_bipush S d_M_loadUp_27 rfl ?_
      refine z_iload_n S d_M_loadUp_29 1 rfl ?_
      refine z_imul S d_M_loadUp_30 ?_
      refine z_iload_n S d_M_loadUp_31 3 rfl ?_
      refine z_iadd S d_M_loadUp_32 ?_
      refine z_lald (x := ((dg 1000000 (up u) i : Nat) : Int)) S hK 2 1 rfl rfl (8 * u + i) (by omega) (by omega) (by decide) (moA_at up (by omega)) d_M_loadUp_33 ?_
      refine z_last (f' := wkR rr r (mx (dg 1000000 (up u)) (dg 1000000 0) (i + 1))) (ws' := [oM mo th mw (nv : Int) mg ma mb (ns : Int) mlo mhi (nw : Int) mwe mru mrd, aL cL mw 160 (wkR rr r (mx (dg 1000000 (up u)) (dg 1000000 0) (i + 1))), aL cL ma 800 (moA up)]) S hK 1 1 rfl rfl (r * 20 + i) (by omega) (by omega) (by decide) (wkR_mx (by omega) rfl) rfl d_M_loadUp_34 ?_
      refine z_iinc (y := ((i + 1 : Nat) : Int)) (lv' := [(3, .int (zI ((i + 1 : Nat) : Int))), (0, .ref mo), (1, .int (zI (u : Int))), (2, .int (zI (r : Int)))]) S d_M_loadUp_35 3 rfl (by omega) (by decide) rfl ?_
      refine z_goto (tgt := 7) S d_M_loadUp_38 (by decide) ?_
      refine z_lv (lv' := [(0, .ref mo), (1, .int (zI (u : Int))), (2, .int (zI (r : Int))), (3, .int (zI ((i + 1 : Nat) : Int)))]) [1, 2, 3, 0] rfl ?_
      exact ih7 (i + 1) (show ((i + 1) ≤ 8) from by omega) (show 8 - (i + 1) < 8 - i from by omega)
set_option maxHeartbeats 4000000 in
set_option maxRecDepth 100000 in
theorem s_M_loadDown (l : Launch) (dC : Nat → ClassId) (dI : Nat → Nat → Nat) (cI cL : ClassId) (qT : Nat) (mo : Nat) (mw : Nat) (nv : Nat) (ma : Nat) (mb : Nat) (ns : Nat) (mlo : Nat) (mhi : Nat) (nw : Nat) (mwe : Nat) (mru : Nat) (mrd : Nat) (th : Int) (mg : Nat) (rr : Nat → Nat) (dn : Nat → Nat) (u : Nat) (r : Nat) (hr8 : r < 8) (hu : u < 100) (hb : dn u < 10 ^ 48) : Cv l y_M_loadDown (Cond.code y_M_loadDown c_M_loadDown 4 none :: zB) { frames := 1, cells := 0, slots := 0, locals := 22 } (dC, dI) zcl [(cI, .int), (cL, .long)] (zG cI cL qT) [.ref mo, .int (zI (u : Int)), .int (zI (r : Int))] [oM mo th mw (nv : Int) mg ma mb (ns : Int) mlo mhi (nw : Int) mwe mru mrd, aL cL mw 160 (wkA rr), aL cL mb 800 (moA dn)] (fun wv => wv = [oM mo th mw (nv : Int) mg ma mb (ns : Int) mlo mhi (nw : Int) mwe mru mrd, aL cL mw 160 (wkA (un rr r (dn u))), aL cL mb 800 (moA dn)]) 0 0 := by
  refine Cm.ofZ (cc := c_M_loadDown) (maxL := 4) (ret := none) (by decide) rfl (Nat.le_of_ble_eq_true rfl) rfl ?_
  intro p e s m below meth c A S hr hlo hnm hK hg hA hAe
  have hGok := zG_ok cI cL qT
  show ZZ _ _ _ _ _ _ _ _ _ _ _ _ _ _ _ _ _ _ 0 [(0, .ref mo), (1, .int (zI (u : Int))), (2, .int (zI (r : Int)))] [] [oM mo th mw (nv : Int) mg ma mb (ns : Int) mlo mhi (nw : Int) mwe mru mrd, aL cL mw 160 (wkA rr), aL cL mb 800 (moA dn)]
  refine z_aload_n S d_M_loadDown_0 0 rfl ?_
  refine z_iload_n S d_M_loadDown_1 2 rfl ?_
  refine z_callVv (As := [.int (zI (r : Int))]) (st := []) (wc := [oM mo th mw (nv : Int) mg ma mb (ns : Int) mlo mhi (nw : Int) mwe mru mrd, aL cL mw 160 (wkA rr)]) (wr := [aL cL mb 800 (moA dn)]) S hGok hK hg hA (s_M_clear l dC dI cI cL qT mo mw nv ma mb ns mlo mhi nw mwe mru mrd th mg rr r (by omega)) (zcwV S (List.mem_cons_of_mem _ k_M_48) mV_M_clear k_M_48 hd_M_clear rfl rfl ⟨Nat.le_of_ble_eq_true rfl, Nat.le_of_ble_eq_true rfl⟩) rfl (Nat.le_of_ble_eq_true rfl) d_M_loadDown_2 ⟨Nat.le_of_ble_eq_true rfl, Nat.le_of_ble_eq_true rfl⟩ rfl [0, 1] [2] 0 rfl rfl rfl (by decide) rfl rfl rfl (by decide) (by decide) (fun w hp => ?_)
  subst hp
  show ZZ _ _ _ _ _ _ _ _ _ _ _ _ _ _ _ _ _ _ 5 [(0, .ref mo), (1, .int (zI (u : Int))), (2, .int (zI (r : Int)))] [] [aL cL mb 800 (moA dn), oM mo th mw (nv : Int) mg ma mb (ns : Int) mlo mhi (nw : Int) mwe mru mrd, aL cL mw 160 (wkA (un rr r 0))]
  refine z_iconst S d_M_loadDown_5 ?_
  refine z_istore_n (lv' := [(3, .int (zI 0)), (0, .ref mo), (1, .int (zI (u : Int))), (2, .int (zI (r : Int)))]) S d_M_loadDown_6 rfl (by decide) rfl ?_
  refine z_lv (lv' := [(0, .ref mo), (1, .int (zI (u : Int))), (2, .int (zI (r : Int))), (3, .int (zI 0))]) [1, 2, 3, 0] rfl ?_
  refine z_ws (ws' := [oM mo th mw (nv : Int) mg ma mb (ns : Int) mlo mhi (nw : Int) mwe mru mrd, aL cL mw 160 (wkA (un rr r 0)), aL cL mb 800 (moA dn)]) [1, 2, 0] (by decide) rfl rfl ?_
  refine z_wq (ws' := [oM mo th mw (nv : Int) mg ma mb (ns : Int) mlo mhi (nw : Int) mwe mru mrd, aL cL mw 160 (wkR rr r (mx (dg 1000000 (dn u)) (dg 1000000 0) 0)), aL cL mb 800 (moA dn)]) (by rw [mx_0, wkR_un]) ?_
  refine z_lq (lv' := [(0, .ref mo), (1, .int (zI (u : Int))), (2, .int (zI (r : Int))), (3, .int (zI ((0 : Nat) : Int)))]) (congrArg (fun zzz : Int => ([(0, .ref mo), (1, .int (zI (u : Int))), (2, .int (zI (r : Int))), (3, .int (zI zzz))] : List (Nat × Value))) (show (0 : Int) = ((0 : Nat) : Int) by omega)) ?_
  refine z_loop (I := fun (i : Nat) => (i ≤ 8)) (μ := fun (i : Nat) => 8 - i) (LV := fun (i : Nat) => [(0, .ref mo), (1, .int (zI (u : Int))), (2, .int (zI (r : Int))), (3, .int (zI (i : Int)))]) (WS := fun (i : Nat) => [oM mo th mw (nv : Int) mg ma mb (ns : Int) mlo mhi (nw : Int) mwe mru mrd, aL cL mw 160 (wkR rr r (mx (dg 1000000 (dn u)) (dg 1000000 0) i)), aL cL mb 800 (moA dn)]) (a := 0) ?_ ?_
  · exact (show (0 ≤ 8) from by omega)
  · intro i hI ih7
    have hi : i ≤ 8 := hI
    show ZZ _ _ _ _ _ _ _ _ _ _ _ _ _ _ _ _ _ _ 7 [(0, .ref mo), (1, .int (zI (u : Int))), (2, .int (zI (r : Int))), (3, .int (zI (i : Int)))] [] [oM mo th mw (nv : Int) mg ma mb (ns : Int) mlo mhi (nw : Int) mwe mru mrd, aL cL mw 160 (wkR rr r (mx (dg 1000000 (dn u)) (dg 1000000 0) i)), aL cL mb 800 (moA dn)]
    refine z_iload_n S d_M_loadDown_7 3 rfl ?_
    refine z_bipush S d_M_loadDown_8 rfl ?_
    refine z_icmp_ge (tgt := 41) S d_M_loadDown_10 (by decide) (by omega) (by omega) (fun c1 => ?_) (fun c1 => ?_)
    · skip
      refine z_wq (ws' := [oM mo th mw (nv : Int) mg ma mb (ns : Int) mlo mhi (nw : Int) mwe mru mrd, aL cL mw 160 (wkA (un rr r (dn u))), aL cL mb 800 (moA dn)]) (by rw [show i = 8 by omega, mx_e2 (show dn u / 1000000 ^ 8 = 0 / 1000000 ^ 8 by rw [dv_z (by rw [← e48]; exact hb), Nat.zero_div]), wkR_un]) ?_
      exact z_vret (w := [oM mo th mw (nv : Int) mg ma mb (ns : Int) mlo mhi (nw : Int) mwe mru mrd, aL cL mw 160 (wkA (un rr r (dn u))), aL cL mb 800 (moA dn)]) S hr hlo hAe d_M_loadDown_41 [0, 1, 2] (by decide) rfl rfl ⟨Nat.le_refl _, Nat.le_refl _⟩ (rfl)
    · skip
      refine z_aload_n S d_M_loadDown_13 0 rfl ?_
      refine z_get S hK la_M 0 rfl rfl 1 (by decide) k_M_7 rfl d_M_loadDown_14 ?_
      refine z_iload_n S d_M_loadDown_17 2 rfl ?_
      refine z_bipush S d_M_loadDown_18 rfl ?_
      refine z_imul S d_M_loadDown_20 ?_
      refine z_iload_n S d_M_loadDown_21 3 rfl ?_
      refine z_iadd S d_M_loadDown_22 ?_
      refine z_aload_n S d_M_loadDown_23 0 rfl ?_
      refine z_get S hK la_M 0 rfl rfl 5 (by decide) k_M_20 rfl d_M_loadDown_24 ?_
      refine z_bipush S d_M_loadDown_27 rfl ?_
      refine z_iload_n S d_M_loadDown_29 1 rfl ?_
      refine z_imul S d_M_loadDown_30 ?_
      refine z_iload_n S d_M_loadDown_31 3 rfl ?_
      refine z_iadd S d_M_loadDown_32 ?_
      refine z_lald (x := ((dg 1000000 (dn u) i : Nat) : Int)) S hK 2 1 rfl rfl (8 * u + i) (by omega) (by omega) (by decide) (moA_at dn (by omega)) d_M_loadDown_33 ?_
      refine z_last (f' := wkR rr r (mx (dg 1000000 (dn u)) (dg 1000000 0) (i + 1))) (ws' := [oM mo th mw (nv : Int) mg ma mb (ns : Int) mlo mhi (nw : Int) mwe mru mrd, aL cL mw 160 (wkR rr r (mx (dg 1000000 (dn u)) (dg 1000000 0) (i + 1))), aL cL mb 800 (moA dn)]) S hK 1 1 rfl rfl (r * 20 + i) (by omega) (by omega) (by decide) (wkR_mx (by omega) rfl) rfl d_M_loadDown_34 ?_
      refine z_iinc (y := ((i + 1 : Nat) : Int)) (lv' := [(3, .int (zI ((i + 1 : Nat) : Int))), (0, .ref mo), (1, .int (zI (u : Int))), (2, .int (zI (r : Int)))]) S d_M_loadDown_35 3 rfl (by omega) (by decide) rfl ?_
      refine z_goto (tgt := 7) S d_M_loadDown_38 (by decide) ?_
      refine z_lv (lv' := [(0, .ref mo), (1, .int (zI (u : Int))), (2, .int (zI (r : Int))), (3, .int (zI ((i + 1 : Nat) : Int)))]) [1, 2, 3, 0] rfl ?_
      exact ih7 (i + 1) (show ((i + 1) ≤ 8) from by omega) (show 8 - (i + 1) < 8 - i from by omega)
set_option maxHeartbeats 4000000 in
set_option maxRecDepth 100000 in
theorem s_M_keepFit (l : Launch) (dC : Nat → ClassId) (dI : Nat → Nat → Nat) (cI cL : ClassId) (qT : Nat) (mo : Nat) (mw : Nat) (nv : Nat) (ma : Nat) (mb : Nat) (ns : Nat) (mlo : Nat) (mhi : Nat) (nw : Nat) (mwe : Nat) (mru : Nat) (mrd : Nat) (th : Int) (mg : Nat) (rr : Nat → Nat) (sg : Nat → Int) (up : Nat → Nat) (dn : Nat → Nat) (s1 : Int) (hnv : nv < 100) (h0b : rr 0 < 1000000 ^ 20) (h1b : rr 1 < 1000000 ^ 20) (h1p : 0 < rr 1) (hs1 : -1 ≤ s1 ∧ s1 ≤ 1) (hfit : lwX (rr 0) (rr 1) < 10 ^ 48 ∧ lwZ (rr 0) (rr 1) < 10 ^ 48) : Ct l y_M_keep (Cond.code y_M_keep c_M_keep 3 (some .int) :: zB) { frames := 4, cells := 0, slots := 0, locals := 106 } (dC, dI) zcl [(cI, .int), (cL, .long)] (zG cI cL qT) [.ref mo, .int (zI s1)] [oM mo th mw (nv : Int) mg ma mb (ns : Int) mlo mhi (nw : Int) mwe mru mrd, aL cL mw 160 (wkA rr), aI cI mg 100 (sgA sg), aL cL ma 800 (moA up), aL cL mb 800 (moA dn)] (fun rv wv => ∃ rr2 : Nat → Nat, rv = .int (zI (nv : Int)) ∧ wv = [oM mo th mw ((nv + 1 : Nat) : Int) mg ma mb (ns : Int) mlo mhi (nw : Int) mwe mru mrd, aL cL mw 160 (wkA rr2), aI cI mg 100 (sgA (uz sg nv (zs (lwX (rr 0) (rr 1)) s1))), aL cL ma 800 (moA (un up nv (lwX (rr 0) (rr 1)))), aL cL mb 800 (moA (un dn nv (lwZ (rr 0) (rr 1))))]) 0 0 := by
  refine Cm.ofZ (cc := c_M_keep) (maxL := 3) (ret := (some .int)) (by decide) rfl (Nat.le_of_ble_eq_true rfl) rfl ?_
  intro p e s m below meth c A S hr hlo hnm hK hg hA hAe
  have hGok := zG_ok cI cL qT
  show ZZ _ _ _ _ _ _ _ _ _ _ _ _ _ _ _ _ _ _ 0 [(0, .ref mo), (1, .int (zI s1))] [] [oM mo th mw (nv : Int) mg ma mb (ns : Int) mlo mhi (nw : Int) mwe mru mrd, aL cL mw 160 (wkA rr), aI cI mg 100 (sgA sg), aL cL ma 800 (moA up), aL cL mb 800 (moA dn)]
  have hle := lw_le (rr 0) (rr 1)
  have hb := b2_t (P := lwX (rr 0) (rr 1) < 10 ^ 48 ∧ lwZ (rr 0) (rr 1) < 10 ^ 48) hfit
  refine z_aload_n S d_M_keep_0 0 rfl ?_
  refine z_callVa (As := []) (st := []) (wc := [oM mo th mw (nv : Int) mg ma mb (ns : Int) mlo mhi (nw : Int) mwe mru mrd, aL cL mw 160 (wkA rr)]) (wr := [aI cI mg 100 (sgA sg), aL cL ma 800 (moA up), aL cL mb 800 (moA dn)]) S hGok hK hg hA (s_M_lowest l dC dI cI cL qT mo mw nv ma mb ns mlo mhi nw mwe mru mrd th mg rr (by omega) (by omega) (by omega)) (zcwV S (List.mem_cons_of_mem _ k_M_105) mV_M_lowest k_M_105 hd_M_lowest rfl rfl ⟨Nat.le_of_ble_eq_true rfl, Nat.le_of_ble_eq_true rfl⟩) rfl (Nat.le_of_ble_eq_true rfl) d_M_keep_1 ⟨Nat.le_of_ble_eq_true rfl, Nat.le_of_ble_eq_true rfl⟩ rfl [0, 1] [2, 3, 4] 0 rfl rfl rfl (by decide) rfl rfl rfl (by decide) (by decide) (fun x w hp => ?_)
  obtain ⟨rk, kk0, kk1, rfl, rfl⟩ := hp
  show ZZ _ _ _ _ _ _ _ _ _ _ _ _ _ _ _ _ _ _ 4 [(0, .ref mo), (1, .int (zI s1))] [.int (zI (b2 (lwX (rr 0) (rr 1) < 10 ^ 48 ∧ lwZ (rr 0) (rr 1) < 10 ^ 48)))] [aI cI mg 100 (sgA sg), aL cL ma 800 (moA up), aL cL mb 800 (moA dn), oM mo th mw (nv : Int) mg ma mb (ns : Int) mlo mhi (nw : Int) mwe mru mrd, aL cL mw 160 (wkA rk)]
  refine z_if_ne (tgt := 9) S d_M_keep_4 (by decide) (by omega) (fun c1 => ?_) (fun c1 => ?_)
  · skip
    refine z_aload_n S d_M_keep_9 0 rfl ?_
    refine z_get S hK la_M 3 rfl rfl 3 (by decide) k_M_13 rfl d_M_keep_10 ?_
    refine z_aload_n S d_M_keep_13 0 rfl ?_
    refine z_get S hK la_M 3 rfl rfl 2 (by decide) k_M_42 rfl d_M_keep_14 ?_
    refine z_aload_n S d_M_keep_17 0 rfl ?_
    refine z_iconst S d_M_keep_18 ?_
    refine z_callVa (As := [.int (zI 0)]) (st := [.int (zI (nv : Int)), .ref mg]) (wc := [oM mo th mw (nv : Int) mg ma mb (ns : Int) mlo mhi (nw : Int) mwe mru mrd, aL cL mw 160 (wkA rk)]) (wr := [aI cI mg 100 (sgA sg), aL cL ma 800 (moA up), aL cL mb 800 (moA dn)]) S hGok hK hg hA (s_M_isNought l dC dI cI cL qT mo mw nv ma mb ns mlo mhi nw mwe mru mrd th mg rk 0 (by omega) (by omega)) (zcwV S (List.mem_cons_of_mem _ k_M_77) mV_M_isNought k_M_77 hd_M_isNought rfl rfl ⟨Nat.le_of_ble_eq_true rfl, Nat.le_of_ble_eq_true rfl⟩) rfl (Nat.le_of_ble_eq_true rfl) d_M_keep_19 ⟨Nat.le_of_ble_eq_true rfl, Nat.le_of_ble_eq_true rfl⟩ rfl [3, 4] [0, 1, 2] 3 rfl rfl rfl (by decide) rfl rfl rfl (by decide) (by decide) (fun x w hp => ?_)
    obtain ⟨rfl, rfl⟩ := hp
    show ZZ _ _ _ _ _ _ _ _ _ _ _ _ _ _ _ _ _ _ 22 [(0, .ref mo), (1, .int (zI s1))] [.int (zI (b2 (rk 0 = 0))), .int (zI (nv : Int)), .ref mg] [aI cI mg 100 (sgA sg), aL cL ma 800 (moA up), aL cL mb 800 (moA dn), oM mo th mw (nv : Int) mg ma mb (ns : Int) mlo mhi (nw : Int) mwe mru mrd, aL cL mw 160 (wkA rk)]
    have hbz := b2_r (rk 0 = 0)
    refine z_if_eq (tgt := 29) S d_M_keep_22 (by decide) (by omega) (fun c2 => ?_) (fun c2 => ?_)
    · skip
      refine z_iload_n S d_M_keep_29 1 rfl ?_
      refine z_iast (f' := sgA (uz sg nv (zs (lwX (rr 0) (rr 1)) s1))) (ws' := [aI cI mg 100 (sgA (uz sg nv (zs (lwX (rr 0) (rr 1)) s1))), aL cL ma 800 (moA up), aL cL mb 800 (moA dn), oM mo th mw (nv : Int) mg ma mb (ns : Int) mlo mhi (nw : Int) mwe mru mrd, aL cL mw 160 (wkA rk)]) S hK 0 0 rfl rfl nv rfl (by omega) (by decide) (sgA_u (v := zs (lwX (rr 0) (rr 1)) s1) (zI_c (by unfold zs; rw [if_neg (by rw [← kk0]; exact b2_0.mp c2)]))) rfl d_M_keep_30 ?_
      refine z_iconst S d_M_keep_31 ?_
      refine z_istore_n (lv' := [(2, .int (zI 0)), (0, .ref mo), (1, .int (zI s1))]) S d_M_keep_32 rfl (by decide) rfl ?_
      refine z_lv (lv' := [(0, .ref mo), (2, .int (zI 0))]) [1, 0] rfl ?_
      refine z_ws (ws' := [oM mo th mw (nv : Int) mg ma mb (ns : Int) mlo mhi (nw : Int) mwe mru mrd, aL cL mw 160 (wkA rk), aI cI mg 100 (sgA (uz sg nv (zs (lwX (rr 0) (rr 1)) s1))), aL cL ma 800 (moA up), aL cL mb 800 (moA dn)]) [3, 4, 0, 1, 2] (by decide) rfl rfl ?_
      refine z_wq (ws' := [oM mo th mw (nv : Int) mg ma mb (ns : Int) mlo mhi (nw : Int) mwe mru mrd, aL cL mw 160 (wkA rk), aI cI mg 100 (sgA (uz sg nv (zs (lwX (rr 0) (rr 1)) s1))), aL cL ma 800 (moM up nv (lwX (rr 0) (rr 1)) 0), aL cL mb 800 (moM dn nv (lwZ (rr 0) (rr 1)) 0)]) (by rw [moM_0, moM_0]) ?_
      refine z_lq (lv' := [(0, .ref mo), (2, .int (zI ((0 : Nat) : Int)))]) (congrArg (fun zzz : Int => ([(0, .ref mo), (2, .int (zI zzz))] : List (Nat × Value))) (show (0 : Int) = ((0 : Nat) : Int) by omega)) ?_
      refine z_loop (I := fun (i : Nat) => (i ≤ 8)) (μ := fun (i : Nat) => 8 - i) (LV := fun (i : Nat) => [(0, .ref mo), (2, .int (zI (i : Int)))]) (WS := fun (i : Nat) => [oM mo th mw (nv : Int) mg ma mb (ns : Int) mlo mhi (nw : Int) mwe mru mrd, aL cL mw 160 (wkA rk), aI cI mg 100 (sgA (uz sg nv (zs (lwX (rr 0) (rr 1)) s1))), aL cL ma 800 (moM up nv (lwX (rr 0) (rr 1)) i), aL cL mb 800 (moM dn nv (lwZ (rr 0) (rr 1)) i)]) (a := 0) ?_ ?_
      · exact (show (0 ≤ 8) from by omega)
      · intro i hI ih33
        have hi : i ≤ 8 := hI
        show ZZ _ _ _ _ _ _ _ _ _ _ _ _ _ _ _ _ _ _ 33 [(0, .ref mo), (2, .int (zI (i : Int)))] [] [oM mo th mw (nv : Int) mg ma mb (ns : Int) mlo mhi (nw : Int) mwe mru mrd, aL cL mw 160 (wkA rk), aI cI mg 100 (sgA (uz sg nv (zs (lwX (rr 0) (rr 1)) s1))), aL cL ma 800 (moM up nv (lwX (rr 0) (rr 1)) i), aL cL mb 800 (moM dn nv (lwZ (rr 0) (rr 1)) i)]
        refine z_iload_n S d_M_keep_33 1 rfl ?_
        refine z_bipush S d_M_keep_34 rfl ?_
        refine z_icmp_ge (tgt := 90) S d_M_keep_36 (by decide) (by omega) (by omega) (fun c3 => ?_) (fun c3 => ?_)
        · skip
          refine z_wq (ws' := [oM mo th mw (nv : Int) mg ma mb (ns : Int) mlo mhi (nw : Int) mwe mru mrd, aL cL mw 160 (wkA rk), aI cI mg 100 (sgA (uz sg nv (zs (lwX (rr 0) (rr 1)) s1))), aL cL ma 800 (moA (un up nv (lwX (rr 0) (rr 1)))), aL cL mb 800 (moA (un dn nv (lwZ (rr 0) (rr 1))))]) (by rw [show i = 8 by omega, moM_8, moM_8]) ?_
          refine z_aload_n S d_M_keep_90 0 rfl ?_
          refine z_dup S d_M_keep_91 rfl ?_
          refine z_get S hK la_M 0 rfl rfl 2 (by decide) k_M_42 rfl d_M_keep_92 ?_
          refine z_iconst S d_M_keep_95 ?_
          refine z_iadd S d_M_keep_96 ?_
          refine z_put (ws' := [oM mo th mw ((nv : Int) + 1) mg ma mb (ns : Int) mlo mhi (nw : Int) mwe mru mrd, aL cL mw 160 (wkA rk), aI cI mg 100 (sgA (uz sg nv (zs (lwX (rr 0) (rr 1)) s1))), aL cL ma 800 (moA (un up nv (lwX (rr 0) (rr 1)))), aL cL mb 800 (moA (un dn nv (lwZ (rr 0) (rr 1))))]) S hK la_M ty_M tyok_M nm_M 0 rfl rfl 2 (by decide) k_M_42 rfl (ty := .int) (by decide +kernel) rfl rfl (Nat.le_of_ble_eq_true rfl) rfl d_M_keep_97 ?_
          refine z_wq (ws' := [oM mo th mw ((nv + 1 : Nat) : Int) mg ma mb (ns : Int) mlo mhi (nw : Int) mwe mru mrd, aL cL mw 160 (wkA rk), aI cI mg 100 (sgA (uz sg nv (zs (lwX (rr 0) (rr 1)) s1))), aL cL ma 800 (moA (un up nv (lwX (rr 0) (rr 1)))), aL cL mb 800 (moA (un dn nv (lwZ (rr 0) (rr 1))))]) (by rw [show (nv : Int) + 1 = ((nv + 1 : Nat) : Int) by omega]) ?_
          refine z_aload_n S d_M_keep_100 0 rfl ?_
          refine z_get S hK la_M 0 rfl rfl 2 (by decide) k_M_42 rfl d_M_keep_101 ?_
          refine z_iconst S d_M_keep_104 ?_
          refine z_isub S d_M_keep_105 ?_
          exact z_iret (w := [oM mo th mw ((nv + 1 : Nat) : Int) mg ma mb (ns : Int) mlo mhi (nw : Int) mwe mru mrd, aL cL mw 160 (wkA rk), aI cI mg 100 (sgA (uz sg nv (zs (lwX (rr 0) (rr 1)) s1))), aL cL ma 800 (moA (un up nv (lwX (rr 0) (rr 1)))), aL cL mb 800 (moA (un dn nv (lwZ (rr 0) (rr 1))))]) S hr hlo hAe d_M_keep_106 [0, 1, 2, 3, 4] (by decide) rfl rfl ⟨Nat.le_refl _, Nat.le_refl _⟩ (⟨rk, congrArg Value.int (zI_c (by omega)), rfl⟩)
        · skip
          refine z_aload_n S d_M_keep_39 0 rfl ?_
          refine z_get S hK la_M 0 rfl rfl 4 (by decide) k_M_17 rfl d_M_keep_40 ?_
          refine z_bipush S d_M_keep_43 rfl ?_
          refine z_aload_n S d_M_keep_45 0 rfl ?_
          refine z_get S hK la_M 0 rfl rfl 2 (by decide) k_M_42 rfl d_M_keep_46 ?_
          refine z_imul S d_M_keep_49 ?_
          refine z_iload_n S d_M_keep_50 1 rfl ?_
          refine z_iadd S d_M_keep_51 ?_
          refine z_aload_n S d_M_keep_52 0 rfl ?_
          refine z_get S hK la_M 0 rfl rfl 1 (by decide) k_M_7 rfl d_M_keep_53 ?_
          refine z_iconst S d_M_keep_56 ?_
          refine z_iload_n S d_M_keep_57 1 rfl ?_
          refine z_iadd S d_M_keep_58 ?_
          refine z_lald (x := ((dg 1000000 (lwX (rr 0) (rr 1)) i : Nat) : Int)) S hK 1 1 rfl rfl (0 * 20 + i) (by omega) (by omega) (by decide) ((wkA_at rk (by omega)).trans (by rw [kk0])) d_M_keep_59 ?_
          refine z_last (f' := moM up nv (lwX (rr 0) (rr 1)) (i + 1)) (ws' := [oM mo th mw (nv : Int) mg ma mb (ns : Int) mlo mhi (nw : Int) mwe mru mrd, aL cL mw 160 (wkA rk), aI cI mg 100 (sgA (uz sg nv (zs (lwX (rr 0) (rr 1)) s1))), aL cL ma 800 (moM up nv (lwX (rr 0) (rr 1)) (i + 1)), aL cL mb 800 (moM dn nv (lwZ (rr 0) (rr 1)) i)]) S hK 3 1 rfl rfl (8 * nv + i) (by omega) (by omega) (by decide) (moM_s rfl) rfl d_M_keep_60 ?_
          refine z_aload_n S d_M_keep_61 0 rfl ?_
          refine z_get S hK la_M 0 rfl rfl 5 (by decide) k_M_20 rfl d_M_keep_62 ?_
          refine z_bipush S d_M_keep_65 rfl ?_
          refine z_aload_n S d_M_keep_67 0 rfl ?_
          refine z_get S hK la_M 0 rfl rfl 2 (by decide) k_M_42 rfl d_M_keep_68 ?_
          refine z_imul S d_M_keep_71 ?_
          refine z_iload_n S d_M_keep_72 1 rfl ?_
          refine z_iadd S d_M_keep_73 ?_
          refine z_aload_n S d_M_keep_74 0 rfl ?_
          refine z_get S hK la_M 0 rfl rfl 1 (by decide) k_M_7 rfl d_M_keep_75 ?_
          refine z_bipush S d_M_keep_78 rfl ?_
          refine z_iload_n S d_M_keep_80 1 rfl ?_
          refine z_iadd S d_M_keep_81 ?_
          refine z_lald (x := ((dg 1000000 (lwZ (rr 0) (rr 1)) i : Nat) : Int)) S hK 1 1 rfl rfl (1 * 20 + i) (by omega) (by omega) (by decide) ((wkA_at rk (by omega)).trans (by rw [kk1])) d_M_keep_82 ?_
          refine z_last (f' := moM dn nv (lwZ (rr 0) (rr 1)) (i + 1)) (ws' := [oM mo th mw (nv : Int) mg ma mb (ns : Int) mlo mhi (nw : Int) mwe mru mrd, aL cL mw 160 (wkA rk), aI cI mg 100 (sgA (uz sg nv (zs (lwX (rr 0) (rr 1)) s1))), aL cL ma 800 (moM up nv (lwX (rr 0) (rr 1)) (i + 1)), aL cL mb 800 (moM dn nv (lwZ (rr 0) (rr 1)) (i + 1))]) S hK 4 1 rfl rfl (8 * nv + i) (by omega) (by omega) (by decide) (moM_s rfl) rfl d_M_keep_83 ?_
          refine z_iinc (y := ((i + 1 : Nat) : Int)) (lv' := [(2, .int (zI ((i + 1 : Nat) : Int))), (0, .ref mo)]) S d_M_keep_84 1 rfl (by omega) (by decide) rfl ?_
          refine z_goto (tgt := 33) S d_M_keep_87 (by decide) ?_
          refine z_lv (lv' := [(0, .ref mo), (2, .int (zI ((i + 1 : Nat) : Int)))]) [1, 0] rfl ?_
          exact ih33 (i + 1) (show ((i + 1) ≤ 8) from by omega) (show 8 - (i + 1) < 8 - i from by omega)
    · skip
      refine z_iconst S d_M_keep_25 ?_
      refine z_goto (tgt := 30) S d_M_keep_26 (by decide) ?_
      refine z_iast (f' := sgA (uz sg nv (zs (lwX (rr 0) (rr 1)) s1))) (ws' := [aI cI mg 100 (sgA (uz sg nv (zs (lwX (rr 0) (rr 1)) s1))), aL cL ma 800 (moA up), aL cL mb 800 (moA dn), oM mo th mw (nv : Int) mg ma mb (ns : Int) mlo mhi (nw : Int) mwe mru mrd, aL cL mw 160 (wkA rk)]) S hK 0 0 rfl rfl nv rfl (by omega) (by decide) (sgA_u (v := zs (lwX (rr 0) (rr 1)) s1) (zI_c (by unfold zs; rw [if_pos (by rw [← kk0]; exact b2_p c2)]))) rfl d_M_keep_30 ?_
      refine z_iconst S d_M_keep_31 ?_
      refine z_istore_n (lv' := [(2, .int (zI 0)), (0, .ref mo), (1, .int (zI s1))]) S d_M_keep_32 rfl (by decide) rfl ?_
      refine z_lv (lv' := [(0, .ref mo), (2, .int (zI 0))]) [1, 0] rfl ?_
      refine z_ws (ws' := [oM mo th mw (nv : Int) mg ma mb (ns : Int) mlo mhi (nw : Int) mwe mru mrd, aL cL mw 160 (wkA rk), aI cI mg 100 (sgA (uz sg nv (zs (lwX (rr 0) (rr 1)) s1))), aL cL ma 800 (moA up), aL cL mb 800 (moA dn)]) [3, 4, 0, 1, 2] (by decide) rfl rfl ?_
      refine z_wq (ws' := [oM mo th mw (nv : Int) mg ma mb (ns : Int) mlo mhi (nw : Int) mwe mru mrd, aL cL mw 160 (wkA rk), aI cI mg 100 (sgA (uz sg nv (zs (lwX (rr 0) (rr 1)) s1))), aL cL ma 800 (moM up nv (lwX (rr 0) (rr 1)) 0), aL cL mb 800 (moM dn nv (lwZ (rr 0) (rr 1)) 0)]) (by rw [moM_0, moM_0]) ?_
      refine z_lq (lv' := [(0, .ref mo), (2, .int (zI ((0 : Nat) : Int)))]) (congrArg (fun zzz : Int => ([(0, .ref mo), (2, .int (zI zzz))] : List (Nat × Value))) (show (0 : Int) = ((0 : Nat) : Int) by omega)) ?_
      refine z_loop (I := fun (i : Nat) => (i ≤ 8)) (μ := fun (i : Nat) => 8 - i) (LV := fun (i : Nat) => [(0, .ref mo), (2, .int (zI (i : Int)))]) (WS := fun (i : Nat) => [oM mo th mw (nv : Int) mg ma mb (ns : Int) mlo mhi (nw : Int) mwe mru mrd, aL cL mw 160 (wkA rk), aI cI mg 100 (sgA (uz sg nv (zs (lwX (rr 0) (rr 1)) s1))), aL cL ma 800 (moM up nv (lwX (rr 0) (rr 1)) i), aL cL mb 800 (moM dn nv (lwZ (rr 0) (rr 1)) i)]) (a := 0) ?_ ?_
      · exact (show (0 ≤ 8) from by omega)
      · intro i hI ih33
        have hi : i ≤ 8 := hI
        show ZZ _ _ _ _ _ _ _ _ _ _ _ _ _ _ _ _ _ _ 33 [(0, .ref mo), (2, .int (zI (i : Int)))] [] [oM mo th mw (nv : Int) mg ma mb (ns : Int) mlo mhi (nw : Int) mwe mru mrd, aL cL mw 160 (wkA rk), aI cI mg 100 (sgA (uz sg nv (zs (lwX (rr 0) (rr 1)) s1))), aL cL ma 800 (moM up nv (lwX (rr 0) (rr 1)) i), aL cL mb 800 (moM dn nv (lwZ (rr 0) (rr 1)) i)]
        refine z_iload_n S d_M_keep_33 1 rfl ?_
        refine z_bipush S d_M_keep_34 rfl ?_
        refine z_icmp_ge (tgt := 90) S d_M_keep_36 (by decide) (by omega) (by omega) (fun c4 => ?_) (fun c4 => ?_)
        · skip
          refine z_wq (ws' := [oM mo th mw (nv : Int) mg ma mb (ns : Int) mlo mhi (nw : Int) mwe mru mrd, aL cL mw 160 (wkA rk), aI cI mg 100 (sgA (uz sg nv (zs (lwX (rr 0) (rr 1)) s1))), aL cL ma 800 (moA (un up nv (lwX (rr 0) (rr 1)))), aL cL mb 800 (moA (un dn nv (lwZ (rr 0) (rr 1))))]) (by rw [show i = 8 by omega, moM_8, moM_8]) ?_
          refine z_aload_n S d_M_keep_90 0 rfl ?_
          refine z_dup S d_M_keep_91 rfl ?_
          refine z_get S hK la_M 0 rfl rfl 2 (by decide) k_M_42 rfl d_M_keep_92 ?_
          refine z_iconst S d_M_keep_95 ?_
          refine z_iadd S d_M_keep_96 ?_
          refine z_put (ws' := [oM mo th mw ((nv : Int) + 1) mg ma mb (ns : Int) mlo mhi (nw : Int) mwe mru mrd, aL cL mw 160 (wkA rk), aI cI mg 100 (sgA (uz sg nv (zs (lwX (rr 0) (rr 1)) s1))), aL cL ma 800 (moA (un up nv (lwX (rr 0) (rr 1)))), aL cL mb 800 (moA (un dn nv (lwZ (rr 0) (rr 1))))]) S hK la_M ty_M tyok_M nm_M 0 rfl rfl 2 (by decide) k_M_42 rfl (ty := .int) (by decide +kernel) rfl rfl (Nat.le_of_ble_eq_true rfl) rfl d_M_keep_97 ?_
          refine z_wq (ws' := [oM mo th mw ((nv + 1 : Nat) : Int) mg ma mb (ns : Int) mlo mhi (nw : Int) mwe mru mrd, aL cL mw 160 (wkA rk), aI cI mg 100 (sgA (uz sg nv (zs (lwX (rr 0) (rr 1)) s1))), aL cL ma 800 (moA (un up nv (lwX (rr 0) (rr 1)))), aL cL mb 800 (moA (un dn nv (lwZ (rr 0) (rr 1))))]) (by rw [show (nv : Int) + 1 = ((nv + 1 : Nat) : Int) by omega]) ?_
          refine z_aload_n S d_M_keep_100 0 rfl ?_
          refine z_get S hK la_M 0 rfl rfl 2 (by decide) k_M_42 rfl d_M_keep_101 ?_
          refine z_iconst S d_M_keep_104 ?_
          refine z_isub S d_M_keep_105 ?_
          exact z_iret (w := [oM mo th mw ((nv + 1 : Nat) : Int) mg ma mb (ns : Int) mlo mhi (nw : Int) mwe mru mrd, aL cL mw 160 (wkA rk), aI cI mg 100 (sgA (uz sg nv (zs (lwX (rr 0) (rr 1)) s1))), aL cL ma 800 (moA (un up nv (lwX (rr 0) (rr 1)))), aL cL mb 800 (moA (un dn nv (lwZ (rr 0) (rr 1))))]) S hr hlo hAe d_M_keep_106 [0, 1, 2, 3, 4] (by decide) rfl rfl ⟨Nat.le_refl _, Nat.le_refl _⟩ (⟨rk, congrArg Value.int (zI_c (by omega)), rfl⟩)
        · skip
          refine z_aload_n S d_M_keep_39 0 rfl ?_
          refine z_get S hK la_M 0 rfl rfl 4 (by decide) k_M_17 rfl d_M_keep_40 ?_
          refine z_bipush S d_M_keep_43 rfl ?_
          refine z_aload_n S d_M_keep_45 0 rfl ?_
          refine z_get S hK la_M 0 rfl rfl 2 (by decide) k_M_42 rfl d_M_keep_46 ?_
          refine z_imul S d_M_keep_49 ?_
          refine z_iload_n S d_M_keep_50 1 rfl ?_
          refine z_iadd S d_M_keep_51 ?_
          refine z_aload_n S d_M_keep_52 0 rfl ?_
          refine z_get S hK la_M 0 rfl rfl 1 (by decide) k_M_7 rfl d_M_keep_53 ?_
          refine z_iconst S d_M_keep_56 ?_
          refine z_iload_n S d_M_keep_57 1 rfl ?_
          refine z_iadd S d_M_keep_58 ?_
          refine z_lald (x := ((dg 1000000 (lwX (rr 0) (rr 1)) i : Nat) : Int)) S hK 1 1 rfl rfl (0 * 20 + i) (by omega) (by omega) (by decide) ((wkA_at rk (by omega)).trans (by rw [kk0])) d_M_keep_59 ?_
          refine z_last (f' := moM up nv (lwX (rr 0) (rr 1)) (i + 1)) (ws' := [oM mo th mw (nv : Int) mg ma mb (ns : Int) mlo mhi (nw : Int) mwe mru mrd, aL cL mw 160 (wkA rk), aI cI mg 100 (sgA (uz sg nv (zs (lwX (rr 0) (rr 1)) s1))), aL cL ma 800 (moM up nv (lwX (rr 0) (rr 1)) (i + 1)), aL cL mb 800 (moM dn nv (lwZ (rr 0) (rr 1)) i)]) S hK 3 1 rfl rfl (8 * nv + i) (by omega) (by omega) (by decide) (moM_s rfl) rfl d_M_keep_60 ?_
          refine z_aload_n S d_M_keep_61 0 rfl ?_
          refine z_get S hK la_M 0 rfl rfl 5 (by decide) k_M_20 rfl d_M_keep_62 ?_
          refine z_bipush S d_M_keep_65 rfl ?_
          refine z_aload_n S d_M_keep_67 0 rfl ?_
          refine z_get S hK la_M 0 rfl rfl 2 (by decide) k_M_42 rfl d_M_keep_68 ?_
          refine z_imul S d_M_keep_71 ?_
          refine z_iload_n S d_M_keep_72 1 rfl ?_
          refine z_iadd S d_M_keep_73 ?_
          refine z_aload_n S d_M_keep_74 0 rfl ?_
          refine z_get S hK la_M 0 rfl rfl 1 (by decide) k_M_7 rfl d_M_keep_75 ?_
          refine z_bipush S d_M_keep_78 rfl ?_
          refine z_iload_n S d_M_keep_80 1 rfl ?_
          refine z_iadd S d_M_keep_81 ?_
          refine z_lald (x := ((dg 1000000 (lwZ (rr 0) (rr 1)) i : Nat) : Int)) S hK 1 1 rfl rfl (1 * 20 + i) (by omega) (by omega) (by decide) ((wkA_at rk (by omega)).trans (by rw [kk1])) d_M_keep_82 ?_
          refine z_last (f' := moM dn nv (lwZ (rr 0) (rr 1)) (i + 1)) (ws' := [oM mo th mw (nv : Int) mg ma mb (ns : Int) mlo mhi (nw : Int) mwe mru mrd, aL cL mw 160 (wkA rk), aI cI mg 100 (sgA (uz sg nv (zs (lwX (rr 0) (rr 1)) s1))), aL cL ma 800 (moM up nv (lwX (rr 0) (rr 1)) (i + 1)), aL cL mb 800 (moM dn nv (lwZ (rr 0) (rr 1)) (i + 1))]) S hK 4 1 rfl rfl (8 * nv + i) (by omega) (by omega) (by decide) (moM_s rfl) rfl d_M_keep_83 ?_
          refine z_iinc (y := ((i + 1 : Nat) : Int)) (lv' := [(2, .int (zI ((i + 1 : Nat) : Int))), (0, .ref mo)]) S d_M_keep_84 1 rfl (by omega) (by decide) rfl ?_
          refine z_goto (tgt := 33) S d_M_keep_87 (by decide) ?_
          refine z_lv (lv' := [(0, .ref mo), (2, .int (zI ((i + 1 : Nat) : Int)))]) [1, 0] rfl ?_
          exact ih33 (i + 1) (show ((i + 1) ≤ 8) from by omega) (show 8 - (i + 1) < 8 - i from by omega)
  · skip
    exact absurd c1 (by omega)
set_option maxHeartbeats 4000000 in
set_option maxRecDepth 100000 in
theorem s_M_keepLong (l : Launch) (dC : Nat → ClassId) (dI : Nat → Nat → Nat) (cI cL : ClassId) (qT : Nat) (mo : Nat) (mw : Nat) (nv : Nat) (ma : Nat) (mb : Nat) (ns : Nat) (mlo : Nat) (mhi : Nat) (nw : Nat) (mwe : Nat) (mru : Nat) (mrd : Nat) (th : Int) (mg : Nat) (rr : Nat → Nat) (sg : Nat → Int) (up : Nat → Nat) (dn : Nat → Nat) (s1 : Int) (hnv : nv < 100) (h0b : rr 0 < 1000000 ^ 20) (h1b : rr 1 < 1000000 ^ 20) (h1p : 0 < rr 1) (hs1 : -1 ≤ s1 ∧ s1 ≤ 1) (hfit : ¬ (lwX (rr 0) (rr 1) < 10 ^ 48 ∧ lwZ (rr 0) (rr 1) < 10 ^ 48)) : Ct l y_M_keep (Cond.code y_M_keep c_M_keep 3 (some .int) :: zB) { frames := 4, cells := 0, slots := 0, locals := 106 } (dC, dI) zcl [(cI, .int), (cL, .long)] (zG cI cL qT) [.ref mo, .int (zI s1)] [oM mo th mw (nv : Int) mg ma mb (ns : Int) mlo mhi (nw : Int) mwe mru mrd, aL cL mw 160 (wkA rr), aI cI mg 100 (sgA sg), aL cL ma 800 (moA up), aL cL mb 800 (moA dn)] (fun rv wv => ∃ rr2 : Nat → Nat, rv = .int (zI (-1)) ∧ wv = [oM mo th mw (nv : Int) mg ma mb (ns : Int) mlo mhi (nw : Int) mwe mru mrd, aL cL mw 160 (wkA rr2), aI cI mg 100 (sgA sg), aL cL ma 800 (moA up), aL cL mb 800 (moA dn)]) 0 0 := by
  refine Cm.ofZ (cc := c_M_keep) (maxL := 3) (ret := (some .int)) (by decide) rfl (Nat.le_of_ble_eq_true rfl) rfl ?_
  intro p e s m below meth c A S hr hlo hnm hK hg hA hAe
  have hGok := zG_ok cI cL qT
  show ZZ _ _ _ _ _ _ _ _ _ _ _ _ _ _ _ _ _ _ 0 [(0, .ref mo), (1, .int (zI s1))] [] [oM mo th mw (nv : Int) mg ma mb (ns : Int) mlo mhi (nw : Int) mwe mru mrd, aL cL mw 160 (wkA rr), aI cI mg 100 (sgA sg), aL cL ma 800 (moA up), aL cL mb 800 (moA dn)]
  have hle := lw_le (rr 0) (rr 1)
  have hb := b2_f (P := lwX (rr 0) (rr 1) < 10 ^ 48 ∧ lwZ (rr 0) (rr 1) < 10 ^ 48) hfit
  refine z_aload_n S d_M_keep_0 0 rfl ?_
  refine z_callVa (As := []) (st := []) (wc := [oM mo th mw (nv : Int) mg ma mb (ns : Int) mlo mhi (nw : Int) mwe mru mrd, aL cL mw 160 (wkA rr)]) (wr := [aI cI mg 100 (sgA sg), aL cL ma 800 (moA up), aL cL mb 800 (moA dn)]) S hGok hK hg hA (s_M_lowest l dC dI cI cL qT mo mw nv ma mb ns mlo mhi nw mwe mru mrd th mg rr (by omega) (by omega) (by omega)) (zcwV S (List.mem_cons_of_mem _ k_M_105) mV_M_lowest k_M_105 hd_M_lowest rfl rfl ⟨Nat.le_of_ble_eq_true rfl, Nat.le_of_ble_eq_true rfl⟩) rfl (Nat.le_of_ble_eq_true rfl) d_M_keep_1 ⟨Nat.le_of_ble_eq_true rfl, Nat.le_of_ble_eq_true rfl⟩ rfl [0, 1] [2, 3, 4] 0 rfl rfl rfl (by decide) rfl rfl rfl (by decide) (by decide) (fun x w hp => ?_)
  obtain ⟨rk, kk0, kk1, rfl, rfl⟩ := hp
  show ZZ _ _ _ _ _ _ _ _ _ _ _ _ _ _ _ _ _ _ 4 [(0, .ref mo), (1, .int (zI s1))] [.int (zI (b2 (lwX (rr 0) (rr 1) < 10 ^ 48 ∧ lwZ (rr 0) (rr 1) < 10 ^ 48)))] [aI cI mg 100 (sgA sg), aL cL ma 800 (moA up), aL cL mb 800 (moA dn), oM mo th mw (nv : Int) mg ma mb (ns : Int) mlo mhi (nw : Int) mwe mru mrd, aL cL mw 160 (wkA rk)]
  refine z_if_ne (tgt := 9) S d_M_keep_4 (by decide) (by omega) (fun c1 => ?_) (fun c1 => ?_)
  · skip
    omega
  · skip
    refine z_iconst S d_M_keep_7 ?_
    exact z_iret (w := [oM mo th mw (nv : Int) mg ma mb (ns : Int) mlo mhi (nw : Int) mwe mru mrd, aL cL mw 160 (wkA rk), aI cI mg 100 (sgA sg), aL cL ma 800 (moA up), aL cL mb 800 (moA dn)]) S hr hlo hAe d_M_keep_8 [3, 4, 0, 1, 2] (by decide) rfl rfl ⟨Nat.le_refl _, Nat.le_refl _⟩ (⟨rk, rfl, rfl⟩)
set_option maxHeartbeats 4000000 in
set_option maxRecDepth 100000 in
theorem s_M_keep (l : Launch) (dC : Nat → ClassId) (dI : Nat → Nat → Nat) (cI cL : ClassId) (qT : Nat) (mo : Nat) (mw : Nat) (nv : Nat) (ma : Nat) (mb : Nat) (ns : Nat) (mlo : Nat) (mhi : Nat) (nw : Nat) (mwe : Nat) (mru : Nat) (mrd : Nat) (th : Int) (mg : Nat) (rr : Nat → Nat) (sg : Nat → Int) (up : Nat → Nat) (dn : Nat → Nat) (s1 : Int) (hnv : nv < 100) (h0b : rr 0 < 1000000 ^ 20) (h1b : rr 1 < 1000000 ^ 20) (h1p : 0 < rr 1) (hs1 : -1 ≤ s1 ∧ s1 ≤ 1) : Ct l y_M_keep (Cond.code y_M_keep c_M_keep 3 (some .int) :: zB) { frames := 4, cells := 0, slots := 0, locals := 106 } (dC, dI) zcl [(cI, .int), (cL, .long)] (zG cI cL qT) [.ref mo, .int (zI s1)] [oM mo th mw (nv : Int) mg ma mb (ns : Int) mlo mhi (nw : Int) mwe mru mrd, aL cL mw 160 (wkA rr), aI cI mg 100 (sgA sg), aL cL ma 800 (moA up), aL cL mb 800 (moA dn)] (fun rv wv => ∃ rr2 : Nat → Nat, rv = .int (zI (kpR nv (lwX (rr 0) (rr 1)) (lwZ (rr 0) (rr 1)))) ∧ wv = [oM mo th mw ((kpC nv (lwX (rr 0) (rr 1)) (lwZ (rr 0) (rr 1)) : Nat) : Int) mg ma mb (ns : Int) mlo mhi (nw : Int) mwe mru mrd, aL cL mw 160 (wkA rr2), aI cI mg 100 (sgA (kpS sg nv (zs (lwX (rr 0) (rr 1)) s1) (lwX (rr 0) (rr 1)) (lwZ (rr 0) (rr 1)))), aL cL ma 800 (moA (kpU up nv (lwX (rr 0) (rr 1)) (lwX (rr 0) (rr 1)) (lwZ (rr 0) (rr 1)))), aL cL mb 800 (moA (kpU dn nv (lwZ (rr 0) (rr 1)) (lwX (rr 0) (rr 1)) (lwZ (rr 0) (rr 1))))]) 0 0 := by
  by_cases hf : lwX (rr 0) (rr 1) < 10 ^ 48 ∧ lwZ (rr 0) (rr 1) < 10 ^ 48
  · have h := s_M_keepFit l dC dI cI cL qT mo mw nv ma mb ns mlo mhi nw mwe mru mrd th mg rr sg up dn s1 hnv h0b h1b h1p hs1 hf
    rw [show kpR nv (lwX (rr 0) (rr 1)) (lwZ (rr 0) (rr 1)) = (nv : Int) from if_pos hf, show kpC nv (lwX (rr 0) (rr 1)) (lwZ (rr 0) (rr 1)) = nv + 1 from if_pos hf, show kpS sg nv (zs (lwX (rr 0) (rr 1)) s1) (lwX (rr 0) (rr 1)) (lwZ (rr 0) (rr 1)) = uz sg nv (zs (lwX (rr 0) (rr 1)) s1) from if_pos hf, show kpU up nv (lwX (rr 0) (rr 1)) (lwX (rr 0) (rr 1)) (lwZ (rr 0) (rr 1)) = un up nv (lwX (rr 0) (rr 1)) from if_pos hf, show kpU dn nv (lwZ (rr 0) (rr 1)) (lwX (rr 0) (rr 1)) (lwZ (rr 0) (rr 1)) = un dn nv (lwZ (rr 0) (rr 1)) from if_pos hf]
    exact h
  · have h := s_M_keepLong l dC dI cI cL qT mo mw nv ma mb ns mlo mhi nw mwe mru mrd th mg rr sg up dn s1 hnv h0b h1b h1p hs1 hf
    rw [show kpR nv (lwX (rr 0) (rr 1)) (lwZ (rr 0) (rr 1)) = -1 from if_neg hf, show kpC nv (lwX (rr 0) (rr 1)) (lwZ (rr 0) (rr 1)) = nv from if_neg hf, show kpS sg nv (zs (lwX (rr 0) (rr 1)) s1) (lwX (rr 0) (rr 1)) (lwZ (rr 0) (rr 1)) = sg from if_neg hf, show kpU up nv (lwX (rr 0) (rr 1)) (lwX (rr 0) (rr 1)) (lwZ (rr 0) (rr 1)) = up from if_neg hf, show kpU dn nv (lwZ (rr 0) (rr 1)) (lwX (rr 0) (rr 1)) (lwZ (rr 0) (rr 1)) = dn from if_neg hf]
    exact h
