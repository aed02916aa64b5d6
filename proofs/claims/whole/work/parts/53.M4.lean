theorem dv_end {fo ai T M : Nat} (he : fo * M + ai = T) (h : ai < M) : fo = T / M ∧ ai = T % M := by
  subst he
  rw [Nat.mul_comm, Nat.mul_add_div (by omega), Nat.div_eq_of_lt h, Nat.mul_add_mod, Nat.mod_eq_of_lt h]
  exact ⟨rfl, rfl⟩
set_option maxHeartbeats 4000000 in
set_option maxRecDepth 100000 in
theorem s_M_divide (l : Launch) (dC : Nat → ClassId) (dI : Nat → Nat → Nat) (cI cL : ClassId) (qT : Nat) (mo : Nat) (mw : Nat) (nv : Nat) (ma : Nat) (mb : Nat) (ns : Nat) (mlo : Nat) (mhi : Nat) (nw : Nat) (mwe : Nat) (mru : Nat) (mrd : Nat) (th : Int) (mg : Nat) (rr : Nat → Nat) (q : Nat) (r : Nat) (t : Nat) (hq8 : q < 8) (hr8 : r < 8) (ht8 : t < 8) (hqt : q ≠ t) (hrt : r ≠ t) (hqr : q ≠ r) (hq : rr q < 1000000 ^ 20) (hrr : rr r < 1000000 ^ 20) (h0 : 0 < rr r) : Cv l y_M_divide (Cond.code y_M_divide c_M_divide 15 none :: zB) { frames := 2, cells := 0, slots := 0, locals := 52 } (dC, dI) zcl [(cI, .int), (cL, .long)] (zG cI cL qT) [.ref mo, .int (zI (q : Int)), .int (zI (r : Int)), .int (zI (t : Int))] [oM mo th mw (nv : Int) mg ma mb (ns : Int) mlo mhi (nw : Int) mwe mru mrd, aL cL mw 160 (wkA rr)] (fun wv => wv = [oM mo th mw (nv : Int) mg ma mb (ns : Int) mlo mhi (nw : Int) mwe mru mrd, aL cL mw 160 (wkA (un (un rr t (rr q / rr r)) q (rr q % rr r)))]) 0 0 := by
  refine Cm.ofZ (cc := c_M_divide) (maxL := 15) (ret := none) (by decide) rfl (Nat.le_of_ble_eq_true rfl) rfl ?_
  intro p e s m below meth c A S hr hlo hnm hK hg hA hAe
  have hGok := zG_ok cI cL qT
  show ZZ _ _ _ _ _ _ _ _ _ _ _ _ _ _ _ _ _ _ 0 [(0, .ref mo), (1, .int (zI (q : Int))), (2, .int (zI (r : Int))), (3, .int (zI (t : Int)))] [] [oM mo th mw (nv : Int) mg ma mb (ns : Int) mlo mhi (nw : Int) mwe mru mrd, aL cL mw 160 (wkA rr)]
  have hu1 := tp_le (rr q)
  have hu2 := tp_le (rr r)
  have hz0 := (tp_nz hrr h0).1
  refine z_aload_n S d_M_divide_0 0 rfl ?_
  refine z_iload_n S d_M_divide_1 3 rfl ?_
  refine z_callVv (As := [.int (zI (t : Int))]) (st := []) (wc := [oM mo th mw (nv : Int) mg ma mb (ns : Int) mlo mhi (nw : Int) mwe mru mrd, aL cL mw 160 (wkA rr)]) (wr := []) S hGok hK hg hA (s_M_clear l dC dI cI cL qT mo mw nv ma mb ns mlo mhi nw mwe mru mrd th mg rr t (by omega)) (zcwV S (List.mem_cons_of_mem _ k_M_48) mV_M_clear k_M_48 hd_M_clear rfl rfl ⟨Nat.le_of_ble_eq_true rfl, Nat.le_of_ble_eq_true rfl⟩) rfl (Nat.le_of_ble_eq_true rfl) d_M_divide_2 ⟨Nat.le_of_ble_eq_true rfl, Nat.le_of_ble_eq_true rfl⟩ rfl [0, 1] [] 0 rfl rfl rfl (by decide) rfl rfl rfl (by decide) (by decide) (fun w hp => ?_)
  subst hp
  show ZZ _ _ _ _ _ _ _ _ _ _ _ _ _ _ _ _ _ _ 5 [(0, .ref mo), (1, .int (zI (q : Int))), (2, .int (zI (r : Int))), (3, .int (zI (t : Int)))] [] [oM mo th mw (nv : Int) mg ma mb (ns : Int) mlo mhi (nw : Int) mwe mru mrd, aL cL mw 160 (wkA (un rr t 0))]
  refine z_aload_n S d_M_divide_5 0 rfl ?_
  refine z_iload_n S d_M_divide_6 1 rfl ?_
  refine z_callVa (As := [.int (zI (q : Int))]) (st := []) (wc := [oM mo th mw (nv : Int) mg ma mb (ns : Int) mlo mhi (nw : Int) mwe mru mrd, aL cL mw 160 (wkA (un rr t 0))]) (wr := []) S hGok hK hg hA (s_M_top l dC dI cI cL qT mo mw nv ma mb ns mlo mhi nw mwe mru mrd th mg (un rr t 0) q (by omega)) (zcwV S (List.mem_cons_of_mem _ k_M_56) mV_M_top k_M_56 hd_M_top rfl rfl ⟨Nat.le_of_ble_eq_true rfl, Nat.le_of_ble_eq_true rfl⟩) rfl (Nat.le_of_ble_eq_true rfl) d_M_divide_7 ⟨Nat.le_of_ble_eq_true rfl, Nat.le_of_ble_eq_true rfl⟩ rfl [0, 1] [] 0 rfl rfl rfl (by decide) rfl rfl rfl (by decide) (by decide) (fun x w hp => ?_)
  obtain ⟨rfl, rfl⟩ := hp
  show ZZ _ _ _ _ _ _ _ _ _ _ _ _ _ _ _ _ _ _ 10 [(0, .ref mo), (1, .int (zI (q : Int))), (2, .int (zI (r : Int))), (3, .int (zI (t : Int)))] [.int (zI (((tp ((un rr t 0) q) : Nat) : Int) - 1))] [oM mo th mw (nv : Int) mg ma mb (ns : Int) mlo mhi (nw : Int) mwe mru mrd, aL cL mw 160 (wkA (un rr t 0))]
  refine z_toi (a := ((tp (rr q) : Nat) : Int) - 1) (zI_c (by rw [un_n hqt])) ?_
  refine z_aload_n S d_M_divide_10 0 rfl ?_
  refine z_iload_n S d_M_divide_11 2 rfl ?_
  refine z_callVa (As := [.int (zI (r : Int))]) (st := [.int (zI (((tp (rr q) : Nat) : Int) - 1))]) (wc := [oM mo th mw (nv : Int) mg ma mb (ns : Int) mlo mhi (nw : Int) mwe mru mrd, aL cL mw 160 (wkA (un rr t 0))]) (wr := []) S hGok hK hg hA (s_M_top l dC dI cI cL qT mo mw nv ma mb ns mlo mhi nw mwe mru mrd th mg (un rr t 0) r (by omega)) (zcwV S (List.mem_cons_of_mem _ k_M_56) mV_M_top k_M_56 hd_M_top rfl rfl ⟨Nat.le_of_ble_eq_true rfl, Nat.le_of_ble_eq_true rfl⟩) rfl (Nat.le_of_ble_eq_true rfl) d_M_divide_12 ⟨Nat.le_of_ble_eq_true rfl, Nat.le_of_ble_eq_true rfl⟩ rfl [0, 1] [] 0 rfl rfl rfl (by decide) rfl rfl rfl (by decide) (by decide) (fun x w hp => ?_)
  obtain ⟨rfl, rfl⟩ := hp
  show ZZ _ _ _ _ _ _ _ _ _ _ _ _ _ _ _ _ _ _ 15 [(0, .ref mo), (1, .int (zI (q : Int))), (2, .int (zI (r : Int))), (3, .int (zI (t : Int)))] [.int (zI (((tp ((un rr t 0) r) : Nat) : Int) - 1)), .int (zI (((tp (rr q) : Nat) : Int) - 1))] [oM mo th mw (nv : Int) mg ma mb (ns : Int) mlo mhi (nw : Int) mwe mru mrd, aL cL mw 160 (wkA (un rr t 0))]
  refine z_toi (a := ((tp (rr r) : Nat) : Int) - 1) (zI_c (by rw [un_n hrt])) ?_
  refine z_isub S d_M_divide_15 ?_
  refine z_topi (fun x1 ex1 => ?_)
  refine z_istore (lv' := [(4, .int (zI x1)), (0, .ref mo), (1, .int (zI (q : Int))), (2, .int (zI (r : Int))), (3, .int (zI (t : Int)))]) S d_M_divide_16 (by decide) rfl ?_
  refine z_lv (lv' := [(0, .ref mo), (1, .int (zI (q : Int))), (2, .int (zI (r : Int))), (3, .int (zI (t : Int))), (4, .int (zI x1))]) [1, 2, 3, 4, 0] rfl ?_
  refine z_wq (ws' := [oM mo th mw (nv : Int) mg ma mb (ns : Int) mlo mhi (nw : Int) mwe mru mrd, aL cL mw 160 (wkA (un (un rr t (rr q / (rr r * 1000000 ^ (tp (rr q) + 1 - tp (rr r))) * 1000000 ^ (tp (rr q) + 1 - tp (rr r)))) q (rr q % (rr r * 1000000 ^ (tp (rr q) + 1 - tp (rr r))))))]) (by rw [Nat.div_eq_of_lt (rm_top6 hq h0 hrr), Nat.zero_mul, Nat.mod_eq_of_lt (rm_top6 hq h0 hrr), un_id2 hqt]) ?_
  refine z_lq (lv' := [(0, .ref mo), (1, .int (zI (q : Int))), (2, .int (zI (r : Int))), (3, .int (zI (t : Int))), (4, .int (zI (((tp (rr q) : Nat) : Int) - ((tp (rr r) : Nat) : Int))))]) (congrArg (fun zzz : Int => ([(0, .ref mo), (1, .int (zI (q : Int))), (2, .int (zI (r : Int))), (3, .int (zI (t : Int))), (4, .int (zI zzz))] : List (Nat × Value))) (show (x1 : Int) = (((tp (rr q) : Nat) : Int) - ((tp (rr r) : Nat) : Int)) by omega)) ?_
  refine z_loop (I := fun (zz : Nat × Int) => match zz with | (n, sh) => (sh + 1 = (n : Int) ∨ (n = 0 ∧ sh < 0)) ∧ (-20 ≤ sh ∧ sh ≤ 19)) (μ := fun (zz : Nat × Int) => match zz with | (n, sh) => n) (LV := fun (zz : Nat × Int) => match zz with | (n, sh) => [(0, .ref mo), (1, .int (zI (q : Int))), (2, .int (zI (r : Int))), (3, .int (zI (t : Int))), (4, .int (zI sh))]) (WS := fun (zz : Nat × Int) => match zz with | (n, sh) => [oM mo th mw (nv : Int) mg ma mb (ns : Int) mlo mhi (nw : Int) mwe mru mrd, aL cL mw 160 (wkA (un (un rr t (rr q / (rr r * 1000000 ^ n) * 1000000 ^ n)) q (rr q % (rr r * 1000000 ^ n))))]) (a := ((tp (rr q) + 1 - tp (rr r)), ((tp (rr q) : Nat) : Int) - ((tp (rr r) : Nat) : Int))) ?_ ?_
  · exact (show ((((tp (rr q) : Nat) : Int) - ((tp (rr r) : Nat) : Int)) + 1 = ((tp (rr q) + 1 - tp (rr r) : Nat) : Int) ∨ ((tp (rr q) + 1 - tp (rr r)) = 0 ∧ (((tp (rr q) : Nat) : Int) - ((tp (rr r) : Nat) : Int)) < 0)) ∧ (-20 ≤ (((tp (rr q) : Nat) : Int) - ((tp (rr r) : Nat) : Int)) ∧ (((tp (rr q) : Nat) : Int) - ((tp (rr r) : Nat) : Int)) ≤ 19) from ⟨by omega, by omega⟩)
  · intro ⟨n, sh⟩ hI ih18
    obtain ⟨hsn, hshr⟩ : (sh + 1 = (n : Int) ∨ (n = 0 ∧ sh < 0)) ∧ (-20 ≤ sh ∧ sh ≤ 19) := hI
    show ZZ _ _ _ _ _ _ _ _ _ _ _ _ _ _ _ _ _ _ 18 [(0, .ref mo), (1, .int (zI (q : Int))), (2, .int (zI (r : Int))), (3, .int (zI (t : Int))), (4, .int (zI sh))] [] [oM mo th mw (nv : Int) mg ma mb (ns : Int) mlo mhi (nw : Int) mwe mru mrd, aL cL mw 160 (wkA (un (un rr t (rr q / (rr r * 1000000 ^ n) * 1000000 ^ n)) q (rr q % (rr r * 1000000 ^ n))))]
    refine z_iload S d_M_divide_18 4 rfl ?_
    refine z_if_lt (tgt := 194) S d_M_divide_20 (by decide) (by omega) (fun c2 => ?_) (fun c2 => ?_)
    · skip
      refine z_wq (ws' := [oM mo th mw (nv : Int) mg ma mb (ns : Int) mlo mhi (nw : Int) mwe mru mrd, aL cL mw 160 (wkA (un (un rr t (rr q / rr r)) q (rr q % rr r)))]) (by rw [show n = 0 by omega, Nat.pow_zero, Nat.mul_one, Nat.mul_one]) ?_
      refine z_iconst S d_M_divide_194 ?_
      refine z_istore (lv' := [(4, .int (zI 0)), (0, .ref mo), (1, .int (zI (q : Int))), (2, .int (zI (r : Int))), (3, .int (zI (t : Int)))]) S d_M_divide_195 (by decide) rfl ?_
      refine z_lv (lv' := [(0, .ref mo), (1, .int (zI (q : Int))), (2, .int (zI (r : Int))), (3, .int (zI (t : Int))), (4, .int (zI 0))]) [1, 2, 3, 4, 0] rfl ?_
      refine z_lq (lv' := [(0, .ref mo), (1, .int (zI (q : Int))), (2, .int (zI (r : Int))), (3, .int (zI (t : Int))), (4, .int (zI ((0 : Nat) : Int)))]) (congrArg (fun zzz : Int => ([(0, .ref mo), (1, .int (zI (q : Int))), (2, .int (zI (r : Int))), (3, .int (zI (t : Int))), (4, .int (zI zzz))] : List (Nat × Value))) (show (0 : Int) = ((0 : Nat) : Int) by omega)) ?_
      refine z_loop (I := fun (i : Nat) => (i ≤ 19)) (μ := fun (i : Nat) => 19 - i) (LV := fun (i : Nat) => [(0, .ref mo), (1, .int (zI (q : Int))), (2, .int (zI (r : Int))), (3, .int (zI (t : Int))), (4, .int (zI (i : Int)))]) (WS := fun (i : Nat) => [oM mo th mw (nv : Int) mg ma mb (ns : Int) mlo mhi (nw : Int) mwe mru mrd, aL cL mw 160 (wkA (un (un rr t (rr q / rr r)) q (rr q % rr r)))]) (a := 0) ?_ ?_
      · exact (show (0 ≤ 19) from by omega)
      · intro i hI ih197
        have hi : i ≤ 19 := hI
        show ZZ _ _ _ _ _ _ _ _ _ _ _ _ _ _ _ _ _ _ 197 [(0, .ref mo), (1, .int (zI (q : Int))), (2, .int (zI (r : Int))), (3, .int (zI (t : Int))), (4, .int (zI (i : Int)))] [] [oM mo th mw (nv : Int) mg ma mb (ns : Int) mlo mhi (nw : Int) mwe mru mrd, aL cL mw 160 (wkA (un (un rr t (rr q / rr r)) q (rr q % rr r)))]
        refine z_iload S d_M_divide_197 4 rfl ?_
        refine z_bipush S d_M_divide_199 rfl ?_
        refine z_icmp_ge (tgt := 283) S d_M_divide_201 (by decide) (by omega) (by omega) (fun c3 => ?_) (fun c3 => ?_)
        · skip
          exact z_vret (w := [oM mo th mw (nv : Int) mg ma mb (ns : Int) mlo mhi (nw : Int) mwe mru mrd, aL cL mw 160 (wkA (un (un rr t (rr q / rr r)) q (rr q % rr r)))]) S hr hlo hAe d_M_divide_283 [0, 1] (by decide) rfl rfl ⟨Nat.le_refl _, Nat.le_refl _⟩ (rfl)
        · skip
          have hQt : (un (un rr t (rr q / rr r)) q (rr q % rr r)) t = rr q / rr r := (un_n (Ne.symm hqt)).trans (un_s _ _ _)
          have m1 := dg_lt (b := 1000000) (by decide) (rr q / rr r) (i)
          have m2 := dg_lt (b := 1000000) (by decide) (rr q / rr r) (i + 1)
          refine z_aload_n S d_M_divide_204 0 rfl ?_
          refine z_get S hK la_M 0 rfl rfl 1 (by decide) k_M_7 rfl d_M_divide_205 ?_
          refine z_iload_n S d_M_divide_208 3 rfl ?_
          refine z_bipush S d_M_divide_209 rfl ?_
          refine z_imul S d_M_divide_211 ?_
          refine z_iload S d_M_divide_212 4 rfl ?_
          refine z_iadd S d_M_divide_214 ?_
          refine z_iconst S d_M_divide_215 ?_
          refine z_iadd S d_M_divide_216 ?_
          refine z_aload_n S d_M_divide_217 0 rfl ?_
          refine z_get S hK la_M 0 rfl rfl 1 (by decide) k_M_7 rfl d_M_divide_218 ?_
          refine z_iload_n S d_M_divide_221 3 rfl ?_
          refine z_bipush S d_M_divide_222 rfl ?_
          refine z_imul S d_M_divide_224 ?_
          refine z_iload S d_M_divide_225 4 rfl ?_
          refine z_iadd S d_M_divide_227 ?_
          refine z_iconst S d_M_divide_228 ?_
          refine z_iadd S d_M_divide_229 ?_
          refine z_lald (x := ((dg 1000000 (rr q / rr r) (i + 1) : Nat) : Int)) S hK 1 1 rfl rfl (t * 20 + (i + 1)) (by omega) (by omega) (by decide) ((wkA_at _ (by omega)).trans (by rw [hQt])) d_M_divide_230 ?_
          refine z_aload_n S d_M_divide_231 0 rfl ?_
          refine z_get S hK la_M 0 rfl rfl 1 (by decide) k_M_7 rfl d_M_divide_232 ?_
          refine z_iload_n S d_M_divide_235 3 rfl ?_
          refine z_bipush S d_M_divide_236 rfl ?_
          refine z_imul S d_M_divide_238 ?_
          refine z_iload S d_M_divide_239 4 rfl ?_
          refine z_iadd S d_M_divide_241 ?_
          refine z_lald (x := ((dg 1000000 (rr q / rr r) (i) : Nat) : Int)) S hK 1 1 rfl rfl (t * 20 + i) (by omega) (by omega) (by decide) ((wkA_at _ (by omega)).trans (by rw [hQt])) d_M_divide_242 ?_
          refine z_ldc2 (v := 1000000) (z := 1000000) S k_M_54 d_M_divide_243 (by decide) ?_
          refine z_ldiv S d_M_divide_246 (by omega) (by omega) ?_
          refine z_ladd S d_M_divide_247 ?_
          refine z_topl (fun x4 ex4 => ?_)
          refine z_last (f' := wkA (un (un rr t (rr q / rr r)) q (rr q % rr r))) (ws' := [oM mo th mw (nv : Int) mg ma mb (ns : Int) mlo mhi (nw : Int) mwe mru mrd, aL cL mw 160 (wkA (un (un rr t (rr q / rr r)) q (rr q % rr r)))]) S hK 1 1 rfl rfl (t * 20 + (i + 1)) (by omega) (by omega) (by decide) (upL_same (((wkA_at _ (by omega)).trans (by rw [hQt]; exact zL_c (by omega))).symm)) rfl d_M_divide_248 ?_
          refine z_aload_n S d_M_divide_249 0 rfl ?_
          refine z_get S hK la_M 0 rfl rfl 1 (by decide) k_M_7 rfl d_M_divide_250 ?_
          refine z_iload_n S d_M_divide_253 3 rfl ?_
          refine z_bipush S d_M_divide_254 rfl ?_
          refine z_imul S d_M_divide_256 ?_
          refine z_iload S d_M_divide_257 4 rfl ?_
          refine z_iadd S d_M_divide_259 ?_
          refine z_aload_n S d_M_divide_260 0 rfl ?_
          refine z_get S hK la_M 0 rfl rfl 1 (by decide) k_M_7 rfl d_M_divide_261 ?_
          refine z_iload_n S d_M_divide_264 3 rfl ?_
          refine z_bipush S d_M_divide_265 rfl ?_
          refine z_imul S d_M_divide_267 ?_
          refine z_iload S d_M_divide_268 4 rfl ?_
          refine z_iadd S d_M_divide_270 ?_
          refine z_lald (x := ((dg 1000000 (rr q / rr r) (i) : Nat) : Int)) S hK 1 1 rfl rfl (t * 20 + i) (by omega) (by omega) (by decide) ((wkA_at _ (by omega)).trans (by rw [hQt])) d_M_divide_271 ?_
          refine z_ldc2 (v := 1000000) (z := 1000000) S k_M_54 d_M_divide_272 (by decide) ?_
          refine z_lrem S d_M_divide_275 (by omega) (by omega) ?_
          refine z_topl (fun x5 ex5 => ?_)
          refine z_last (f' := wkA (un (un rr t (rr q / rr r)) q (rr q % rr r))) (ws' := [oM mo th mw (nv : Int) mg ma mb (ns : Int) mlo mhi (nw : Int) mwe mru mrd, aL cL mw 160 (wkA (un (un rr t (rr q / rr r)) q (rr q % rr r)))]) S hK 1 1 rfl rfl (t * 20 + i) (by omega) (by omega) (by decide) (upL_same (((wkA_at _ (by omega)).trans (by rw [hQt]; exact zL_c (by omega))).symm)) rfl d_M_divide_276 ?_
          refine z_iinc (y := ((i + 1 : Nat) : Int)) (lv' := [(4, .int (zI ((i + 1 : Nat) : Int))), (0, .ref mo), (1, .int (zI (q : Int))), (2, .int (zI (r : Int))), (3, .int (zI (t : Int)))]) S d_M_divide_277 4 rfl (by omega) (by decide) rfl ?_
          refine z_goto (tgt := 197) S d_M_divide_280 (by decide) ?_
          refine z_lv (lv' := [(0, .ref mo), (1, .int (zI (q : Int))), (2, .int (zI (r : Int))), (3, .int (zI (t : Int))), (4, .int (zI ((i + 1 : Nat) : Int)))]) [1, 2, 3, 4, 0] rfl ?_
          exact ih197 (i + 1) (show ((i + 1) ≤ 19) from by omega) (show 19 - (i + 1) < 19 - i from by omega)
    · skip
      obtain ⟨k, hk⟩ : ∃ k, n = k + 1 := ⟨n - 1, by omega⟩
      subst hk
      show ZZ _ _ _ _ _ _ _ _ _ _ _ _ _ _ _ _ _ _ 23 [(0, .ref mo), (1, .int (zI (q : Int))), (2, .int (zI (r : Int))), (3, .int (zI (t : Int))), (4, .int (zI sh))] [] [oM mo th mw (nv : Int) mg ma mb (ns : Int) mlo mhi (nw : Int) mwe mru mrd, aL cL mw 160 (wkA (un (un rr t (rr q / (rr r * 1000000 ^ (k + 1)) * 1000000 ^ (k + 1))) q (rr q % (rr r * 1000000 ^ (k + 1)))))]
      refine z_lq (lv' := [(0, .ref mo), (1, .int (zI (q : Int))), (2, .int (zI (r : Int))), (3, .int (zI (t : Int))), (4, .int (zI (k : Int)))]) (congrArg (fun zzz : Int => ([(0, .ref mo), (1, .int (zI (q : Int))), (2, .int (zI (r : Int))), (3, .int (zI (t : Int))), (4, .int (zI zzz))] : List (Nat × Value))) (show sh = (k : Int) by omega)) ?_
      have hM0 : 0 < (rr r * 1000000 ^ k) := Nat.mul_pos h0 (Nat.pow_pos (by decide))
      have hMs : rr r * 1000000 ^ (k + 1) = (rr r * 1000000 ^ k) * 1000000 := by rw [Nat.pow_succ, Nat.mul_assoc]
      have hAn : rr q % (rr r * 1000000 ^ (k + 1)) < rr r * 1000000 ^ (k + 1) := Nat.mod_lt _ (Nat.mul_pos h0 (Nat.pow_pos (by decide)))
      refine z_lv (lv' := [(0, .ref mo), (1, .int (zI (q : Int))), (2, .int (zI (r : Int))), (3, .int (zI (t : Int))), (4, .int (zI (k : Int)))]) [0, 1, 2, 3, 4] rfl ?_
      refine z_wq (ws' := [oM mo th mw (nv : Int) mg ma mb (ns : Int) mlo mhi (nw : Int) mwe mru mrd, aL cL mw 160 (wkA (un (un rr t (rr q / (rr r * 1000000 ^ (k + 1)) * 1000000 ^ (k + 1) + 0 * 1000000 ^ k)) q ((rr q % (rr r * 1000000 ^ (k + 1))))))]) (by rw [Nat.zero_mul, Nat.add_zero (rr q / (rr r * 1000000 ^ (k + 1)) * 1000000 ^ (k + 1))]) ?_
      refine z_loop (I := fun (zz : Nat × Nat) => match zz with | (fo, ai) => (fo * (rr r * 1000000 ^ k) + ai = rr q % (rr r * 1000000 ^ (k + 1)))) (μ := fun (zz : Nat × Nat) => match zz with | (fo, ai) => ai) (LV := fun (zz : Nat × Nat) => match zz with | (fo, ai) => [(0, .ref mo), (1, .int (zI (q : Int))), (2, .int (zI (r : Int))), (3, .int (zI (t : Int))), (4, .int (zI (k : Int)))]) (WS := fun (zz : Nat × Nat) => match zz with | (fo, ai) => [oM mo th mw (nv : Int) mg ma mb (ns : Int) mlo mhi (nw : Int) mwe mru mrd, aL cL mw 160 (wkA (un (un rr t (rr q / (rr r * 1000000 ^ (k + 1)) * 1000000 ^ (k + 1) + fo * 1000000 ^ k)) q (ai)))]) (a := (0, (rr q % (rr r * 1000000 ^ (k + 1))))) ?_ ?_
      · exact (show (0 * (rr r * 1000000 ^ k) + (rr q % (rr r * 1000000 ^ (k + 1))) = rr q % (rr r * 1000000 ^ (k + 1))) from by rw [Nat.zero_mul, Nat.zero_add])
      · intro ⟨fo, ai⟩ hI ih23
        have he : fo * (rr r * 1000000 ^ k) + ai = rr q % (rr r * 1000000 ^ (k + 1)) := hI
        show ZZ _ _ _ _ _ _ _ _ _ _ _ _ _ _ _ _ _ _ 23 [(0, .ref mo), (1, .int (zI (q : Int))), (2, .int (zI (r : Int))), (3, .int (zI (t : Int))), (4, .int (zI (k : Int)))] [] [oM mo th mw (nv : Int) mg ma mb (ns : Int) mlo mhi (nw : Int) mwe mru mrd, aL cL mw 160 (wkA (un (un rr t (rr q / (rr r * 1000000 ^ (k + 1)) * 1000000 ^ (k + 1) + fo * 1000000 ^ k)) q (ai)))]
        have hal : ai ≤ rr q := Nat.le_trans (Nat.le_trans (Nat.le_add_left _ _) (Nat.le_of_eq he)) (Nat.mod_le _ _)
        have haB : ai < 1000000 ^ 20 := by omega
        have hRq : (un (un rr t (rr q / (rr r * 1000000 ^ (k + 1)) * 1000000 ^ (k + 1) + fo * 1000000 ^ k)) q (ai)) q = ai := un_s _ _ _
        have hRr : (un (un rr t (rr q / (rr r * 1000000 ^ (k + 1)) * 1000000 ^ (k + 1) + fo * 1000000 ^ k)) q (ai)) r = rr r := (un_n (Ne.symm hqr)).trans (un_n hrt)
        have hRt : (un (un rr t (rr q / (rr r * 1000000 ^ (k + 1)) * 1000000 ^ (k + 1) + fo * 1000000 ^ k)) q (ai)) t = rr q / (rr r * 1000000 ^ (k + 1)) * 1000000 ^ (k + 1) + fo * 1000000 ^ k := (un_n (Ne.symm hqt)).trans (un_s _ _ _)
        refine z_aload_n S d_M_divide_23 0 rfl ?_
        refine z_iload_n S d_M_divide_24 1 rfl ?_
        refine z_iload_n S d_M_divide_25 2 rfl ?_
        refine z_iload S d_M_divide_26 4 rfl ?_
        refine z_callVa (As := [.int (zI (q : Int)), .int (zI (r : Int)), .int (zI (k : Int))]) (st := []) (wc := [oM mo th mw (nv : Int) mg ma mb (ns : Int) mlo mhi (nw : Int) mwe mru mrd, aL cL mw 160 (wkA (un (un rr t (rr q / (rr r * 1000000 ^ (k + 1)) * 1000000 ^ (k + 1) + fo * 1000000 ^ k)) q (ai)))]) (wr := []) S hGok hK hg hA (s_M_reaches l dC dI cI cL qT mo mw nv ma mb ns mlo mhi nw mwe mru mrd th mg (un (un rr t (rr q / (rr r * 1000000 ^ (k + 1)) * 1000000 ^ (k + 1) + fo * 1000000 ^ k)) q (ai)) q r k (by omega) (by omega) (by rw [hRq]; exact haB) (by rw [hRr]; exact hrr) (by omega) (by rw [hRr]; exact h0)) (zcwV S (List.mem_cons_of_mem _ k_M_62) mV_M_reaches k_M_62 hd_M_reaches rfl rfl ⟨Nat.le_of_ble_eq_true rfl, Nat.le_of_ble_eq_true rfl⟩) rfl (Nat.le_of_ble_eq_true rfl) d_M_divide_28 ⟨Nat.le_of_ble_eq_true rfl, Nat.le_of_ble_eq_true rfl⟩ rfl [0, 1] [] 0 rfl rfl rfl (by decide) rfl rfl rfl (by decide) (by decide) (fun x w hp => ?_)
        obtain ⟨rfl, rfl⟩ := hp
        show ZZ _ _ _ _ _ _ _ _ _ _ _ _ _ _ _ _ _ _ 31 [(0, .ref mo), (1, .int (zI (q : Int))), (2, .int (zI (r : Int))), (3, .int (zI (t : Int))), (4, .int (zI (k : Int)))] [.int (zI (b2 (((un (un rr t (rr q / (rr r * 1000000 ^ (k + 1)) * 1000000 ^ (k + 1) + fo * 1000000 ^ k)) q (ai)) r * 1000000 ^ k) ≤ (un (un rr t (rr q / (rr r * 1000000 ^ (k + 1)) * 1000000 ^ (k + 1) + fo * 1000000 ^ k)) q (ai)) q)))] [oM mo th mw (nv : Int) mg ma mb (ns : Int) mlo mhi (nw : Int) mwe mru mrd, aL cL mw 160 (wkA (un (un rr t (rr q / (rr r * 1000000 ^ (k + 1)) * 1000000 ^ (k + 1) + fo * 1000000 ^ k)) q (ai)))]
        refine z_toi (a := b2 ((rr r * 1000000 ^ k) ≤ ai)) (zI_c (by rw [hRq, hRr])) ?_
        have hbr := b2_r ((rr r * 1000000 ^ k) ≤ ai)
        refine z_if_eq (tgt := 188) S d_M_divide_31 (by decide) (by omega) (fun c6 => ?_) (fun c6 => ?_)
        · skip
          have hlt : ai < (rr r * 1000000 ^ k) := by have := b2_0.mp c6; omega
          obtain ⟨r1, r2⟩ := dv_end he hlt
          have hx1 : rr q / (rr r * 1000000 ^ (k + 1)) * 1000000 ^ (k + 1) + fo * 1000000 ^ k = rr q / (rr r * 1000000 ^ k) * 1000000 ^ k := by rw [r1, st_dv (A := rr q) (o := rr r) (s := k), Nat.add_mul, Nat.pow_succ, Nat.mul_comm (1000000 ^ k) 1000000, ← Nat.mul_assoc]
          have hx2 : ai = rr q % (rr r * 1000000 ^ k) := by rw [r2, dv_rem]
          refine z_wq (ws' := [oM mo th mw (nv : Int) mg ma mb (ns : Int) mlo mhi (nw : Int) mwe mru mrd, aL cL mw 160 (wkA (un (un rr t (rr q / (rr r * 1000000 ^ k) * 1000000 ^ k)) q (rr q % (rr r * 1000000 ^ k))))]) (by rw [hx1, hx2]) ?_
          refine z_iinc (y := (k : Int) - 1) (lv' := [(4, .int (zI ((k : Int) - 1))), (0, .ref mo), (1, .int (zI (q : Int))), (2, .int (zI (r : Int))), (3, .int (zI (t : Int)))]) S d_M_divide_188 4 rfl (by omega) (by decide) rfl ?_
          refine z_goto (tgt := 18) S d_M_divide_191 (by decide) ?_
          refine z_lv (lv' := [(0, .ref mo), (1, .int (zI (q : Int))), (2, .int (zI (r : Int))), (3, .int (zI (t : Int))), (4, .int (zI ((k : Int) - 1)))]) [1, 2, 3, 4, 0] rfl ?_
          exact ih18 (k, (k : Int) - 1) (show (((k : Int) - 1) + 1 = (k : Int) ∨ (k = 0 ∧ ((k : Int) - 1) < 0)) ∧ (-20 ≤ ((k : Int) - 1) ∧ ((k : Int) - 1) ≤ 19) from ⟨by omega, by omega⟩) (show k < (k + 1) from by omega)
        · skip
          have hMi : (rr r * 1000000 ^ k) ≤ ai := Decidable.not_not.mp (fun z => absurd (b2_f z) c6)
          refine z_aload_n S d_M_divide_34 0 rfl ?_
          refine z_iload_n S d_M_divide_35 1 rfl ?_
          refine z_iload_n S d_M_divide_36 2 rfl ?_
          refine z_iload S d_M_divide_37 4 rfl ?_
          refine z_callVa (As := [.int (zI (q : Int)), .int (zI (r : Int)), .int (zI (k : Int))]) (st := []) (wc := [oM mo th mw (nv : Int) mg ma mb (ns : Int) mlo mhi (nw : Int) mwe mru mrd, aL cL mw 160 (wkA (un (un rr t (rr q / (rr r * 1000000 ^ (k + 1)) * 1000000 ^ (k + 1) + fo * 1000000 ^ k)) q (ai)))]) (wr := []) S hGok hK hg hA (s_M_often l dC dI cI cL qT mo mw nv ma mb ns mlo mhi nw mwe mru mrd th mg (un (un rr t (rr q / (rr r * 1000000 ^ (k + 1)) * 1000000 ^ (k + 1) + fo * 1000000 ^ k)) q (ai)) q r k (by omega) (by omega) (by rw [hRq]; exact haB) (by rw [hRr]; exact hrr) (by rw [hRr]; exact h0) (by rw [hRq, hRr]; exact hMi) (by rw [hRq, hRr]; omega) (by omega)) (zcwV S (List.mem_cons_of_mem _ k_M_66) mV_M_often k_M_66 hd_M_often rfl rfl ⟨Nat.le_of_ble_eq_true rfl, Nat.le_of_ble_eq_true rfl⟩) rfl (Nat.le_of_ble_eq_true rfl) d_M_divide_39 ⟨Nat.le_of_ble_eq_true rfl, Nat.le_of_ble_eq_true rfl⟩ rfl [0, 1] [] 0 rfl rfl rfl (by decide) rfl rfl rfl (by decide) (by decide) (fun x w hp => ?_)
          obtain ⟨gq, hg1, hg2, rfl, rfl⟩ := hp
          show ZZ _ _ _ _ _ _ _ _ _ _ _ _ _ _ _ _ _ _ 42 [(0, .ref mo), (1, .int (zI (q : Int))), (2, .int (zI (r : Int))), (3, .int (zI (t : Int))), (4, .int (zI (k : Int)))] [.long (zL (gq : Int))] [oM mo th mw (nv : Int) mg ma mb (ns : Int) mlo mhi (nw : Int) mwe mru mrd, aL cL mw 160 (wkA (un (un rr t (rr q / (rr r * 1000000 ^ (k + 1)) * 1000000 ^ (k + 1) + fo * 1000000 ^ k)) q (ai)))]
          rw [hRq, hRr] at hg2
          have hmul : rr r * gq * 1000000 ^ k = gq * (rr r * 1000000 ^ k) := by rw [Nat.mul_comm (rr r) gq, Nat.mul_assoc]
          have hfg : fo + gq < 1000000 := by
            have h1 : (fo + gq) * (rr r * 1000000 ^ k) < 1000000 * (rr r * 1000000 ^ k) := by rw [Nat.add_mul, Nat.mul_comm 1000000, ← hMs]; omega
            exact Nat.lt_of_mul_lt_mul_right h1
          have hdX : dg 1000000 (rr q / (rr r * 1000000 ^ (k + 1)) * 1000000 ^ (k + 1) + fo * 1000000 ^ k) k = fo := by
            unfold dg
            rw [Nat.pow_succ, Nat.mul_comm (1000000 ^ k) 1000000, ← Nat.mul_assoc, dv_up (by decide), Nat.mul_div_cancel _ (Nat.pow_pos (by decide)), Nat.mul_add_mod_self_right, Nat.mod_eq_of_lt (by omega)]
          have hk19 : k < 20 := by omega
          have hpos : 0 < rr r * gq * 1000000 ^ k := by rw [hmul]; exact Nat.mul_pos hg1 hM0
          have hle2 : rr r * gq * 1000000 ^ k ≤ ai := by rw [hmul]; exact hg2
          refine z_lstore (lv' := [(5, .long (zL (gq : Int))), (0, .ref mo), (1, .int (zI (q : Int))), (2, .int (zI (r : Int))), (3, .int (zI (t : Int))), (4, .int (zI (k : Int)))]) S d_M_divide_42 (by decide) rfl ?_
          refine z_aload_n S d_M_divide_44 1 rfl ?_
          refine z_get S hK la_M 0 rfl rfl 1 (by decide) k_M_7 rfl d_M_divide_45 ?_
          refine z_iload_n S d_M_divide_48 4 rfl ?_
          refine z_bipush S d_M_divide_49 rfl ?_
          refine z_imul S d_M_divide_51 ?_
          refine z_iload S d_M_divide_52 5 rfl ?_
          refine z_iadd S d_M_divide_54 ?_
          refine z_aload_n S d_M_divide_55 1 rfl ?_
          refine z_get S hK la_M 0 rfl rfl 1 (by decide) k_M_7 rfl d_M_divide_56 ?_
          refine z_iload_n S d_M_divide_59 4 rfl ?_
          refine z_bipush S d_M_divide_60 rfl ?_
          refine z_imul S d_M_divide_62 ?_
          refine z_iload S d_M_divide_63 5 rfl ?_
          refine z_iadd S d_M_divide_65 ?_
          refine z_lald (x := (fo : Int)) S hK 1 1 rfl rfl (t * 20 + k) (by omega) (by omega) (by decide) ((wkA_at _ hk19).trans (by rw [hRt, hdX])) d_M_divide_66 ?_
          refine z_lload S d_M_divide_67 0 rfl ?_
          refine z_ladd S d_M_divide_69 ?_
          refine z_topl (fun x7 ex7 => ?_)
          refine z_last (f' := wkA (un (un rr t (rr q / (rr r * 1000000 ^ (k + 1)) * 1000000 ^ (k + 1) + (fo + gq) * 1000000 ^ k)) q (ai))) (ws' := [oM mo th mw (nv : Int) mg ma mb (ns : Int) mlo mhi (nw : Int) mwe mru mrd, aL cL mw 160 (wkA (un (un rr t (rr q / (rr r * 1000000 ^ (k + 1)) * 1000000 ^ (k + 1) + (fo + gq) * 1000000 ^ k)) q (ai)))]) S hK 1 1 rfl rfl (t * 20 + k) (by omega) (by omega) (by decide) ((wkA_up (v := rr q / (rr r * 1000000 ^ (k + 1)) * 1000000 ^ (k + 1) + (fo + gq) * 1000000 ^ k) (d := fo + gq) hk19 (zL_c (by omega)) (fun j hj => by rw [hRt, Nat.add_mul, ← Nat.add_assoc, dg_ad (by decide) (by rw [hdX]; exact hfg), hdX])).trans (by rw [un_cm hqt, un_un])) rfl d_M_divide_70 ?_
          refine z_lconst (z := 0) S d_M_divide_71 rfl ?_
          refine z_lstore (lv' := [(7, .long (zL 0)), (5, .long (zL (gq : Int))), (0, .ref mo), (1, .int (zI (q : Int))), (2, .int (zI (r : Int))), (3, .int (zI (t : Int))), (4, .int (zI (k : Int)))]) S d_M_divide_72 (by decide) rfl ?_
          refine z_aload_n S d_M_divide_74 2 rfl ?_
          refine z_iload_n S d_M_divide_75 3 rfl ?_
          refine z_callVa (As := [.int (zI (q : Int))]) (st := []) (wc := [oM mo th mw (nv : Int) mg ma mb (ns : Int) mlo mhi (nw : Int) mwe mru mrd, aL cL mw 160 (wkA (un (un rr t (rr q / (rr r * 1000000 ^ (k + 1)) * 1000000 ^ (k + 1) + (fo + gq) * 1000000 ^ k)) q (ai)))]) (wr := []) S hGok hK hg hA (s_M_top l dC dI cI cL qT mo mw nv ma mb ns mlo mhi nw mwe mru mrd th mg (un (un rr t (rr q / (rr r * 1000000 ^ (k + 1)) * 1000000 ^ (k + 1) + (fo + gq) * 1000000 ^ k)) q (ai)) q (by omega)) (zcwV S (List.mem_cons_of_mem _ k_M_56) mV_M_top k_M_56 hd_M_top rfl rfl ⟨Nat.le_of_ble_eq_true rfl, Nat.le_of_ble_eq_true rfl⟩) rfl (Nat.le_of_ble_eq_true rfl) d_M_divide_76 ⟨Nat.le_of_ble_eq_true rfl, Nat.le_of_ble_eq_true rfl⟩ rfl [0, 1] [] 0 rfl rfl rfl (by decide) rfl rfl rfl (by decide) (by decide) (fun x w hp => ?_)
          obtain ⟨rfl, rfl⟩ := hp
          show ZZ _ _ _ _ _ _ _ _ _ _ _ _ _ _ _ _ _ _ 79 [(7, .long (zL 0)), (5, .long (zL (gq : Int))), (0, .ref mo), (1, .int (zI (q : Int))), (2, .int (zI (r : Int))), (3, .int (zI (t : Int))), (4, .int (zI (k : Int)))] [.int (zI (((tp ((un (un rr t (rr q / (rr r * 1000000 ^ (k + 1)) * 1000000 ^ (k + 1) + (fo + gq) * 1000000 ^ k)) q (ai)) q) : Nat) : Int) - 1))] [oM mo th mw (nv : Int) mg ma mb (ns : Int) mlo mhi (nw : Int) mwe mru mrd, aL cL mw 160 (wkA (un (un rr t (rr q / (rr r * 1000000 ^ (k + 1)) * 1000000 ^ (k + 1) + (fo + gq) * 1000000 ^ k)) q (ai)))]
          refine z_toi (a := ((tp ai : Nat) : Int) - 1) (zI_c (by rw [un_s])) ?_
          have hta := tp_le ai
          have hkt : k + 1 ≤ tp ai := by
            have h1 := tp_lt haB
            rcases Nat.lt_or_ge k (tp ai) with z | z
            · exact z
            · have h2 := pw_le (b := 1000000) (by decide) z
              have h3 := Nat.le_mul_of_pos_left (1000000 ^ k) h0
              omega
          have hRt2 : ai - rr r * gq * 1000000 ^ k + rr r * gq * 1000000 ^ k = ai := by rw [hmul]; omega
          refine z_topi (fun x8 ex8 => ?_)
          refine z_istore (lv' := [(9, .int (zI x8)), (7, .long (zL 0)), (5, .long (zL (gq : Int))), (0, .ref mo), (1, .int (zI (q : Int))), (2, .int (zI (r : Int))), (3, .int (zI (t : Int))), (4, .int (zI (k : Int)))]) S d_M_divide_79 (by decide) rfl ?_
          refine z_iload S d_M_divide_81 7 rfl ?_
          refine z_istore (lv' := [(10, .int (zI (k : Int))), (9, .int (zI x8)), (7, .long (zL 0)), (5, .long (zL (gq : Int))), (0, .ref mo), (1, .int (zI (q : Int))), (2, .int (zI (r : Int))), (3, .int (zI (t : Int))), (4, .int (zI (k : Int)))]) S d_M_divide_83 (by decide) rfl ?_
          refine z_lv (lv' := [(0, .ref mo), (1, .int (zI (q : Int))), (2, .int (zI (r : Int))), (3, .int (zI (t : Int))), (4, .int (zI (k : Int))), (5, .long (zL (gq : Int))), (7, .long (zL 0)), (9, .int (zI x8)), (10, .int (zI (k : Int)))]) [4, 5, 6, 7, 8, 3, 2, 1, 0] rfl ?_
          refine z_wq (ws' := [oM mo th mw (nv : Int) mg ma mb (ns : Int) mlo mhi (nw : Int) mwe mru mrd, aL cL mw 160 (wkR (un rr t (rr q / (rr r * 1000000 ^ (k + 1)) * 1000000 ^ (k + 1) + (fo + gq) * 1000000 ^ k)) q (mx (dg 1000000 (ai - rr r * gq * 1000000 ^ k)) (dg 1000000 ai) (0 + k)))]) (by rw [show (0 : Nat) + k = k by omega, mx_s2 (fun j hj => by rw [← dg_low (b := 1000000) (v := ai - rr r * gq * 1000000 ^ k) (k := rr r * gq) (by decide) hj, hRt2]), wkR_un]) ?_
          refine z_lq (lv' := [(0, .ref mo), (1, .int (zI (q : Int))), (2, .int (zI (r : Int))), (3, .int (zI (t : Int))), (4, .int (zI (k : Int))), (5, .long (zL (gq : Int))), (7, .long (zL ((0 : Nat) : Int))), (9, .int (zI (((tp ai : Nat) : Int) - 1))), (10, .int (zI ((0 + k : Nat) : Int)))]) (Eq.trans (Eq.trans ((congrArg (fun zzz : Int => ([(0, .ref mo), (1, .int (zI (q : Int))), (2, .int (zI (r : Int))), (3, .int (zI (t : Int))), (4, .int (zI (k : Int))), (5, .long (zL (gq : Int))), (7, .long (zL zzz)), (9, .int (zI x8)), (10, .int (zI (k : Int)))] : List (Nat × Value))) (show (0 : Int) = ((0 : Nat) : Int) by omega))) (congrArg (fun zzz : Int => ([(0, .ref mo), (1, .int (zI (q : Int))), (2, .int (zI (r : Int))), (3, .int (zI (t : Int))), (4, .int (zI (k : Int))), (5, .long (zL (gq : Int))), (7, .long (zL ((0 : Nat) : Int))), (9, .int (zI zzz)), (10, .int (zI (k : Int)))] : List (Nat × Value))) (show (x8 : Int) = ((tp ai : Nat) : Int) - 1 by omega))) (congrArg (fun zzz : Int => ([(0, .ref mo), (1, .int (zI (q : Int))), (2, .int (zI (r : Int))), (3, .int (zI (t : Int))), (4, .int (zI (k : Int))), (5, .long (zL (gq : Int))), (7, .long (zL ((0 : Nat) : Int))), (9, .int (zI (((tp ai : Nat) : Int) - 1))), (10, .int (zI zzz))] : List (Nat × Value))) (show ((k : Int) : Int) = ((0 + k : Nat) : Int) by omega))) ?_
          refine z_loop (I := fun (zz : Nat × Nat) => match zz with | (i, cy) => (i + k ≤ tp ai) ∧ (cy ≤ gq + 1) ∧ ((ai - rr r * gq * 1000000 ^ k) / 1000000 ^ k / 1000000 ^ i + rr r / 1000000 ^ i * gq + cy = ai / 1000000 ^ k / 1000000 ^ i)) (μ := fun (zz : Nat × Nat) => match zz with | (i, cy) => 20 - i) (LV := fun (zz : Nat × Nat) => match zz with | (i, cy) => [(0, .ref mo), (1, .int (zI (q : Int))), (2, .int (zI (r : Int))), (3, .int (zI (t : Int))), (4, .int (zI (k : Int))), (5, .long (zL (gq : Int))), (7, .long (zL (cy : Int))), (9, .int (zI (((tp ai : Nat) : Int) - 1))), (10, .int (zI ((i + k : Nat) : Int)))]) (WS := fun (zz : Nat × Nat) => match zz with | (i, cy) => [oM mo th mw (nv : Int) mg ma mb (ns : Int) mlo mhi (nw : Int) mwe mru mrd, aL cL mw 160 (wkR (un rr t (rr q / (rr r * 1000000 ^ (k + 1)) * 1000000 ^ (k + 1) + (fo + gq) * 1000000 ^ k)) q (mx (dg 1000000 (ai - rr r * gq * 1000000 ^ k)) (dg 1000000 ai) (i + k)))]) (a := (0, 0)) ?_ ?_
          · exact (show (0 + k ≤ tp ai) ∧ (0 ≤ gq + 1) ∧ ((ai - rr r * gq * 1000000 ^ k) / 1000000 ^ k / 1000000 ^ 0 + rr r / 1000000 ^ 0 * gq + 0 = ai / 1000000 ^ k / 1000000 ^ 0) from ⟨by omega, by omega, by rw [dv_0, dv_0, dv_0, Nat.add_zero, ← dv_up (by decide), hRt2]⟩)
          · intro ⟨i, cy⟩ hI ih85
            obtain ⟨hi, hcy, hz⟩ : (i + k ≤ tp ai) ∧ (cy ≤ gq + 1) ∧ ((ai - rr r * gq * 1000000 ^ k) / 1000000 ^ k / 1000000 ^ i + rr r / 1000000 ^ i * gq + cy = ai / 1000000 ^ k / 1000000 ^ i) := hI
            show ZZ _ _ _ _ _ _ _ _ _ _ _ _ _ _ _ _ _ _ 85 [(0, .ref mo), (1, .int (zI (q : Int))), (2, .int (zI (r : Int))), (3, .int (zI (t : Int))), (4, .int (zI (k : Int))), (5, .long (zL (gq : Int))), (7, .long (zL (cy : Int))), (9, .int (zI (((tp ai : Nat) : Int) - 1))), (10, .int (zI ((i + k : Nat) : Int)))] [] [oM mo th mw (nv : Int) mg ma mb (ns : Int) mlo mhi (nw : Int) mwe mru mrd, aL cL mw 160 (wkR (un rr t (rr q / (rr r * 1000000 ^ (k + 1)) * 1000000 ^ (k + 1) + (fo + gq) * 1000000 ^ k)) q (mx (dg 1000000 (ai - rr r * gq * 1000000 ^ k)) (dg 1000000 ai) (i + k)))]
            refine z_iload S d_M_divide_85 8 rfl ?_
            refine z_iload S d_M_divide_87 7 rfl ?_
            refine z_icmp_gt (tgt := 185) S d_M_divide_89 (by decide) (by omega) (by omega) (fun c9 => ?_) (fun c9 => ?_)
            · skip
              have hik : i + k = tp ai := by omega
              have hz2 : (ai - rr r * gq * 1000000 ^ k) / 1000000 ^ (i + k) = ai / 1000000 ^ (i + k) := by
                have e0 := dv_z (tp_lt haB)
                rw [← hik] at e0
                have e1 : (ai - rr r * gq * 1000000 ^ k) / 1000000 ^ (i + k) = 0 := Nat.div_eq_of_lt (Nat.lt_of_le_of_lt (Nat.sub_le _ _) (by rw [hik]; exact tp_lt haB))
                rw [e0, e1]
              refine z_wq (ws' := [oM mo th mw (nv : Int) mg ma mb (ns : Int) mlo mhi (nw : Int) mwe mru mrd, aL cL mw 160 (wkA (un (un rr t (rr q / (rr r * 1000000 ^ (k + 1)) * 1000000 ^ (k + 1) + (fo + gq) * 1000000 ^ k)) q (ai - rr r * gq * 1000000 ^ k)))]) (by rw [mx_e2 hz2, wkR_un]) ?_
              refine z_goto (tgt := 23) S d_M_divide_185 (by decide) ?_
              refine z_lv (lv' := [(0, .ref mo), (1, .int (zI (q : Int))), (2, .int (zI (r : Int))), (3, .int (zI (t : Int))), (4, .int (zI (k : Int)))]) [0, 1, 2, 3, 4] rfl ?_
              exact ih23 ((fo + gq), (ai - rr r * gq * 1000000 ^ k)) (show ((fo + gq) * (rr r * 1000000 ^ k) + (ai - rr r * gq * 1000000 ^ k) = rr q % (rr r * 1000000 ^ (k + 1))) from by rw [hmul, Nat.add_mul]; omega) (show (ai - rr r * gq * 1000000 ^ k) < ai from by omega)
            · skip
              have ld := dg_lt (b := 1000000) (by decide) (rr r) (i)
              have l2 := dg_lt (b := 1000000) (by decide) (ai) (i + k)
              have l4 := dg_lt (b := 1000000) (by decide) (ai - rr r * gq * 1000000 ^ k) (i + k)
              have hp2 := Nat.mul_le_mul_right gq (show dg 1000000 (rr r) i ≤ 999999 by omega)
              have hp3 : 0 ≤ dg 1000000 (rr r) i * gq := Nat.zero_le _
              obtain ⟨kk, hkk⟩ : ∃ kk : Nat, kk = dg 1000000 (rr r) i * gq := ⟨_, rfl⟩
              have hdt := dg_sh 1000000 ai i k
              have hdr := dg_sh 1000000 (ai - rr r * gq * 1000000 ^ k) i k
              refine z_aload_n S d_M_divide_92 0 rfl ?_
              refine z_get S hK la_M 0 rfl rfl 1 (by decide) k_M_7 rfl d_M_divide_93 ?_
              refine z_iload_n S d_M_divide_96 1 rfl ?_
              refine z_bipush S d_M_divide_97 rfl ?_
              refine z_imul S d_M_divide_99 ?_
              refine z_iload S d_M_divide_100 8 rfl ?_
              refine z_iadd S d_M_divide_102 ?_
              refine z_lald (x := ((dg 1000000 ai (i + k) : Nat) : Int)) S hK 1 1 rfl rfl (q * 20 + (i + k)) (by omega) (by omega) (by decide) ((wkR_at (by omega)).trans (by rw [mx_hi (Nat.le_refl _)])) d_M_divide_103 ?_
              refine z_lload S d_M_divide_104 6 rfl ?_
              refine z_lsub S d_M_divide_106 ?_
              refine z_lload S d_M_divide_107 5 rfl ?_
              refine z_aload_n S d_M_divide_109 0 rfl ?_
              refine z_get S hK la_M 0 rfl rfl 1 (by decide) k_M_7 rfl d_M_divide_110 ?_
              refine z_iload_n S d_M_divide_113 2 rfl ?_
              refine z_bipush S d_M_divide_114 rfl ?_
              refine z_imul S d_M_divide_116 ?_
              refine z_iload S d_M_divide_117 8 rfl ?_
              refine z_iadd S d_M_divide_119 ?_
              refine z_iload S d_M_divide_120 4 rfl ?_
              refine z_isub S d_M_divide_122 ?_
              refine z_lald (x := ((dg 1000000 (rr r) i : Nat) : Int)) S hK 1 1 rfl rfl (r * 20 + i) (by omega) (by omega) (by decide) ((wkR_ne (by omega) (Ne.symm hqr)).trans (by rw [un_n hrt])) d_M_divide_123 ?_
              refine z_lmul S d_M_divide_124 ?_
              refine z_lsub S d_M_divide_125 ?_
              refine z_topl (fun x10 ex10 => ?_)
              refine z_lstore (lv' := [(11, .long (zL x10)), (0, .ref mo), (1, .int (zI (q : Int))), (2, .int (zI (r : Int))), (3, .int (zI (t : Int))), (4, .int (zI (k : Int))), (5, .long (zL (gq : Int))), (7, .long (zL (cy : Int))), (9, .int (zI (((tp ai : Nat) : Int) - 1))), (10, .int (zI ((i + k : Nat) : Int)))]) S d_M_divide_126 (by decide) rfl ?_
              have hx : x10 = ((dg 1000000 ai (i + k) : Nat) : Int) - (cy : Int) - (kk : Int) := by rw [ex10, hkk, Nat.mul_comm (dg 1000000 (rr r) i) gq, Int.natCast_mul]
              refine z_lload S d_M_divide_128 0 rfl ?_
              refine z_lconst (z := 0) S d_M_divide_130 rfl ?_
              refine z_lcmp_ge (tgt := 151) S d_M_divide_131 d_M_divide_132 (by decide) (by omega) (by omega) (fun c11 => ?_) (fun c11 => ?_)
              · skip
                refine z_lconst (z := 0) S d_M_divide_151 rfl ?_
                obtain ⟨L, hL⟩ : ∃ L : Nat, L = 0 := ⟨_, rfl⟩
                have hs := st_qb6 (L := L) hz (by rw [← hdt, ← hkk, if_neg (by omega)]; exact hL)
                rw [← hdt, ← hdr, ← hkk] at hs
                obtain ⟨g1, g2⟩ := hs
                refine z_tol (a := (L : Int)) (zL_c (by omega)) ?_
                refine z_lstore (lv' := [(13, .long (zL (L : Int))), (11, .long (zL x10)), (0, .ref mo), (1, .int (zI (q : Int))), (2, .int (zI (r : Int))), (3, .int (zI (t : Int))), (4, .int (zI (k : Int))), (5, .long (zL (gq : Int))), (7, .long (zL (cy : Int))), (9, .int (zI (((tp ai : Nat) : Int) - 1))), (10, .int (zI ((i + k : Nat) : Int)))]) S d_M_divide_152 (by decide) rfl ?_
                refine z_aload_n S d_M_divide_154 2 rfl ?_
                refine z_get S hK la_M 0 rfl rfl 1 (by decide) k_M_7 rfl d_M_divide_155 ?_
                refine z_iload_n S d_M_divide_158 3 rfl ?_
                refine z_bipush S d_M_divide_159 rfl ?_
                refine z_imul S d_M_divide_161 ?_
                refine z_iload S d_M_divide_162 10 rfl ?_
                refine z_iadd S d_M_divide_164 ?_
                refine z_lload S d_M_divide_165 1 rfl ?_
                refine z_lload S d_M_divide_167 0 rfl ?_
                refine z_ldc2 (v := 1000000) (z := 1000000) S k_M_54 d_M_divide_169 (by decide) ?_
                refine z_lmul S d_M_divide_172 ?_
                refine z_ladd S d_M_divide_173 ?_
                refine z_topl (fun x12 ex12 => ?_)
                refine z_last (f' := wkR (un rr t (rr q / (rr r * 1000000 ^ (k + 1)) * 1000000 ^ (k + 1) + (fo + gq) * 1000000 ^ k)) q (mx (dg 1000000 (ai - rr r * gq * 1000000 ^ k)) (dg 1000000 ai) (i + 1 + k))) (ws' := [oM mo th mw (nv : Int) mg ma mb (ns : Int) mlo mhi (nw : Int) mwe mru mrd, aL cL mw 160 (wkR (un rr t (rr q / (rr r * 1000000 ^ (k + 1)) * 1000000 ^ (k + 1) + (fo + gq) * 1000000 ^ k)) q (mx (dg 1000000 (ai - rr r * gq * 1000000 ^ k)) (dg 1000000 ai) (i + 1 + k)))]) S hK 1 1 rfl rfl (q * 20 + (i + k)) (by omega) (by omega) (by decide) (by rw [Nat.add_right_comm]; exact wkR_mx (by omega) (zL_c (by omega))) rfl d_M_divide_174 ?_
                refine z_lload S d_M_divide_175 0 rfl ?_
                refine z_lstore (lv' := [(7, .long (zL (L : Int))), (13, .long (zL (L : Int))), (11, .long (zL x10)), (0, .ref mo), (1, .int (zI (q : Int))), (2, .int (zI (r : Int))), (3, .int (zI (t : Int))), (4, .int (zI (k : Int))), (5, .long (zL (gq : Int))), (9, .int (zI (((tp ai : Nat) : Int) - 1))), (10, .int (zI ((i + k : Nat) : Int)))]) S d_M_divide_177 (by decide) rfl ?_
                refine z_iinc (y := ((i + k : Nat) : Int) + 1) (lv' := [(10, .int (zI (((i + k : Nat) : Int) + 1))), (7, .long (zL (L : Int))), (13, .long (zL (L : Int))), (11, .long (zL x10)), (0, .ref mo), (1, .int (zI (q : Int))), (2, .int (zI (r : Int))), (3, .int (zI (t : Int))), (4, .int (zI (k : Int))), (5, .long (zL (gq : Int))), (9, .int (zI (((tp ai : Nat) : Int) - 1)))]) S d_M_divide_179 10 rfl (by omega) (by decide) rfl ?_
                refine z_goto (tgt := 85) S d_M_divide_182 (by decide) ?_
                refine z_lv (lv' := [(0, .ref mo), (1, .int (zI (q : Int))), (2, .int (zI (r : Int))), (3, .int (zI (t : Int))), (4, .int (zI (k : Int))), (5, .long (zL (gq : Int))), (7, .long (zL (L : Int))), (9, .int (zI (((tp ai : Nat) : Int) - 1))), (10, .int (zI (((i + k : Nat) : Int) + 1)))]) [4, 5, 6, 7, 8, 9, 1, 10, 0] rfl ?_
                refine z_lq (lv' := [(0, .ref mo), (1, .int (zI (q : Int))), (2, .int (zI (r : Int))), (3, .int (zI (t : Int))), (4, .int (zI (k : Int))), (5, .long (zL (gq : Int))), (7, .long (zL (L : Int))), (9, .int (zI (((tp ai : Nat) : Int) - 1))), (10, .int (zI (((i + 1) + k : Nat) : Int)))]) (congrArg (fun zzz : Int => ([(0, .ref mo), (1, .int (zI (q : Int))), (2, .int (zI (r : Int))), (3, .int (zI (t : Int))), (4, .int (zI (k : Int))), (5, .long (zL (gq : Int))), (7, .long (zL (L : Int))), (9, .int (zI (((tp ai : Nat) : Int) - 1))), (10, .int (zI zzz))] : List (Nat × Value))) (show (((i + k : Nat) : Int) + 1 : Int) = (((i + 1) + k : Nat) : Int) by omega)) ?_
                exact ih85 ((i + 1), L) (show ((i + 1) + k ≤ tp ai) ∧ (L ≤ gq + 1) ∧ ((ai - rr r * gq * 1000000 ^ k) / 1000000 ^ k / 1000000 ^ (i + 1) + rr r / 1000000 ^ (i + 1) * gq + L = ai / 1000000 ^ k / 1000000 ^ (i + 1)) from ⟨by omega, by omega, g2⟩) (show 20 - (i + 1) < 20 - i from by omega)
              · skip
                refine z_lload S d_M_divide_135 0 rfl ?_
                refine z_lneg S d_M_divide_137 ?_
                refine z_ldc2 (v := 1000000) (z := 1000000) S k_M_54 d_M_divide_138 (by decide) ?_
                refine z_ladd S d_M_divide_141 ?_
                refine z_lconst (z := 1) S d_M_divide_142 rfl ?_
                refine z_lsub S d_M_divide_143 ?_
                refine z_ldc2 (v := 1000000) (z := 1000000) S k_M_54 d_M_divide_144 (by decide) ?_
                refine z_ldiv S d_M_divide_147 (by omega) (by omega) ?_
                refine z_goto (tgt := 152) S d_M_divide_148 (by decide) ?_
                obtain ⟨L, hL⟩ : ∃ L : Nat, L = (cy + kk - dg 1000000 ai (i + k) + 999999) / 1000000 := ⟨_, rfl⟩
                have hs := st_qb6 (L := L) hz (by rw [← hdt, ← hkk, if_pos (by omega)]; exact hL)
                rw [← hdt, ← hdr, ← hkk] at hs
                obtain ⟨g1, g2⟩ := hs
                refine z_tol (a := (L : Int)) (zL_c (by omega)) ?_
                refine z_lstore (lv' := [(13, .long (zL (L : Int))), (11, .long (zL x10)), (0, .ref mo), (1, .int (zI (q : Int))), (2, .int (zI (r : Int))), (3, .int (zI (t : Int))), (4, .int (zI (k : Int))), (5, .long (zL (gq : Int))), (7, .long (zL (cy : Int))), (9, .int (zI (((tp ai : Nat) : Int) - 1))), (10, .int (zI ((i + k : Nat) : Int)))]) S d_M_divide_152 (by decide) rfl ?_
                refine z_aload_n S d_M_divide_154 2 rfl ?_
                refine z_get S hK la_M 0 rfl rfl 1 (by decide) k_M_7 rfl d_M_divide_155 ?_
                refine z_iload_n S d_M_divide_158 3 rfl ?_
                refine z_bipush S d_M_divide_159 rfl ?_
                refine z_imul S d_M_divide_161 ?_
                refine z_iload S d_M_divide_162 10 rfl ?_
                refine z_iadd S d_M_divide_164 ?_
                refine z_lload S d_M_divide_165 1 rfl ?_
                refine z_lload S d_M_divide_167 0 rfl ?_
                refine z_ldc2 (v := 1000000) (z := 1000000) S k_M_54 d_M_divide_169 (by decide) ?_
                refine z_lmul S d_M_divide_172 ?_
                refine z_ladd S d_M_divide_173 ?_
                refine z_topl (fun x13 ex13 => ?_)
                refine z_last (f' := wkR (un rr t (rr q / (rr r * 1000000 ^ (k + 1)) * 1000000 ^ (k + 1) + (fo + gq) * 1000000 ^ k)) q (mx (dg 1000000 (ai - rr r * gq * 1000000 ^ k)) (dg 1000000 ai) (i + 1 + k))) (ws' := [oM mo th mw (nv : Int) mg ma mb (ns : Int) mlo mhi (nw : Int) mwe mru mrd, aL cL mw 160 (wkR (un rr t (rr q / (rr r * 1000000 ^ (k + 1)) * 1000000 ^ (k + 1) + (fo + gq) * 1000000 ^ k)) q (mx (dg 1000000 (ai - rr r * gq * 1000000 ^ k)) (dg 1000000 ai) (i + 1 + k)))]) S hK 1 1 rfl rfl (q * 20 + (i + k)) (by omega) (by omega) (by decide) (by rw [Nat.add_right_comm]; exact wkR_mx (by omega) (zL_c (by omega))) rfl d_M_divide_174 ?_
                refine z_lload S d_M_divide_175 0 rfl ?_
                refine z_lstore (lv' := [(7, .long (zL (L : Int))), (13, .long (zL (L : Int))), (11, .long (zL x10)), (0, .ref mo), (1, .int (zI (q : Int))), (2, .int (zI (r : Int))), (3, .int (zI (t : Int))), (4, .int (zI (k : Int))), (5, .long (zL (gq : Int))), (9, .int (zI (((tp ai : Nat) : Int) - 1))), (10, .int (zI ((i + k : Nat) : Int)))]) S d_M_divide_177 (by decide) rfl ?_
                refine z_iinc (y := ((i + k : Nat) : Int) + 1) (lv' := [(10, .int (zI (((i + k : Nat) : Int) + 1))), (7, .long (zL (L : Int))), (13, .long (zL (L : Int))), (11, .long (zL x10)), (0, .ref mo), (1, .int (zI (q : Int))), (2, .int (zI (r : Int))), (3, .int (zI (t : Int))), (4, .int (zI (k : Int))), (5, .long (zL (gq : Int))), (9, .int (zI (((tp ai : Nat) : Int) - 1)))]) S d_M_divide_179 10 rfl (by omega) (by decide) rfl ?_
                refine z_goto (tgt := 85) S d_M_divide_182 (by decide) ?_
                refine z_lv (lv' := [(0, .ref mo), (1, .int (zI (q : Int))), (2, .int (zI (r : Int))), (3, .int (zI (t : Int))), (4, .int (zI (k : Int))), (5, .long (zL (gq : Int))), (7, .long (zL (L : Int))), (9, .int (zI (((tp ai : Nat) : Int) - 1))), (10, .int (zI (((i + k : Nat) : Int) + 1)))]) [4, 5, 6, 7, 8, 9, 1, 10, 0] rfl ?_
                refine z_lq (lv' := [(0, .ref mo), (1, .int (zI (q : Int))), (2, .int (zI (r : Int))), (3, .int (zI (t : Int))), (4, .int (zI (k : Int))), (5, .long (zL (gq : Int))), (7, .long (zL (L : Int))), (9, .int (zI (((tp ai : Nat) : Int) - 1))), (10, .int (zI (((i + 1) + k : Nat) : Int)))]) (congrArg (fun zzz : Int => ([(0, .ref mo), (1, .int (zI (q : Int))), (2, .int (zI (r : Int))), (3, .int (zI (t : Int))), (4, .int (zI (k : Int))), (5, .long (zL (gq : Int))), (7, .long (zL (L : Int))), (9, .int (zI (((tp ai : Nat) : Int) - 1))), (10, .int (zI zzz))] : List (Nat × Value))) (show (((i + k : Nat) : Int) + 1 : Int) = (((i + 1) + k : Nat) : Int) by omega)) ?_
                exact ih85 ((i + 1), L) (show ((i + 1) + k ≤ tp ai) ∧ (L ≤ gq + 1) ∧ ((ai - rr r * gq * 1000000 ^ k) / 1000000 ^ k / 1000000 ^ (i + 1) + rr r / 1000000 ^ (i + 1) * gq + L = ai / 1000000 ^ k / 1000000 ^ (i + 1)) from ⟨by omega, by omega, g2⟩) (show 20 - (i + 1) < 20 - i from by omega)
