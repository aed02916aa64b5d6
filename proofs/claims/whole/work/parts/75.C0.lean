set_option maxHeartbeats 4000000 in
set_option maxRecDepth 100000 in
theorem lw_value (p : Program) (l : Launch) (e : Env) (s : State) (m : MethodId) (args : Array Value) (below : List Frame) (meth : Method) (c : Code) (dC : Nat → ClassId) (dI : Nat → Nat → Nat) (cI cL : ClassId) (qT : Nat) (A : Nat → Prop) (Q : State → Prop) (c0 : Cond) (S : CallFix p m c c_L_law 8 s args (c0 :: zB) "KiloFractionsLaw") (hK : va_K (dC, dI) zcl [(cI, .int), (cL, .long)] s) (hg : zG cI cL qT A s) (hA : ∀ q : Nat, s.heap.size ≤ q → A q) (hst : l.stackTraces = false) (bs L : Nat) (xs : Nat → Int32) (hX : va_X bs L xs s s.heap) (hbs : bs < s.heap.size) (hnA : ¬ A bs) (hL : L ≤ 2560) (k mo ou t : Nat) (ht : 5 * t + 5 ≤ L) (ws : va_W) (hI : lwInv cI cL k mo ou ws) (kk : ∀ ws2 : va_W, lwInv cI cL k mo ou ws2 → ZZ p l e { frames := 12, cells := 1091, slots := 11859, locals := 430 } s m args below meth c (dC, dI) zcl A s.heap 8 (60 + t + 1) (4000 + 6 * t + 6) Q 1406 [(0, .ref bs), (1, .ref k), (2, .ref mo), (3, .ref ou), (4, .int (zI ((5 * t : Nat) : Int)))] [] ws2) : ZZ p l e { frames := 12, cells := 1091, slots := 11859, locals := 430 } s m args below meth c (dC, dI) zcl A s.heap 8 (60 + t) (4000 + 6 * t) Q 120 [(0, .ref bs), (1, .ref k), (2, .ref mo), (3, .ref ou), (4, .int (zI ((5 * t : Nat) : Int)))] [] ws := by
  have hq1 : 5 * t + 1 < L := by omega
  have hq2 : 5 * t + 2 < L := by omega
  have hq3 : 5 * t + 3 < L := by omega
  have hq4 : 5 * t + 4 < L := by omega
  have ht9 : t ≤ 511 := by omega
  refine hI (fun ws => ZZ p l e { frames := 12, cells := 1091, slots := 11859, locals := 430 } s m args below meth c (dC, dI) zcl A s.heap 8 (60 + t) (4000 + 6 * t) Q 120 [(0, .ref bs), (1, .ref k), (2, .ref mo), (3, .ref ou), (4, .int (zI ((5 * t : Nat) : Int)))] [] ws) ?_
  intro ka kz h hl hs a au aua al ala b bu bua bl bla d du dua dl dla g gu gua gl gla kb kl kla kr kra kq kqa j ju jua jl jla kw mw mg ma mb mru mrd mlo mhi mwe n ns nw nn lo hi we sg jn jx jz an ax az bn bx bz dn dx dz gn gx gz lx rx qx th rr sgm up dm fo hn0 hV hns0 hE hnw0 hW hJ hjg hax haz hbx hbz hdx hdz hgx hgz hlx hrx hqx hag
  have hGok := zG_ok cI cL qT
  obtain ⟨a1, ha1⟩ : ∃ z : Int, (xs (5 * t + 1)).toInt = z := ⟨_, rfl⟩
  have hr1 := zI_r (xs (5 * t + 1))
  rw [ha1] at hr1
  obtain ⟨a2, ha2⟩ : ∃ z : Int, (xs (5 * t + 2)).toInt = z := ⟨_, rfl⟩
  have hr2 := zI_r (xs (5 * t + 2))
  rw [ha2] at hr2
  obtain ⟨a3, ha3⟩ : ∃ z : Int, (xs (5 * t + 3)).toInt = z := ⟨_, rfl⟩
  have hr3 := zI_r (xs (5 * t + 3))
  rw [ha3] at hr3
  obtain ⟨a4, ha4⟩ : ∃ z : Int, (xs (5 * t + 4)).toInt = z := ⟨_, rfl⟩
  have hr4 := zI_r (xs (5 * t + 4))
  rw [ha4] at hr4
  obtain ⟨x0, hx0⟩ : ∃ z : Int, lgA a1 a2 = z := ⟨_, rfl⟩
  have hrx0 := lgA_r a1 a2
  rw [hx0] at hrx0
  obtain ⟨y0, hy0⟩ : ∃ z : Int, lgA a3 a4 = z := ⟨_, rfl⟩
  have hry0 := lgA_r a3 a4
  rw [hy0] at hry0
  by_cases hc : n = 100
  · skip
    show ZZ _ _ _ _ _ _ _ _ _ _ _ _ _ _ _ _ _ _ 120 [(0, .ref bs), (1, .ref k), (2, .ref mo), (3, .ref ou), (4, .int (zI ((5 * t : Nat) : Int)))] [] [oK k h ka kz (ns : Int) kw (nw : Int) j kb a b d g, aI cI ka 30 (eA lo), aI cI kz 30 (eA hi), oH h hl hs (n : Int), aI cI hl 1200 (shA nn), aI cI hs 100 (sgA sg), oF a an au al, oW au aua ((us ax : Nat) : Int), aI cI aua 12 (wa ax), oW al ala ((us az : Nat) : Int), aI cI ala 12 (wa az), oF b bn bu bl, oW bu bua ((us bx : Nat) : Int), aI cI bua 12 (wa bx), oW bl bla ((us bz : Nat) : Int), aI cI bla 12 (wa bz), oF d dn du dl, oW du dua ((us dx : Nat) : Int), aI cI dua 12 (wa dx), oW dl dla ((us dz : Nat) : Int), aI cI dla 12 (wa dz), oF g gn gu gl, oW gu gua ((us gx : Nat) : Int), aI cI gua 12 (wa gx), oW gl gla ((us gz : Nat) : Int), aI cI gla 12 (wa gz), oB kb kl kr kq, oW kl kla ((us lx : Nat) : Int), aI cI kla 12 (wa lx), oW kr kra ((us rx : Nat) : Int), aI cI kra 12 (wa rx), oW kq kqa ((us qx : Nat) : Int), aI cI kqa 12 (wa qx), oF j jn ju jl, oW ju jua ((us jx : Nat) : Int), aI cI jua 12 (wa jx), oW jl jla ((us jz : Nat) : Int), aI cI jla 12 (wa jz), aL cL kw 20 (wA we), oM mo th mw (n : Int) mg ma mb (ns : Int) mlo mhi (nw : Int) mwe mru mrd, aL cL mw 160 (wkA rr), aI cI mg 100 (sgA sgm), aL cL ma 800 (moA up), aL cL mb 800 (moA dm), aL cL mru 8 (rsA jx), aL cL mrd 8 (rsA jz), aI cI mlo 30 (eA lo), aI cI mhi 30 (eA hi), aL cL mwe 20 (wA we), aL cL ou 1 fo]
    refine z_aload_n S d_L_law_120 1 rfl ?_
    refine z_aload_n S d_L_law_121 0 rfl ?_
    refine z_iload S d_L_law_122 4 rfl ?_
    refine z_iconst S d_L_law_124 ?_
    refine z_iadd S d_L_law_125 ?_
    refine z_sald2 (x := a1) S hX hbs hnA (5 * t + 1) rfl hq1 hL ha1 d_L_law_126 ?_
    refine z_i2l S d_L_law_127 hr1 ?_
    refine z_bipush S d_L_law_128 rfl ?_
    refine z_lshl S d_L_law_130 ?_
    refine z_aload_n S d_L_law_131 0 rfl ?_
    refine z_iload S d_L_law_132 4 rfl ?_
    refine z_iconst S d_L_law_134 ?_
    refine z_iadd S d_L_law_135 ?_
    refine z_sald2 (x := a2) S hX hbs hnA (5 * t + 2) rfl hq2 hL ha2 d_L_law_136 ?_
    refine z_i2l S d_L_law_137 hr2 ?_
    refine z_ldc2 (v := 4294967295) (z := 4294967295) S k_L_81 d_L_law_138 (by decide) ?_
    refine z_land S d_L_law_141 ?_
    refine z_lor2 (x := x0) S hx0 d_L_law_142 ?_
    refine z_aload_n S d_L_law_143 0 rfl ?_
    refine z_iload S d_L_law_144 4 rfl ?_
    refine z_iconst S d_L_law_146 ?_
    refine z_iadd S d_L_law_147 ?_
    refine z_sald2 (x := a3) S hX hbs hnA (5 * t + 3) rfl hq3 hL ha3 d_L_law_148 ?_
    refine z_i2l S d_L_law_149 hr3 ?_
    refine z_bipush S d_L_law_150 rfl ?_
    refine z_lshl S d_L_law_152 ?_
    refine z_aload_n S d_L_law_153 0 rfl ?_
    refine z_iload S d_L_law_154 4 rfl ?_
    refine z_iconst S d_L_law_156 ?_
    refine z_iadd S d_L_law_157 ?_
    refine z_sald2 (x := a4) S hX hbs hnA (5 * t + 4) rfl hq4 hL ha4 d_L_law_158 ?_
    refine z_i2l S d_L_law_159 hr4 ?_
    refine z_ldc2 (v := 4294967295) (z := 4294967295) S k_L_81 d_L_law_160 (by decide) ?_
    refine z_land S d_L_law_163 ?_
    refine z_lor2 (x := y0) S hy0 d_L_law_164 ?_
    refine z_aload_n S d_L_law_165 3 rfl ?_
    refine z_callSWa (As := [.ref k, .long (zL x0), .long (zL y0), .ref ou]) (st := []) (wc := [oK k h ka kz (ns : Int) kw (nw : Int) j kb a b d g, oH h hl hs (n : Int), aL cL ou 1 fo]) (wr := [aI cI ka 30 (eA lo), aI cI kz 30 (eA hi), aI cI hl 1200 (shA nn), aI cI hs 100 (sgA sg), oF a an au al, oW au aua ((us ax : Nat) : Int), aI cI aua 12 (wa ax), oW al ala ((us az : Nat) : Int), aI cI ala 12 (wa az), oF b bn bu bl, oW bu bua ((us bx : Nat) : Int), aI cI bua 12 (wa bx), oW bl bla ((us bz : Nat) : Int), aI cI bla 12 (wa bz), oF d dn du dl, oW du dua ((us dx : Nat) : Int), aI cI dua 12 (wa dx), oW dl dla ((us dz : Nat) : Int), aI cI dla 12 (wa dz), oF g gn gu gl, oW gu gua ((us gx : Nat) : Int), aI cI gua 12 (wa gx), oW gl gla ((us gz : Nat) : Int), aI cI gla 12 (wa gz), oB kb kl kr kq, oW kl kla ((us lx : Nat) : Int), aI cI kla 12 (wa lx), oW kr kra ((us rx : Nat) : Int), aI cI kra 12 (wa rx), oW kq kqa ((us qx : Nat) : Int), aI cI kqa 12 (wa qx), oF j jn ju jl, oW ju jua ((us jx : Nat) : Int), aI cI jua 12 (wa jx), oW jl jla ((us jz : Nat) : Int), aI cI jla 12 (wa jz), aL cL kw 20 (wA we), oM mo th mw (n : Int) mg ma mb (ns : Int) mlo mhi (nw : Int) mwe mru mrd, aL cL mw 160 (wkA rr), aI cI mg 100 (sgA sgm), aL cL ma 800 (moA up), aL cL mb 800 (moA dm), aL cL mru 8 (rsA jx), aL cL mrd 8 (rsA jz), aI cI mlo 30 (eA lo), aI cI mhi 30 (eA hi), aL cL mwe 20 (wA we)]) S hGok hK hg hA (w_t1_K_value l dC dI cI cL qT k ka kz ns kw nw j kb a b d g h hl hs n x0 y0 ou fo hst (by omega)) (zcwSW S k_L_83 mW_L_value hd_L_value rfl rfl ⟨Nat.le_of_ble_eq_true rfl, Nat.le_of_ble_eq_true rfl⟩) rfl (Nat.le_of_ble_eq_true rfl) d_L_law_166 ⟨by show _ ≤ 1091; omega, by show _ ≤ 11859; omega⟩ rfl [0, 3, 49] [1, 2, 4, 5, 6, 7, 8, 9, 10, 11, 12, 13, 14, 15, 16, 17, 18, 19, 20, 21, 22, 23, 24, 25, 26, 27, 28, 29, 30, 31, 32, 33, 34, 35, 36, 37, 38, 39, 40, 41, 42, 43, 44, 45, 46, 47, 48] (by decide +kernel) rfl rfl rfl (by decide +kernel) (by decide +kernel) (fun x w hp => ?_)
    obtain ⟨rfl, rfl⟩ := hp
    show ZZ _ _ _ _ _ _ _ _ _ _ _ _ _ _ _ _ _ _ 169 [(0, .ref bs), (1, .ref k), (2, .ref mo), (3, .ref ou), (4, .int (zI ((5 * t : Nat) : Int)))] [.int (zI 1)] [aI cI ka 30 (eA lo), aI cI kz 30 (eA hi), aI cI hl 1200 (shA nn), aI cI hs 100 (sgA sg), oF a an au al, oW au aua ((us ax : Nat) : Int), aI cI aua 12 (wa ax), oW al ala ((us az : Nat) : Int), aI cI ala 12 (wa az), oF b bn bu bl, oW bu bua ((us bx : Nat) : Int), aI cI bua 12 (wa bx), oW bl bla ((us bz : Nat) : Int), aI cI bla 12 (wa bz), oF d dn du dl, oW du dua ((us dx : Nat) : Int), aI cI dua 12 (wa dx), oW dl dla ((us dz : Nat) : Int), aI cI dla 12 (wa dz), oF g gn gu gl, oW gu gua ((us gx : Nat) : Int), aI cI gua 12 (wa gx), oW gl gla ((us gz : Nat) : Int), aI cI gla 12 (wa gz), oB kb kl kr kq, oW kl kla ((us lx : Nat) : Int), aI cI kla 12 (wa lx), oW kr kra ((us rx : Nat) : Int), aI cI kra 12 (wa rx), oW kq kqa ((us qx : Nat) : Int), aI cI kqa 12 (wa qx), oF j jn ju jl, oW ju jua ((us jx : Nat) : Int), aI cI jua 12 (wa jx), oW jl jla ((us jz : Nat) : Int), aI cI jla 12 (wa jz), aL cL kw 20 (wA we), oM mo th mw (n : Int) mg ma mb (ns : Int) mlo mhi (nw : Int) mwe mru mrd, aL cL mw 160 (wkA rr), aI cI mg 100 (sgA sgm), aL cL ma 800 (moA up), aL cL mb 800 (moA dm), aL cL mru 8 (rsA jx), aL cL mrd 8 (rsA jz), aI cI mlo 30 (eA lo), aI cI mhi 30 (eA hi), aL cL mwe 20 (wA we), oK k h ka kz (ns : Int) kw (nw : Int) j kb a b d g, oH h hl hs (n : Int), aL cL ou 1 fo]
    refine z_istore (lv' := [(5, .int (zI 1)), (0, .ref bs), (1, .ref k), (2, .ref mo), (3, .ref ou), (4, .int (zI ((5 * t : Nat) : Int)))]) S d_L_law_169 (by decide) rfl ?_
    refine z_aload_n S d_L_law_171 3 rfl ?_
    refine z_aload_n S d_L_law_172 1 rfl ?_
    refine z_iload S d_L_law_173 5 rfl ?_
    refine z_iconst S d_L_law_175 ?_
    refine z_iadd S d_L_law_176 ?_
    refine z_sald2 (x := a1) S hX hbs hnA (5 * t + 1) rfl hq1 hL ha1 d_L_law_177 ?_
    refine z_i2l S d_L_law_178 hr1 ?_
    refine z_bipush S d_L_law_179 rfl ?_
    refine z_lshl S d_L_law_181 ?_
    refine z_aload_n S d_L_law_182 1 rfl ?_
    refine z_iload S d_L_law_183 5 rfl ?_
    refine z_iconst S d_L_law_185 ?_
    refine z_iadd S d_L_law_186 ?_
    refine z_sald2 (x := a2) S hX hbs hnA (5 * t + 2) rfl hq2 hL ha2 d_L_law_187 ?_
    refine z_i2l S d_L_law_188 hr2 ?_
    refine z_ldc2 (v := 4294967295) (z := 4294967295) S k_L_81 d_L_law_189 (by decide) ?_
    refine z_land S d_L_law_192 ?_
    refine z_lor2 (x := x0) S hx0 d_L_law_193 ?_
    refine z_aload_n S d_L_law_194 1 rfl ?_
    refine z_iload S d_L_law_195 5 rfl ?_
    refine z_iconst S d_L_law_197 ?_
    refine z_iadd S d_L_law_198 ?_
    refine z_sald2 (x := a3) S hX hbs hnA (5 * t + 3) rfl hq3 hL ha3 d_L_law_199 ?_
    refine z_i2l S d_L_law_200 hr3 ?_
    refine z_bipush S d_L_law_201 rfl ?_
    refine z_lshl S d_L_law_203 ?_
    refine z_aload_n S d_L_law_204 1 rfl ?_
    refine z_iload S d_L_law_205 5 rfl ?_
    refine z_iconst S d_L_law_207 ?_
    refine z_iadd S d_L_law_208 ?_
    refine z_sald2 (x := a4) S hX hbs hnA (5 * t + 4) rfl hq4 hL ha4 d_L_law_209 ?_
    refine z_i2l S d_L_law_210 hr4 ?_
    refine z_ldc2 (v := 4294967295) (z := 4294967295) S k_L_81 d_L_law_211 (by decide) ?_
    refine z_land S d_L_law_214 ?_
    refine z_lor2 (x := y0) S hy0 d_L_law_215 ?_
    refine z_callVa (As := [.long (zL x0), .long (zL y0)]) (st := []) (wc := [oM mo th mw (n : Int) mg ma mb (ns : Int) mlo mhi (nw : Int) mwe mru mrd]) (wr := [aI cI ka 30 (eA lo), aI cI kz 30 (eA hi), aI cI hl 1200 (shA nn), aI cI hs 100 (sgA sg), oF a an au al, oW au aua ((us ax : Nat) : Int), aI cI aua 12 (wa ax), oW al ala ((us az : Nat) : Int), aI cI ala 12 (wa az), oF b bn bu bl, oW bu bua ((us bx : Nat) : Int), aI cI bua 12 (wa bx), oW bl bla ((us bz : Nat) : Int), aI cI bla 12 (wa bz), oF d dn du dl, oW du dua ((us dx : Nat) : Int), aI cI dua 12 (wa dx), oW dl dla ((us dz : Nat) : Int), aI cI dla 12 (wa dz), oF g gn gu gl, oW gu gua ((us gx : Nat) : Int), aI cI gua 12 (wa gx), oW gl gla ((us gz : Nat) : Int), aI cI gla 12 (wa gz), oB kb kl kr kq, oW kl kla ((us lx : Nat) : Int), aI cI kla 12 (wa lx), oW kr kra ((us rx : Nat) : Int), aI cI kra 12 (wa rx), oW kq kqa ((us qx : Nat) : Int), aI cI kqa 12 (wa qx), oF j jn ju jl, oW ju jua ((us jx : Nat) : Int), aI cI jua 12 (wa jx), oW jl jla ((us jz : Nat) : Int), aI cI jla 12 (wa jz), aL cL kw 20 (wA we), aL cL mw 160 (wkA rr), aI cI mg 100 (sgA sgm), aL cL ma 800 (moA up), aL cL mb 800 (moA dm), aL cL mru 8 (rsA jx), aL cL mrd 8 (rsA jz), aI cI mlo 30 (eA lo), aI cI mhi 30 (eA hi), aL cL mwe 20 (wA we), oK k h ka kz (ns : Int) kw (nw : Int) j kb a b d g, oH h hl hs (n : Int), aL cL ou 1 fo]) S hGok hK hg hA (f1_M_value l dC dI cI cL qT mo mw n ma mb ns mlo mhi nw mwe mru mrd th mg x0 y0 (by omega) (by omega)) (zcwV S (List.mem_cons_of_mem _ k_L_88) mV_M_value k_L_88 hd_M_value rfl rfl ⟨Nat.le_of_ble_eq_true rfl, Nat.le_of_ble_eq_true rfl⟩) rfl (Nat.le_of_ble_eq_true rfl) d_L_law_216 ⟨by show _ ≤ 1091; omega, by show _ ≤ 11859; omega⟩ rfl [37] [0, 1, 2, 3, 4, 5, 6, 7, 8, 9, 10, 11, 12, 13, 14, 15, 16, 17, 18, 19, 20, 21, 22, 23, 24, 25, 26, 27, 28, 29, 30, 31, 32, 33, 34, 35, 36, 38, 39, 40, 41, 42, 43, 44, 45, 46, 47, 48, 49] 37 rfl rfl rfl (by decide +kernel) rfl rfl rfl (by decide +kernel) (by decide +kernel) (fun x w hp => ?_)
    obtain ⟨rfl, rfl⟩ := hp
    show ZZ _ _ _ _ _ _ _ _ _ _ _ _ _ _ _ _ _ _ 219 [(5, .int (zI 1)), (0, .ref bs), (1, .ref k), (2, .ref mo), (3, .ref ou), (4, .int (zI ((5 * t : Nat) : Int)))] [.int (zI 0)] [aI cI ka 30 (eA lo), aI cI kz 30 (eA hi), aI cI hl 1200 (shA nn), aI cI hs 100 (sgA sg), oF a an au al, oW au aua ((us ax : Nat) : Int), aI cI aua 12 (wa ax), oW al ala ((us az : Nat) : Int), aI cI ala 12 (wa az), oF b bn bu bl, oW bu bua ((us bx : Nat) : Int), aI cI bua 12 (wa bx), oW bl bla ((us bz : Nat) : Int), aI cI bla 12 (wa bz), oF d dn du dl, oW du dua ((us dx : Nat) : Int), aI cI dua 12 (wa dx), oW dl dla ((us dz : Nat) : Int), aI cI dla 12 (wa dz), oF g gn gu gl, oW gu gua ((us gx : Nat) : Int), aI cI gua 12 (wa gx), oW gl gla ((us gz : Nat) : Int), aI cI gla 12 (wa gz), oB kb kl kr kq, oW kl kla ((us lx : Nat) : Int), aI cI kla 12 (wa lx), oW kr kra ((us rx : Nat) : Int), aI cI kra 12 (wa rx), oW kq kqa ((us qx : Nat) : Int), aI cI kqa 12 (wa qx), oF j jn ju jl, oW ju jua ((us jx : Nat) : Int), aI cI jua 12 (wa jx), oW jl jla ((us jz : Nat) : Int), aI cI jla 12 (wa jz), aL cL kw 20 (wA we), aL cL mw 160 (wkA rr), aI cI mg 100 (sgA sgm), aL cL ma 800 (moA up), aL cL mb 800 (moA dm), aL cL mru 8 (rsA jx), aL cL mrd 8 (rsA jz), aI cI mlo 30 (eA lo), aI cI mhi 30 (eA hi), aL cL mwe 20 (wA we), oK k h ka kz (ns : Int) kw (nw : Int) j kb a b d g, oH h hl hs (n : Int), aL cL ou 1 fo, oM mo 1 mw (n : Int) mg ma mb (ns : Int) mlo mhi (nw : Int) mwe mru mrd]
    refine z_istore (lv' := [(6, .int (zI 0)), (5, .int (zI 1)), (0, .ref bs), (1, .ref k), (2, .ref mo), (3, .ref ou), (4, .int (zI ((5 * t : Nat) : Int)))]) S d_L_law_219 (by decide) rfl ?_
    refine z_aload_n S d_L_law_221 4 rfl ?_
    refine z_callVa (As := []) (st := []) (wc := [oM mo 1 mw (n : Int) mg ma mb (ns : Int) mlo mhi (nw : Int) mwe mru mrd]) (wr := [aI cI ka 30 (eA lo), aI cI kz 30 (eA hi), aI cI hl 1200 (shA nn), aI cI hs 100 (sgA sg), oF a an au al, oW au aua ((us ax : Nat) : Int), aI cI aua 12 (wa ax), oW al ala ((us az : Nat) : Int), aI cI ala 12 (wa az), oF b bn bu bl, oW bu bua ((us bx : Nat) : Int), aI cI bua 12 (wa bx), oW bl bla ((us bz : Nat) : Int), aI cI bla 12 (wa bz), oF d dn du dl, oW du dua ((us dx : Nat) : Int), aI cI dua 12 (wa dx), oW dl dla ((us dz : Nat) : Int), aI cI dla 12 (wa dz), oF g gn gu gl, oW gu gua ((us gx : Nat) : Int), aI cI gua 12 (wa gx), oW gl gla ((us gz : Nat) : Int), aI cI gla 12 (wa gz), oB kb kl kr kq, oW kl kla ((us lx : Nat) : Int), aI cI kla 12 (wa lx), oW kr kra ((us rx : Nat) : Int), aI cI kra 12 (wa rx), oW kq kqa ((us qx : Nat) : Int), aI cI kqa 12 (wa qx), oF j jn ju jl, oW ju jua ((us jx : Nat) : Int), aI cI jua 12 (wa jx), oW jl jla ((us jz : Nat) : Int), aI cI jla 12 (wa jz), aL cL kw 20 (wA we), aL cL mw 160 (wkA rr), aI cI mg 100 (sgA sgm), aL cL ma 800 (moA up), aL cL mb 800 (moA dm), aL cL mru 8 (rsA jx), aL cL mrd 8 (rsA jz), aI cI mlo 30 (eA lo), aI cI mhi 30 (eA hi), aL cL mwe 20 (wA we), oK k h ka kz (ns : Int) kw (nw : Int) j kb a b d g, oH h hl hs (n : Int), aL cL ou 1 fo]) S hGok hK hg hA (s_M_thrown l dC dI cI cL qT mo mw n ma mb ns mlo mhi nw mwe mru mrd 1 mg ) (zcwV S (List.mem_cons_of_mem _ k_L_89) mV_M_thrown k_L_89 hd_M_thrown rfl rfl ⟨Nat.le_of_ble_eq_true rfl, Nat.le_of_ble_eq_true rfl⟩) rfl (Nat.le_of_ble_eq_true rfl) d_L_law_222 ⟨by show _ ≤ 1091; omega, by show _ ≤ 11859; omega⟩ rfl [49] [0, 1, 2, 3, 4, 5, 6, 7, 8, 9, 10, 11, 12, 13, 14, 15, 16, 17, 18, 19, 20, 21, 22, 23, 24, 25, 26, 27, 28, 29, 30, 31, 32, 33, 34, 35, 36, 37, 38, 39, 40, 41, 42, 43, 44, 45, 46, 47, 48] 49 rfl rfl rfl (by decide +kernel) rfl rfl rfl (by decide +kernel) (by decide +kernel) (fun x w hp => ?_)
    obtain ⟨rfl, rfl⟩ := hp
    show ZZ _ _ _ _ _ _ _ _ _ _ _ _ _ _ _ _ _ _ 225 [(6, .int (zI 0)), (5, .int (zI 1)), (0, .ref bs), (1, .ref k), (2, .ref mo), (3, .ref ou), (4, .int (zI ((5 * t : Nat) : Int)))] [.int (zI 1)] [aI cI ka 30 (eA lo), aI cI kz 30 (eA hi), aI cI hl 1200 (shA nn), aI cI hs 100 (sgA sg), oF a an au al, oW au aua ((us ax : Nat) : Int), aI cI aua 12 (wa ax), oW al ala ((us az : Nat) : Int), aI cI ala 12 (wa az), oF b bn bu bl, oW bu bua ((us bx : Nat) : Int), aI cI bua 12 (wa bx), oW bl bla ((us bz : Nat) : Int), aI cI bla 12 (wa bz), oF d dn du dl, oW du dua ((us dx : Nat) : Int), aI cI dua 12 (wa dx), oW dl dla ((us dz : Nat) : Int), aI cI dla 12 (wa dz), oF g gn gu gl, oW gu gua ((us gx : Nat) : Int), aI cI gua 12 (wa gx), oW gl gla ((us gz : Nat) : Int), aI cI gla 12 (wa gz), oB kb kl kr kq, oW kl kla ((us lx : Nat) : Int), aI cI kla 12 (wa lx), oW kr kra ((us rx : Nat) : Int), aI cI kra 12 (wa rx), oW kq kqa ((us qx : Nat) : Int), aI cI kqa 12 (wa qx), oF j jn ju jl, oW ju jua ((us jx : Nat) : Int), aI cI jua 12 (wa jx), oW jl jla ((us jz : Nat) : Int), aI cI jla 12 (wa jz), aL cL kw 20 (wA we), aL cL mw 160 (wkA rr), aI cI mg 100 (sgA sgm), aL cL ma 800 (moA up), aL cL mb 800 (moA dm), aL cL mru 8 (rsA jx), aL cL mrd 8 (rsA jz), aI cI mlo 30 (eA lo), aI cI mhi 30 (eA hi), aL cL mwe 20 (wA we), oK k h ka kz (ns : Int) kw (nw : Int) j kb a b d g, oH h hl hs (n : Int), aL cL ou 1 fo, oM mo 1 mw (n : Int) mg ma mb (ns : Int) mlo mhi (nw : Int) mwe mru mrd]
    refine z_iload S d_L_law_225 1 rfl ?_
    refine z_icmp_eq (tgt := 232) S d_L_law_227 (by decide) (by omega) (by omega) (fun c1 => ?_) (fun c1 => ?_)
    · skip
      refine z_iload S d_L_law_232 1 rfl ?_
      refine z_if_ne (tgt := 249) S d_L_law_234 (by decide) (by omega) (fun c2 => ?_) (fun c2 => ?_)
      · skip
        refine z_goto (tgt := 1406) S d_L_law_249 (by decide) ?_
        refine z_lv (lv' := [(0, .ref bs), (1, .ref k), (2, .ref mo), (3, .ref ou), (4, .int (zI ((5 * t : Nat) : Int)))]) [2, 3, 4, 5, 6] rfl ?_
        refine z_widen (c2 := 60 + t + 1) (s2 := 4000 + 6 * t + 6) (by omega) (by omega) ?_
        refine z_ws (ws' := [oK k h ka kz (ns : Int) kw (nw : Int) j kb a b d g, aI cI ka 30 (eA lo), aI cI kz 30 (eA hi), oH h hl hs (n : Int), aI cI hl 1200 (shA nn), aI cI hs 100 (sgA sg), oF a an au al, oW au aua ((us ax : Nat) : Int), aI cI aua 12 (wa ax), oW al ala ((us az : Nat) : Int), aI cI ala 12 (wa az), oF b bn bu bl, oW bu bua ((us bx : Nat) : Int), aI cI bua 12 (wa bx), oW bl bla ((us bz : Nat) : Int), aI cI bla 12 (wa bz), oF d dn du dl, oW du dua ((us dx : Nat) : Int), aI cI dua 12 (wa dx), oW dl dla ((us dz : Nat) : Int), aI cI dla 12 (wa dz), oF g gn gu gl, oW gu gua ((us gx : Nat) : Int), aI cI gua 12 (wa gx), oW gl gla ((us gz : Nat) : Int), aI cI gla 12 (wa gz), oB kb kl kr kq, oW kl kla ((us lx : Nat) : Int), aI cI kla 12 (wa lx), oW kr kra ((us rx : Nat) : Int), aI cI kra 12 (wa rx), oW kq kqa ((us qx : Nat) : Int), aI cI kqa 12 (wa qx), oF j jn ju jl, oW ju jua ((us jx : Nat) : Int), aI cI jua 12 (wa jx), oW jl jla ((us jz : Nat) : Int), aI cI jla 12 (wa jz), aL cL kw 20 (wA we), oM mo 1 mw (n : Int) mg ma mb (ns : Int) mlo mhi (nw : Int) mwe mru mrd, aL cL mw 160 (wkA rr), aI cI mg 100 (sgA sgm), aL cL ma 800 (moA up), aL cL mb 800 (moA dm), aL cL mru 8 (rsA jx), aL cL mrd 8 (rsA jz), aI cI mlo 30 (eA lo), aI cI mhi 30 (eA hi), aL cL mwe 20 (wA we), aL cL ou 1 fo]) [46, 0, 1, 47, 2, 3, 4, 5, 6, 7, 8, 9, 10, 11, 12, 13, 14, 15, 16, 17, 18, 19, 20, 21, 22, 23, 24, 25, 26, 27, 28, 29, 30, 31, 32, 33, 34, 35, 36, 49, 37, 38, 39, 40, 41, 42, 43, 44, 45, 48] (by decide +kernel) rfl rfl ?_
        exact kk _ (lwM cI cL k mo ou ka kz h hl hs a au aua al ala b bu bua bl bla d du dua dl dla g gu gua gl gla kb kl kla kr kra kq kqa j ju jua jl jla kw mw mg ma mb mru mrd mlo mhi mwe n ns nw nn lo hi we sg jn jx jz an ax az bn bx bz dn dx dz gn gx gz lx rx qx 1 rr sgm up dm fo hn0 hV hns0 hE hnw0 hW hJ hjg hax haz hbx hbz hdx hdz hgx hgz hlx hrx hqx hag)
      · skip
        exact absurd c2 (by omega)
    · skip
      exact absurd c1 (by omega)
  · skip
    by_cases h0 : y0 = 0
    · skip
      show ZZ _ _ _ _ _ _ _ _ _ _ _ _ _ _ _ _ _ _ 120 [(0, .ref bs), (1, .ref k), (2, .ref mo), (3, .ref ou), (4, .int (zI ((5 * t : Nat) : Int)))] [] [oK k h ka kz (ns : Int) kw (nw : Int) j kb a b d g, aI cI ka 30 (eA lo), aI cI kz 30 (eA hi), oH h hl hs (n : Int), aI cI hl 1200 (shA nn), aI cI hs 100 (sgA sg), oF a an au al, oW au aua ((us ax : Nat) : Int), aI cI aua 12 (wa ax), oW al ala ((us az : Nat) : Int), aI cI ala 12 (wa az), oF b bn bu bl, oW bu bua ((us bx : Nat) : Int), aI cI bua 12 (wa bx), oW bl bla ((us bz : Nat) : Int), aI cI bla 12 (wa bz), oF d dn du dl, oW du dua ((us dx : Nat) : Int), aI cI dua 12 (wa dx), oW dl dla ((us dz : Nat) : Int), aI cI dla 12 (wa dz), oF g gn gu gl, oW gu gua ((us gx : Nat) : Int), aI cI gua 12 (wa gx), oW gl gla ((us gz : Nat) : Int), aI cI gla 12 (wa gz), oB kb kl kr kq, oW kl kla ((us lx : Nat) : Int), aI cI kla 12 (wa lx), oW kr kra ((us rx : Nat) : Int), aI cI kra 12 (wa rx), oW kq kqa ((us qx : Nat) : Int), aI cI kqa 12 (wa qx), oF j jn ju jl, oW ju jua ((us jx : Nat) : Int), aI cI jua 12 (wa jx), oW jl jla ((us jz : Nat) : Int), aI cI jla 12 (wa jz), aL cL kw 20 (wA we), oM mo th mw (n : Int) mg ma mb (ns : Int) mlo mhi (nw : Int) mwe mru mrd, aL cL mw 160 (wkA rr), aI cI mg 100 (sgA sgm), aL cL ma 800 (moA up), aL cL mb 800 (moA dm), aL cL mru 8 (rsA jx), aL cL mrd 8 (rsA jz), aI cI mlo 30 (eA lo), aI cI mhi 30 (eA hi), aL cL mwe 20 (wA we), aL cL ou 1 fo]
      refine z_aload_n S d_L_law_120 1 rfl ?_
      refine z_aload_n S d_L_law_121 0 rfl ?_
      refine z_iload S d_L_law_122 4 rfl ?_
      refine z_iconst S d_L_law_124 ?_
      refine z_iadd S d_L_law_125 ?_
      refine z_sald2 (x := a1) S hX hbs hnA (5 * t + 1) rfl hq1 hL ha1 d_L_law_126 ?_
      refine z_i2l S d_L_law_127 hr1 ?_
      refine z_bipush S d_L_law_128 rfl ?_
      refine z_lshl S d_L_law_130 ?_
      refine z_aload_n S d_L_law_131 0 rfl ?_
      refine z_iload S d_L_law_132 4 rfl ?_
      refine z_iconst S d_L_law_134 ?_
      refine z_iadd S d_L_law_135 ?_
      refine z_sald2 (x := a2) S hX hbs hnA (5 * t + 2) rfl hq2 hL ha2 d_L_law_136 ?_
      refine z_i2l S d_L_law_137 hr2 ?_
      refine z_ldc2 (v := 4294967295) (z := 4294967295) S k_L_81 d_L_law_138 (by decide) ?_
      refine z_land S d_L_law_141 ?_
      refine z_lor2 (x := x0) S hx0 d_L_law_142 ?_
      refine z_aload_n S d_L_law_143 0 rfl ?_
      refine z_iload S d_L_law_144 4 rfl ?_
      refine z_iconst S d_L_law_146 ?_
      refine z_iadd S d_L_law_147 ?_
      refine z_sald2 (x := a3) S hX hbs hnA (5 * t + 3) rfl hq3 hL ha3 d_L_law_148 ?_
      refine z_i2l S d_L_law_149 hr3 ?_
      refine z_bipush S d_L_law_150 rfl ?_
      refine z_lshl S d_L_law_152 ?_
      refine z_aload_n S d_L_law_153 0 rfl ?_
      refine z_iload S d_L_law_154 4 rfl ?_
      refine z_iconst S d_L_law_156 ?_
      refine z_iadd S d_L_law_157 ?_
      refine z_sald2 (x := a4) S hX hbs hnA (5 * t + 4) rfl hq4 hL ha4 d_L_law_158 ?_
      refine z_i2l S d_L_law_159 hr4 ?_
      refine z_ldc2 (v := 4294967295) (z := 4294967295) S k_L_81 d_L_law_160 (by decide) ?_
      refine z_land S d_L_law_163 ?_
      refine z_lor2 (x := y0) S hy0 d_L_law_164 ?_
      refine z_aload_n S d_L_law_165 3 rfl ?_
      refine z_callSWa (As := [.ref k, .long (zL x0), .long (zL y0), .ref ou]) (st := []) (wc := [oK k h ka kz (ns : Int) kw (nw : Int) j kb a b d g, oH h hl hs (n : Int), aL cL ou 1 fo]) (wr := [aI cI ka 30 (eA lo), aI cI kz 30 (eA hi), aI cI hl 1200 (shA nn), aI cI hs 100 (sgA sg), oF a an au al, oW au aua ((us ax : Nat) : Int), aI cI aua 12 (wa ax), oW al ala ((us az : Nat) : Int), aI cI ala 12 (wa az), oF b bn bu bl, oW bu bua ((us bx : Nat) : Int), aI cI bua 12 (wa bx), oW bl bla ((us bz : Nat) : Int), aI cI bla 12 (wa bz), oF d dn du dl, oW du dua ((us dx : Nat) : Int), aI cI dua 12 (wa dx), oW dl dla ((us dz : Nat) : Int), aI cI dla 12 (wa dz), oF g gn gu gl, oW gu gua ((us gx : Nat) : Int), aI cI gua 12 (wa gx), oW gl gla ((us gz : Nat) : Int), aI cI gla 12 (wa gz), oB kb kl kr kq, oW kl kla ((us lx : Nat) : Int), aI cI kla 12 (wa lx), oW kr kra ((us rx : Nat) : Int), aI cI kra 12 (wa rx), oW kq kqa ((us qx : Nat) : Int), aI cI kqa 12 (wa qx), oF j jn ju jl, oW ju jua ((us jx : Nat) : Int), aI cI jua 12 (wa jx), oW jl jla ((us jz : Nat) : Int), aI cI jla 12 (wa jz), aL cL kw 20 (wA we), oM mo th mw (n : Int) mg ma mb (ns : Int) mlo mhi (nw : Int) mwe mru mrd, aL cL mw 160 (wkA rr), aI cI mg 100 (sgA sgm), aL cL ma 800 (moA up), aL cL mb 800 (moA dm), aL cL mru 8 (rsA jx), aL cL mrd 8 (rsA jz), aI cI mlo 30 (eA lo), aI cI mhi 30 (eA hi), aL cL mwe 20 (wA we)]) S hGok hK hg hA (w_t2_K_value l dC dI cI cL qT k ka kz ns kw nw j kb a b d g h hl hs n x0 y0 ou fo hst (by omega) h0 (by omega)) (zcwSW S k_L_83 mW_L_value hd_L_value rfl rfl ⟨Nat.le_of_ble_eq_true rfl, Nat.le_of_ble_eq_true rfl⟩) rfl (Nat.le_of_ble_eq_true rfl) d_L_law_166 ⟨by show _ ≤ 1091; omega, by show _ ≤ 11859; omega⟩ rfl [0, 3, 49] [1, 2, 4, 5, 6, 7, 8, 9, 10, 11, 12, 13, 14, 15, 16, 17, 18, 19, 20, 21, 22, 23, 24, 25, 26, 27, 28, 29, 30, 31, 32, 33, 34, 35, 36, 37, 38, 39, 40, 41, 42, 43, 44, 45, 46, 47, 48] (by decide +kernel) rfl rfl rfl (by decide +kernel) (by decide +kernel) (fun x w hp => ?_)
      obtain ⟨rfl, rfl⟩ := hp
      show ZZ _ _ _ _ _ _ _ _ _ _ _ _ _ _ _ _ _ _ 169 [(0, .ref bs), (1, .ref k), (2, .ref mo), (3, .ref ou), (4, .int (zI ((5 * t : Nat) : Int)))] [.int (zI 2)] [aI cI ka 30 (eA lo), aI cI kz 30 (eA hi), aI cI hl 1200 (shA nn), aI cI hs 100 (sgA sg), oF a an au al, oW au aua ((us ax : Nat) : Int), aI cI aua 12 (wa ax), oW al ala ((us az : Nat) : Int), aI cI ala 12 (wa az), oF b bn bu bl, oW bu bua ((us bx : Nat) : Int), aI cI bua 12 (wa bx), oW bl bla ((us bz : Nat) : Int), aI cI bla 12 (wa bz), oF d dn du dl, oW du dua ((us dx : Nat) : Int), aI cI dua 12 (wa dx), oW dl dla ((us dz : Nat) : Int), aI cI dla 12 (wa dz), oF g gn gu gl, oW gu gua ((us gx : Nat) : Int), aI cI gua 12 (wa gx), oW gl gla ((us gz : Nat) : Int), aI cI gla 12 (wa gz), oB kb kl kr kq, oW kl kla ((us lx : Nat) : Int), aI cI kla 12 (wa lx), oW kr kra ((us rx : Nat) : Int), aI cI kra 12 (wa rx), oW kq kqa ((us qx : Nat) : Int), aI cI kqa 12 (wa qx), oF j jn ju jl, oW ju jua ((us jx : Nat) : Int), aI cI jua 12 (wa jx), oW jl jla ((us jz : Nat) : Int), aI cI jla 12 (wa jz), aL cL kw 20 (wA we), oM mo th mw (n : Int) mg ma mb (ns : Int) mlo mhi (nw : Int) mwe mru mrd, aL cL mw 160 (wkA rr), aI cI mg 100 (sgA sgm), aL cL ma 800 (moA up), aL cL mb 800 (moA dm), aL cL mru 8 (rsA jx), aL cL mrd 8 (rsA jz), aI cI mlo 30 (eA lo), aI cI mhi 30 (eA hi), aL cL mwe 20 (wA we), oK k h ka kz (ns : Int) kw (nw : Int) j kb a b d g, oH h hl hs (n : Int), aL cL ou 1 fo]
      refine z_istore (lv' := [(5, .int (zI 2)), (0, .ref bs), (1, .ref k), (2, .ref mo), (3, .ref ou), (4, .int (zI ((5 * t : Nat) : Int)))]) S d_L_law_169 (by decide) rfl ?_
      refine z_aload_n S d_L_law_171 3 rfl ?_
      refine z_aload_n S d_L_law_172 1 rfl ?_
      refine z_iload S d_L_law_173 5 rfl ?_
      refine z_iconst S d_L_law_175 ?_
      refine z_iadd S d_L_law_176 ?_
      refine z_sald2 (x := a1) S hX hbs hnA (5 * t + 1) rfl hq1 hL ha1 d_L_law_177 ?_
      refine z_i2l S d_L_law_178 hr1 ?_
      refine z_bipush S d_L_law_179 rfl ?_
      refine z_lshl S d_L_law_181 ?_
      refine z_aload_n S d_L_law_182 1 rfl ?_
      refine z_iload S d_L_law_183 5 rfl ?_
      refine z_iconst S d_L_law_185 ?_
      refine z_iadd S d_L_law_186 ?_
      refine z_sald2 (x := a2) S hX hbs hnA (5 * t + 2) rfl hq2 hL ha2 d_L_law_187 ?_
      refine z_i2l S d_L_law_188 hr2 ?_
      refine z_ldc2 (v := 4294967295) (z := 4294967295) S k_L_81 d_L_law_189 (by decide) ?_
      refine z_land S d_L_law_192 ?_
      refine z_lor2 (x := x0) S hx0 d_L_law_193 ?_
      refine z_aload_n S d_L_law_194 1 rfl ?_
      refine z_iload S d_L_law_195 5 rfl ?_
      refine z_iconst S d_L_law_197 ?_
      refine z_iadd S d_L_law_198 ?_
      refine z_sald2 (x := a3) S hX hbs hnA (5 * t + 3) rfl hq3 hL ha3 d_L_law_199 ?_
      refine z_i2l S d_L_law_200 hr3 ?_
      refine z_bipush S d_L_law_201 rfl ?_
      refine z_lshl S d_L_law_203 ?_
      refine z_aload_n S d_L_law_204 1 rfl ?_
      refine z_iload S d_L_law_205 5 rfl ?_
      refine z_iconst S d_L_law_207 ?_
      refine z_iadd S d_L_law_208 ?_
      refine z_sald2 (x := a4) S hX hbs hnA (5 * t + 4) rfl hq4 hL ha4 d_L_law_209 ?_
      refine z_i2l S d_L_law_210 hr4 ?_
      refine z_ldc2 (v := 4294967295) (z := 4294967295) S k_L_81 d_L_law_211 (by decide) ?_
      refine z_land S d_L_law_214 ?_
      refine z_lor2 (x := y0) S hy0 d_L_law_215 ?_
      refine z_callVa (As := [.long (zL x0), .long (zL y0)]) (st := []) (wc := [oM mo th mw (n : Int) mg ma mb (ns : Int) mlo mhi (nw : Int) mwe mru mrd]) (wr := [aI cI ka 30 (eA lo), aI cI kz 30 (eA hi), aI cI hl 1200 (shA nn), aI cI hs 100 (sgA sg), oF a an au al, oW au aua ((us ax : Nat) : Int), aI cI aua 12 (wa ax), oW al ala ((us az : Nat) : Int), aI cI ala 12 (wa az), oF b bn bu bl, oW bu bua ((us bx : Nat) : Int), aI cI bua 12 (wa bx), oW bl bla ((us bz : Nat) : Int), aI cI bla 12 (wa bz), oF d dn du dl, oW du dua ((us dx : Nat) : Int), aI cI dua 12 (wa dx), oW dl dla ((us dz : Nat) : Int), aI cI dla 12 (wa dz), oF g gn gu gl, oW gu gua ((us gx : Nat) : Int), aI cI gua 12 (wa gx), oW gl gla ((us gz : Nat) : Int), aI cI gla 12 (wa gz), oB kb kl kr kq, oW kl kla ((us lx : Nat) : Int), aI cI kla 12 (wa lx), oW kr kra ((us rx : Nat) : Int), aI cI kra 12 (wa rx), oW kq kqa ((us qx : Nat) : Int), aI cI kqa 12 (wa qx), oF j jn ju jl, oW ju jua ((us jx : Nat) : Int), aI cI jua 12 (wa jx), oW jl jla ((us jz : Nat) : Int), aI cI jla 12 (wa jz), aL cL kw 20 (wA we), aL cL mw 160 (wkA rr), aI cI mg 100 (sgA sgm), aL cL ma 800 (moA up), aL cL mb 800 (moA dm), aL cL mru 8 (rsA jx), aL cL mrd 8 (rsA jz), aI cI mlo 30 (eA lo), aI cI mhi 30 (eA hi), aL cL mwe 20 (wA we), oK k h ka kz (ns : Int) kw (nw : Int) j kb a b d g, oH h hl hs (n : Int), aL cL ou 1 fo]) S hGok hK hg hA (f2_M_value l dC dI cI cL qT mo mw n ma mb ns mlo mhi nw mwe mru mrd th mg x0 y0 (by omega) h0 (by omega)) (zcwV S (List.mem_cons_of_mem _ k_L_88) mV_M_value k_L_88 hd_M_value rfl rfl ⟨Nat.le_of_ble_eq_true rfl, Nat.le_of_ble_eq_true rfl⟩) rfl (Nat.le_of_ble_eq_true rfl) d_L_law_216 ⟨by show _ ≤ 1091; omega, by show _ ≤ 11859; omega⟩ rfl [37] [0, 1, 2, 3, 4, 5, 6, 7, 8, 9, 10, 11, 12, 13, 14, 15, 16, 17, 18, 19, 20, 21, 22, 23, 24, 25, 26, 27, 28, 29, 30, 31, 32, 33, 34, 35, 36, 38, 39, 40, 41, 42, 43, 44, 45, 46, 47, 48, 49] 37 rfl rfl rfl (by decide +kernel) rfl rfl rfl (by decide +kernel) (by decide +kernel) (fun x w hp => ?_)
      obtain ⟨rfl, rfl⟩ := hp
      show ZZ _ _ _ _ _ _ _ _ _ _ _ _ _ _ _ _ _ _ 219 [(5, .int (zI 2)), (0, .ref bs), (1, .ref k), (2, .ref mo), (3, .ref ou), (4, .int (zI ((5 * t : Nat) : Int)))] [.int (zI 0)] [aI cI ka 30 (eA lo), aI cI kz 30 (eA hi), aI cI hl 1200 (shA nn), aI cI hs 100 (sgA sg), oF a an au al, oW au aua ((us ax : Nat) : Int), aI cI aua 12 (wa ax), oW al ala ((us az : Nat) : Int), aI cI ala 12 (wa az), oF b bn bu bl, oW bu bua ((us bx : Nat) : Int), aI cI bua 12 (wa bx), oW bl bla ((us bz : Nat) : Int), aI cI bla 12 (wa bz), oF d dn du dl, oW du dua ((us dx : Nat) : Int), aI cI dua 12 (wa dx), oW dl dla ((us dz : Nat) : Int), aI cI dla 12 (wa dz), oF g gn gu gl, oW gu gua ((us gx : Nat) : Int), aI cI gua 12 (wa gx), oW gl gla ((us gz : Nat) : Int), aI cI gla 12 (wa gz), oB kb kl kr kq, oW kl kla ((us lx : Nat) : Int), aI cI kla 12 (wa lx), oW kr kra ((us rx : Nat) : Int), aI cI kra 12 (wa rx), oW kq kqa ((us qx : Nat) : Int), aI cI kqa 12 (wa qx), oF j jn ju jl, oW ju jua ((us jx : Nat) : Int), aI cI jua 12 (wa jx), oW jl jla ((us jz : Nat) : Int), aI cI jla 12 (wa jz), aL cL kw 20 (wA we), aL cL mw 160 (wkA rr), aI cI mg 100 (sgA sgm), aL cL ma 800 (moA up), aL cL mb 800 (moA dm), aL cL mru 8 (rsA jx), aL cL mrd 8 (rsA jz), aI cI mlo 30 (eA lo), aI cI mhi 30 (eA hi), aL cL mwe 20 (wA we), oK k h ka kz (ns : Int) kw (nw : Int) j kb a b d g, oH h hl hs (n : Int), aL cL ou 1 fo, oM mo 2 mw (n : Int) mg ma mb (ns : Int) mlo mhi (nw : Int) mwe mru mrd]
      refine z_istore (lv' := [(6, .int (zI 0)), (5, .int (zI 2)), (0, .ref bs), (1, .ref k), (2, .ref mo), (3, .ref ou), (4, .int (zI ((5 * t : Nat) : Int)))]) S d_L_law_219 (by decide) rfl ?_
      refine z_aload_n S d_L_law_221 4 rfl ?_
      refine z_callVa (As := []) (st := []) (wc := [oM mo 2 mw (n : Int) mg ma mb (ns : Int) mlo mhi (nw : Int) mwe mru mrd]) (wr := [aI cI ka 30 (eA lo), aI cI kz 30 (eA hi), aI cI hl 1200 (shA nn), aI cI hs 100 (sgA sg), oF a an au al, oW au aua ((us ax : Nat) : Int), aI cI aua 12 (wa ax), oW al ala ((us az : Nat) : Int), aI cI ala 12 (wa az), oF b bn bu bl, oW bu bua ((us bx : Nat) : Int), aI cI bua 12 (wa bx), oW bl bla ((us bz : Nat) : Int), aI cI bla 12 (wa bz), oF d dn du dl, oW du dua ((us dx : Nat) : Int), aI cI dua 12 (wa dx), oW dl dla ((us dz : Nat) : Int), aI cI dla 12 (wa dz), oF g gn gu gl, oW gu gua ((us gx : Nat) : Int), aI cI gua 12 (wa gx), oW gl gla ((us gz : Nat) : Int), aI cI gla 12 (wa gz), oB kb kl kr kq, oW kl kla ((us lx : Nat) : Int), aI cI kla 12 (wa lx), oW kr kra ((us rx : Nat) : Int), aI cI kra 12 (wa rx), oW kq kqa ((us qx : Nat) : Int), aI cI kqa 12 (wa qx), oF j jn ju jl, oW ju jua ((us jx : Nat) : Int), aI cI jua 12 (wa jx), oW jl jla ((us jz : Nat) : Int), aI cI jla 12 (wa jz), aL cL kw 20 (wA we), aL cL mw 160 (wkA rr), aI cI mg 100 (sgA sgm), aL cL ma 800 (moA up), aL cL mb 800 (moA dm), aL cL mru 8 (rsA jx), aL cL mrd 8 (rsA jz), aI cI mlo 30 (eA lo), aI cI mhi 30 (eA hi), aL cL mwe 20 (wA we), oK k h ka kz (ns : Int) kw (nw : Int) j kb a b d g, oH h hl hs (n : Int), aL cL ou 1 fo]) S hGok hK hg hA (s_M_thrown l dC dI cI cL qT mo mw n ma mb ns mlo mhi nw mwe mru mrd 2 mg ) (zcwV S (List.mem_cons_of_mem _ k_L_89) mV_M_thrown k_L_89 hd_M_thrown rfl rfl ⟨Nat.le_of_ble_eq_true rfl, Nat.le_of_ble_eq_true rfl⟩) rfl (Nat.le_of_ble_eq_true rfl) d_L_law_222 ⟨by show _ ≤ 1091; omega, by show _ ≤ 11859; omega⟩ rfl [49] [0, 1, 2, 3, 4, 5, 6, 7, 8, 9, 10, 11, 12, 13, 14, 15, 16, 17, 18, 19, 20, 21, 22, 23, 24, 25, 26, 27, 28, 29, 30, 31, 32, 33, 34, 35, 36, 37, 38, 39, 40, 41, 42, 43, 44, 45, 46, 47, 48] 49 rfl rfl rfl (by decide +kernel) rfl rfl rfl (by decide +kernel) (by decide +kernel) (fun x w hp => ?_)
      obtain ⟨rfl, rfl⟩ := hp
      show ZZ _ _ _ _ _ _ _ _ _ _ _ _ _ _ _ _ _ _ 225 [(6, .int (zI 0)), (5, .int (zI 2)), (0, .ref bs), (1, .ref k), (2, .ref mo), (3, .ref ou), (4, .int (zI ((5 * t : Nat) : Int)))] [.int (zI 2)] [aI cI ka 30 (eA lo), aI cI kz 30 (eA hi), aI cI hl 1200 (shA nn), aI cI hs 100 (sgA sg), oF a an au al, oW au aua ((us ax : Nat) : Int), aI cI aua 12 (wa ax), oW al ala ((us az : Nat) : Int), aI cI ala 12 (wa az), oF b bn bu bl, oW bu bua ((us bx : Nat) : Int), aI cI bua 12 (wa bx), oW bl bla ((us bz : Nat) : Int), aI cI bla 12 (wa bz), oF d dn du dl, oW du dua ((us dx : Nat) : Int), aI cI dua 12 (wa dx), oW dl dla ((us dz : Nat) : Int), aI cI dla 12 (wa dz), oF g gn gu gl, oW gu gua ((us gx : Nat) : Int), aI cI gua 12 (wa gx), oW gl gla ((us gz : Nat) : Int), aI cI gla 12 (wa gz), oB kb kl kr kq, oW kl kla ((us lx : Nat) : Int), aI cI kla 12 (wa lx), oW kr kra ((us rx : Nat) : Int), aI cI kra 12 (wa rx), oW kq kqa ((us qx : Nat) : Int), aI cI kqa 12 (wa qx), oF j jn ju jl, oW ju jua ((us jx : Nat) : Int), aI cI jua 12 (wa jx), oW jl jla ((us jz : Nat) : Int), aI cI jla 12 (wa jz), aL cL kw 20 (wA we), aL cL mw 160 (wkA rr), aI cI mg 100 (sgA sgm), aL cL ma 800 (moA up), aL cL mb 800 (moA dm), aL cL mru 8 (rsA jx), aL cL mrd 8 (rsA jz), aI cI mlo 30 (eA lo), aI cI mhi 30 (eA hi), aL cL mwe 20 (wA we), oK k h ka kz (ns : Int) kw (nw : Int) j kb a b d g, oH h hl hs (n : Int), aL cL ou 1 fo, oM mo 2 mw (n : Int) mg ma mb (ns : Int) mlo mhi (nw : Int) mwe mru mrd]
      refine z_iload S d_L_law_225 1 rfl ?_
      refine z_icmp_eq (tgt := 232) S d_L_law_227 (by decide) (by omega) (by omega) (fun c3 => ?_) (fun c3 => ?_)
      · skip
        refine z_iload S d_L_law_232 1 rfl ?_
        refine z_if_ne (tgt := 249) S d_L_law_234 (by decide) (by omega) (fun c4 => ?_) (fun c4 => ?_)
        · skip
          refine z_goto (tgt := 1406) S d_L_law_249 (by decide) ?_
          refine z_lv (lv' := [(0, .ref bs), (1, .ref k), (2, .ref mo), (3, .ref ou), (4, .int (zI ((5 * t : Nat) : Int)))]) [2, 3, 4, 5, 6] rfl ?_
          refine z_widen (c2 := 60 + t + 1) (s2 := 4000 + 6 * t + 6) (by omega) (by omega) ?_
          refine z_ws (ws' := [oK k h ka kz (ns : Int) kw (nw : Int) j kb a b d g, aI cI ka 30 (eA lo), aI cI kz 30 (eA hi), oH h hl hs (n : Int), aI cI hl 1200 (shA nn), aI cI hs 100 (sgA sg), oF a an au al, oW au aua ((us ax : Nat) : Int), aI cI aua 12 (wa ax), oW al ala ((us az : Nat) : Int), aI cI ala 12 (wa az), oF b bn bu bl, oW bu bua ((us bx : Nat) : Int), aI cI bua 12 (wa bx), oW bl bla ((us bz : Nat) : Int), aI cI bla 12 (wa bz), oF d dn du dl, oW du dua ((us dx : Nat) : Int), aI cI dua 12 (wa dx), oW dl dla ((us dz : Nat) : Int), aI cI dla 12 (wa dz), oF g gn gu gl, oW gu gua ((us gx : Nat) : Int), aI cI gua 12 (wa gx), oW gl gla ((us gz : Nat) : Int), aI cI gla 12 (wa gz), oB kb kl kr kq, oW kl kla ((us lx : Nat) : Int), aI cI kla 12 (wa lx), oW kr kra ((us rx : Nat) : Int), aI cI kra 12 (wa rx), oW kq kqa ((us qx : Nat) : Int), aI cI kqa 12 (wa qx), oF j jn ju jl, oW ju jua ((us jx : Nat) : Int), aI cI jua 12 (wa jx), oW jl jla ((us jz : Nat) : Int), aI cI jla 12 (wa jz), aL cL kw 20 (wA we), oM mo 2 mw (n : Int) mg ma mb (ns : Int) mlo mhi (nw : Int) mwe mru mrd, aL cL mw 160 (wkA rr), aI cI mg 100 (sgA sgm), aL cL ma 800 (moA up), aL cL mb 800 (moA dm), aL cL mru 8 (rsA jx), aL cL mrd 8 (rsA jz), aI cI mlo 30 (eA lo), aI cI mhi 30 (eA hi), aL cL mwe 20 (wA we), aL cL ou 1 fo]) [46, 0, 1, 47, 2, 3, 4, 5, 6, 7, 8, 9, 10, 11, 12, 13, 14, 15, 16, 17, 18, 19, 20, 21, 22, 23, 24, 25, 26, 27, 28, 29, 30, 31, 32, 33, 34, 35, 36, 49, 37, 38, 39, 40, 41, 42, 43, 44, 45, 48] (by decide +kernel) rfl rfl ?_
          exact kk _ (lwM cI cL k mo ou ka kz h hl hs a au aua al ala b bu bua bl bla d du dua dl dla g gu gua gl gla kb kl kla kr kra kq kqa j ju jua jl jla kw mw mg ma mb mru mrd mlo mhi mwe n ns nw nn lo hi we sg jn jx jz an ax az bn bx bz dn dx dz gn gx gz lx rx qx 2 rr sgm up dm fo hn0 hV hns0 hE hnw0 hW hJ hjg hax haz hbx hbz hdx hdz hgx hgz hlx hrx hqx hag)
        · skip
          exact absurd c4 (by omega)
      · skip
        exact absurd c3 (by omega)
    · skip
      show ZZ _ _ _ _ _ _ _ _ _ _ _ _ _ _ _ _ _ _ 120 [(0, .ref bs), (1, .ref k), (2, .ref mo), (3, .ref ou), (4, .int (zI ((5 * t : Nat) : Int)))] [] [oK k h ka kz (ns : Int) kw (nw : Int) j kb a b d g, aI cI ka 30 (eA lo), aI cI kz 30 (eA hi), oH h hl hs (n : Int), aI cI hl 1200 (shA nn), aI cI hs 100 (sgA sg), oF a an au al, oW au aua ((us ax : Nat) : Int), aI cI aua 12 (wa ax), oW al ala ((us az : Nat) : Int), aI cI ala 12 (wa az), oF b bn bu bl, oW bu bua ((us bx : Nat) : Int), aI cI bua 12 (wa bx), oW bl bla ((us bz : Nat) : Int), aI cI bla 12 (wa bz), oF d dn du dl, oW du dua ((us dx : Nat) : Int), aI cI dua 12 (wa dx), oW dl dla ((us dz : Nat) : Int), aI cI dla 12 (wa dz), oF g gn gu gl, oW gu gua ((us gx : Nat) : Int), aI cI gua 12 (wa gx), oW gl gla ((us gz : Nat) : Int), aI cI gla 12 (wa gz), oB kb kl kr kq, oW kl kla ((us lx : Nat) : Int), aI cI kla 12 (wa lx), oW kr kra ((us rx : Nat) : Int), aI cI kra 12 (wa rx), oW kq kqa ((us qx : Nat) : Int), aI cI kqa 12 (wa qx), oF j jn ju jl, oW ju jua ((us jx : Nat) : Int), aI cI jua 12 (wa jx), oW jl jla ((us jz : Nat) : Int), aI cI jla 12 (wa jz), aL cL kw 20 (wA we), oM mo th mw (n : Int) mg ma mb (ns : Int) mlo mhi (nw : Int) mwe mru mrd, aL cL mw 160 (wkA rr), aI cI mg 100 (sgA sgm), aL cL ma 800 (moA up), aL cL mb 800 (moA dm), aL cL mru 8 (rsA jx), aL cL mrd 8 (rsA jz), aI cI mlo 30 (eA lo), aI cI mhi 30 (eA hi), aL cL mwe 20 (wA we), aL cL ou 1 fo]
      refine z_aload_n S d_L_law_120 1 rfl ?_
      refine z_aload_n S d_L_law_121 0 rfl ?_
      refine z_iload S d_L_law_122 4 rfl ?_
      refine z_iconst S d_L_law_124 ?_
      refine z_iadd S d_L_law_125 ?_
      refine z_sald2 (x := a1) S hX hbs hnA (5 * t + 1) rfl hq1 hL ha1 d_L_law_126 ?_
      refine z_i2l S d_L_law_127 hr1 ?_
      refine z_bipush S d_L_law_128 rfl ?_
      refine z_lshl S d_L_law_130 ?_
      refine z_aload_n S d_L_law_131 0 rfl ?_
      refine z_iload S d_L_law_132 4 rfl ?_
      refine z_iconst S d_L_law_134 ?_
      refine z_iadd S d_L_law_135 ?_
      refine z_sald2 (x := a2) S hX hbs hnA (5 * t + 2) rfl hq2 hL ha2 d_L_law_136 ?_
      refine z_i2l S d_L_law_137 hr2 ?_
      refine z_ldc2 (v := 4294967295) (z := 4294967295) S k_L_81 d_L_law_138 (by decide) ?_
      refine z_land S d_L_law_141 ?_
      refine z_lor2 (x := x0) S hx0 d_L_law_142 ?_
      refine z_aload_n S d_L_law_143 0 rfl ?_
      refine z_iload S d_L_law_144 4 rfl ?_
      refine z_iconst S d_L_law_146 ?_
      refine z_iadd S d_L_law_147 ?_
      refine z_sald2 (x := a3) S hX hbs hnA (5 * t + 3) rfl hq3 hL ha3 d_L_law_148 ?_
      refine z_i2l S d_L_law_149 hr3 ?_
      refine z_bipush S d_L_law_150 rfl ?_
      refine z_lshl S d_L_law_152 ?_
      refine z_aload_n S d_L_law_153 0 rfl ?_
      refine z_iload S d_L_law_154 4 rfl ?_
      refine z_iconst S d_L_law_156 ?_
      refine z_iadd S d_L_law_157 ?_
      refine z_sald2 (x := a4) S hX hbs hnA (5 * t + 4) rfl hq4 hL ha4 d_L_law_158 ?_
      refine z_i2l S d_L_law_159 hr4 ?_
      refine z_ldc2 (v := 4294967295) (z := 4294967295) S k_L_81 d_L_law_160 (by decide) ?_
      refine z_land S d_L_law_163 ?_
      refine z_lor2 (x := y0) S hy0 d_L_law_164 ?_
      refine z_aload_n S d_L_law_165 3 rfl ?_
      refine z_callSWa (As := [.ref k, .long (zL x0), .long (zL y0), .ref ou]) (st := []) (wc := [oK k h ka kz (ns : Int) kw (nw : Int) j kb a b d g, oH h hl hs (n : Int), aI cI hl 1200 (shA nn), aI cI hs 100 (sgA sg), oF d dn du dl, oW du dua ((us dx : Nat) : Int), aI cI dua 12 (wa dx), oW dl dla ((us dz : Nat) : Int), aI cI dla 12 (wa dz), oB kb kl kr kq, oW kl kla ((us lx : Nat) : Int), aI cI kla 12 (wa lx), oW kr kra ((us rx : Nat) : Int), aI cI kra 12 (wa rx), oW kq kqa ((us qx : Nat) : Int), aI cI kqa 12 (wa qx), aL cL ou 1 fo]) (wr := [aI cI ka 30 (eA lo), aI cI kz 30 (eA hi), oF a an au al, oW au aua ((us ax : Nat) : Int), aI cI aua 12 (wa ax), oW al ala ((us az : Nat) : Int), aI cI ala 12 (wa az), oF b bn bu bl, oW bu bua ((us bx : Nat) : Int), aI cI bua 12 (wa bx), oW bl bla ((us bz : Nat) : Int), aI cI bla 12 (wa bz), oF g gn gu gl, oW gu gua ((us gx : Nat) : Int), aI cI gua 12 (wa gx), oW gl gla ((us gz : Nat) : Int), aI cI gla 12 (wa gz), oF j jn ju jl, oW ju jua ((us jx : Nat) : Int), aI cI jua 12 (wa jx), oW jl jla ((us jz : Nat) : Int), aI cI jla 12 (wa jz), aL cL kw 20 (wA we), oM mo th mw (n : Int) mg ma mb (ns : Int) mlo mhi (nw : Int) mwe mru mrd, aL cL mw 160 (wkA rr), aI cI mg 100 (sgA sgm), aL cL ma 800 (moA up), aL cL mb 800 (moA dm), aL cL mru 8 (rsA jx), aL cL mrd 8 (rsA jz), aI cI mlo 30 (eA lo), aI cI mhi 30 (eA hi), aL cL mwe 20 (wA we)]) S hGok hK hg hA (w_s_K_value l dC dI cI cL qT k ka kz ns kw nw j kb a b d g h hl hs nn sg n dn du dua dx dl dla dz kl kla lx kr kra rx kq kqa qx x0 y0 ou fo (by omega) (by omega) (by omega) h0 hdx hdz hlx hrx hqx) (zcwSW S k_L_83 mW_L_value hd_L_value rfl rfl ⟨Nat.le_of_ble_eq_true rfl, Nat.le_of_ble_eq_true rfl⟩) rfl (Nat.le_of_ble_eq_true rfl) d_L_law_166 ⟨by show _ ≤ 1091; omega, by show _ ≤ 11859; omega⟩ rfl [0, 3, 4, 5, 16, 17, 18, 19, 20, 26, 27, 28, 29, 30, 31, 32, 49] [1, 2, 6, 7, 8, 9, 10, 11, 12, 13, 14, 15, 21, 22, 23, 24, 25, 33, 34, 35, 36, 37, 38, 39, 40, 41, 42, 43, 44, 45, 46, 47, 48] (by decide +kernel) rfl rfl rfl (by decide +kernel) (by decide +kernel) (fun x w hp => ?_)
      obtain ⟨l2, r2, q2, hf0, hf1, hf2, rfl, rfl⟩ := hp
      show ZZ _ _ _ _ _ _ _ _ _ _ _ _ _ _ _ _ _ _ 169 [(0, .ref bs), (1, .ref k), (2, .ref mo), (3, .ref ou), (4, .int (zI ((5 * t : Nat) : Int)))] [.int (zI 0)] [aI cI ka 30 (eA lo), aI cI kz 30 (eA hi), oF a an au al, oW au aua ((us ax : Nat) : Int), aI cI aua 12 (wa ax), oW al ala ((us az : Nat) : Int), aI cI ala 12 (wa az), oF b bn bu bl, oW bu bua ((us bx : Nat) : Int), aI cI bua 12 (wa bx), oW bl bla ((us bz : Nat) : Int), aI cI bla 12 (wa bz), oF g gn gu gl, oW gu gua ((us gx : Nat) : Int), aI cI gua 12 (wa gx), oW gl gla ((us gz : Nat) : Int), aI cI gla 12 (wa gz), oF j jn ju jl, oW ju jua ((us jx : Nat) : Int), aI cI jua 12 (wa jx), oW jl jla ((us jz : Nat) : Int), aI cI jla 12 (wa jz), aL cL kw 20 (wA we), oM mo th mw (n : Int) mg ma mb (ns : Int) mlo mhi (nw : Int) mwe mru mrd, aL cL mw 160 (wkA rr), aI cI mg 100 (sgA sgm), aL cL ma 800 (moA up), aL cL mb 800 (moA dm), aL cL mru 8 (rsA jx), aL cL mrd 8 (rsA jz), aI cI mlo 30 (eA lo), aI cI mhi 30 (eA hi), aL cL mwe 20 (wA we), oK k h ka kz (ns : Int) kw (nw : Int) j kb a b d g, oH h hl hs ((kpC n (lwX (Int.natAbs x0) (Int.natAbs y0)) (lwZ (Int.natAbs x0) (Int.natAbs y0)) : Nat) : Int), aI cI hl 1200 (shA (kpN nn n (lwX (Int.natAbs x0) (Int.natAbs y0)) (lwZ (Int.natAbs x0) (Int.natAbs y0)))), aI cI hs 100 (sgA (kpS sg n (cmpZ x0 0 * cmpZ y0 0) (lwX (Int.natAbs x0) (Int.natAbs y0)) (lwZ (Int.natAbs x0) (Int.natAbs y0)))), oF d (cmpZ x0 0 * cmpZ y0 0) du dl, oW du dua ((us (lwX (Int.natAbs x0) (Int.natAbs y0)) : Nat) : Int), aI cI dua 12 (wa (lwX (Int.natAbs x0) (Int.natAbs y0))), oW dl dla ((us (lwZ (Int.natAbs x0) (Int.natAbs y0)) : Nat) : Int), aI cI dla 12 (wa (lwZ (Int.natAbs x0) (Int.natAbs y0))), oB kb kl kr kq, oW kl kla ((us l2 : Nat) : Int), aI cI kla 12 (wa l2), oW kr kra ((us r2 : Nat) : Int), aI cI kra 12 (wa r2), oW kq kqa ((us q2 : Nat) : Int), aI cI kqa 12 (wa q2), aL cL ou 1 (vp_updL fo 0 (zL (kpR n (lwX (Int.natAbs x0) (Int.natAbs y0)) (lwZ (Int.natAbs x0) (Int.natAbs y0)))))]
      replace hf0 : b12 l2 := hf0
      replace hf1 : b12 r2 := hf1
      replace hf2 : b12 q2 := hf2
      refine z_istore (lv' := [(5, .int (zI 0)), (0, .ref bs), (1, .ref k), (2, .ref mo), (3, .ref ou), (4, .int (zI ((5 * t : Nat) : Int)))]) S d_L_law_169 (by decide) rfl ?_
      refine z_aload_n S d_L_law_171 3 rfl ?_
      refine z_aload_n S d_L_law_172 1 rfl ?_
      refine z_iload S d_L_law_173 5 rfl ?_
      refine z_iconst S d_L_law_175 ?_
      refine z_iadd S d_L_law_176 ?_
      refine z_sald2 (x := a1) S hX hbs hnA (5 * t + 1) rfl hq1 hL ha1 d_L_law_177 ?_
      refine z_i2l S d_L_law_178 hr1 ?_
      refine z_bipush S d_L_law_179 rfl ?_
      refine z_lshl S d_L_law_181 ?_
      refine z_aload_n S d_L_law_182 1 rfl ?_
      refine z_iload S d_L_law_183 5 rfl ?_
      refine z_iconst S d_L_law_185 ?_
      refine z_iadd S d_L_law_186 ?_
      refine z_sald2 (x := a2) S hX hbs hnA (5 * t + 2) rfl hq2 hL ha2 d_L_law_187 ?_
      refine z_i2l S d_L_law_188 hr2 ?_
      refine z_ldc2 (v := 4294967295) (z := 4294967295) S k_L_81 d_L_law_189 (by decide) ?_
      refine z_land S d_L_law_192 ?_
      refine z_lor2 (x := x0) S hx0 d_L_law_193 ?_
      refine z_aload_n S d_L_law_194 1 rfl ?_
      refine z_iload S d_L_law_195 5 rfl ?_
      refine z_iconst S d_L_law_197 ?_
      refine z_iadd S d_L_law_198 ?_
      refine z_sald2 (x := a3) S hX hbs hnA (5 * t + 3) rfl hq3 hL ha3 d_L_law_199 ?_
      refine z_i2l S d_L_law_200 hr3 ?_
      refine z_bipush S d_L_law_201 rfl ?_
      refine z_lshl S d_L_law_203 ?_
      refine z_aload_n S d_L_law_204 1 rfl ?_
      refine z_iload S d_L_law_205 5 rfl ?_
      refine z_iconst S d_L_law_207 ?_
      refine z_iadd S d_L_law_208 ?_
      refine z_sald2 (x := a4) S hX hbs hnA (5 * t + 4) rfl hq4 hL ha4 d_L_law_209 ?_
      refine z_i2l S d_L_law_210 hr4 ?_
      refine z_ldc2 (v := 4294967295) (z := 4294967295) S k_L_81 d_L_law_211 (by decide) ?_
      refine z_land S d_L_law_214 ?_
      refine z_lor2 (x := y0) S hy0 d_L_law_215 ?_
      refine z_callVa (As := [.long (zL x0), .long (zL y0)]) (st := []) (wc := [oM mo th mw (n : Int) mg ma mb (ns : Int) mlo mhi (nw : Int) mwe mru mrd, aL cL mw 160 (wkA rr), aI cI mg 100 (sgA sgm), aL cL ma 800 (moA up), aL cL mb 800 (moA dm)]) (wr := [aI cI ka 30 (eA lo), aI cI kz 30 (eA hi), oF a an au al, oW au aua ((us ax : Nat) : Int), aI cI aua 12 (wa ax), oW al ala ((us az : Nat) : Int), aI cI ala 12 (wa az), oF b bn bu bl, oW bu bua ((us bx : Nat) : Int), aI cI bua 12 (wa bx), oW bl bla ((us bz : Nat) : Int), aI cI bla 12 (wa bz), oF g gn gu gl, oW gu gua ((us gx : Nat) : Int), aI cI gua 12 (wa gx), oW gl gla ((us gz : Nat) : Int), aI cI gla 12 (wa gz), oF j jn ju jl, oW ju jua ((us jx : Nat) : Int), aI cI jua 12 (wa jx), oW jl jla ((us jz : Nat) : Int), aI cI jla 12 (wa jz), aL cL kw 20 (wA we), aL cL mru 8 (rsA jx), aL cL mrd 8 (rsA jz), aI cI mlo 30 (eA lo), aI cI mhi 30 (eA hi), aL cL mwe 20 (wA we), oK k h ka kz (ns : Int) kw (nw : Int) j kb a b d g, oH h hl hs ((kpC n (lwX (Int.natAbs x0) (Int.natAbs y0)) (lwZ (Int.natAbs x0) (Int.natAbs y0)) : Nat) : Int), aI cI hl 1200 (shA (kpN nn n (lwX (Int.natAbs x0) (Int.natAbs y0)) (lwZ (Int.natAbs x0) (Int.natAbs y0)))), aI cI hs 100 (sgA (kpS sg n (cmpZ x0 0 * cmpZ y0 0) (lwX (Int.natAbs x0) (Int.natAbs y0)) (lwZ (Int.natAbs x0) (Int.natAbs y0)))), oF d (cmpZ x0 0 * cmpZ y0 0) du dl, oW du dua ((us (lwX (Int.natAbs x0) (Int.natAbs y0)) : Nat) : Int), aI cI dua 12 (wa (lwX (Int.natAbs x0) (Int.natAbs y0))), oW dl dla ((us (lwZ (Int.natAbs x0) (Int.natAbs y0)) : Nat) : Int), aI cI dla 12 (wa (lwZ (Int.natAbs x0) (Int.natAbs y0))), oB kb kl kr kq, oW kl kla ((us l2 : Nat) : Int), aI cI kla 12 (wa l2), oW kr kra ((us r2 : Nat) : Int), aI cI kra 12 (wa r2), oW kq kqa ((us q2 : Nat) : Int), aI cI kqa 12 (wa q2), aL cL ou 1 (vp_updL fo 0 (zL (kpR n (lwX (Int.natAbs x0) (Int.natAbs y0)) (lwZ (Int.natAbs x0) (Int.natAbs y0)))))]) S hGok hK hg hA (s_M_value l dC dI cI cL qT mo mw n ma mb ns mlo mhi nw mwe mru mrd th mg rr sgm up dm x0 y0 (by omega) (by omega) (by omega) h0) (zcwV S (List.mem_cons_of_mem _ k_L_88) mV_M_value k_L_88 hd_M_value rfl rfl ⟨Nat.le_of_ble_eq_true rfl, Nat.le_of_ble_eq_true rfl⟩) rfl (Nat.le_of_ble_eq_true rfl) d_L_law_216 ⟨by show _ ≤ 1091; omega, by show _ ≤ 11859; omega⟩ rfl [23, 24, 25, 26, 27] [0, 1, 2, 3, 4, 5, 6, 7, 8, 9, 10, 11, 12, 13, 14, 15, 16, 17, 18, 19, 20, 21, 22, 28, 29, 30, 31, 32, 33, 34, 35, 36, 37, 38, 39, 40, 41, 42, 43, 44, 45, 46, 47, 48, 49] 23 rfl rfl rfl (by decide +kernel) rfl rfl rfl (by decide +kernel) (by decide +kernel) (fun x w hp => ?_)
      obtain ⟨rr2, rfl, rfl⟩ := hp
      show ZZ _ _ _ _ _ _ _ _ _ _ _ _ _ _ _ _ _ _ 219 [(5, .int (zI 0)), (0, .ref bs), (1, .ref k), (2, .ref mo), (3, .ref ou), (4, .int (zI ((5 * t : Nat) : Int)))] [.int (zI (kpR n (lwX (Int.natAbs x0) (Int.natAbs y0)) (lwZ (Int.natAbs x0) (Int.natAbs y0))))] [aI cI ka 30 (eA lo), aI cI kz 30 (eA hi), oF a an au al, oW au aua ((us ax : Nat) : Int), aI cI aua 12 (wa ax), oW al ala ((us az : Nat) : Int), aI cI ala 12 (wa az), oF b bn bu bl, oW bu bua ((us bx : Nat) : Int), aI cI bua 12 (wa bx), oW bl bla ((us bz : Nat) : Int), aI cI bla 12 (wa bz), oF g gn gu gl, oW gu gua ((us gx : Nat) : Int), aI cI gua 12 (wa gx), oW gl gla ((us gz : Nat) : Int), aI cI gla 12 (wa gz), oF j jn ju jl, oW ju jua ((us jx : Nat) : Int), aI cI jua 12 (wa jx), oW jl jla ((us jz : Nat) : Int), aI cI jla 12 (wa jz), aL cL kw 20 (wA we), aL cL mru 8 (rsA jx), aL cL mrd 8 (rsA jz), aI cI mlo 30 (eA lo), aI cI mhi 30 (eA hi), aL cL mwe 20 (wA we), oK k h ka kz (ns : Int) kw (nw : Int) j kb a b d g, oH h hl hs ((kpC n (lwX (Int.natAbs x0) (Int.natAbs y0)) (lwZ (Int.natAbs x0) (Int.natAbs y0)) : Nat) : Int), aI cI hl 1200 (shA (kpN nn n (lwX (Int.natAbs x0) (Int.natAbs y0)) (lwZ (Int.natAbs x0) (Int.natAbs y0)))), aI cI hs 100 (sgA (kpS sg n (cmpZ x0 0 * cmpZ y0 0) (lwX (Int.natAbs x0) (Int.natAbs y0)) (lwZ (Int.natAbs x0) (Int.natAbs y0)))), oF d (cmpZ x0 0 * cmpZ y0 0) du dl, oW du dua ((us (lwX (Int.natAbs x0) (Int.natAbs y0)) : Nat) : Int), aI cI dua 12 (wa (lwX (Int.natAbs x0) (Int.natAbs y0))), oW dl dla ((us (lwZ (Int.natAbs x0) (Int.natAbs y0)) : Nat) : Int), aI cI dla 12 (wa (lwZ (Int.natAbs x0) (Int.natAbs y0))), oB kb kl kr kq, oW kl kla ((us l2 : Nat) : Int), aI cI kla 12 (wa l2), oW kr kra ((us r2 : Nat) : Int), aI cI kra 12 (wa r2), oW kq kqa ((us q2 : Nat) : Int), aI cI kqa 12 (wa q2), aL cL ou 1 (vp_updL fo 0 (zL (kpR n (lwX (Int.natAbs x0) (Int.natAbs y0)) (lwZ (Int.natAbs x0) (Int.natAbs y0))))), oM mo 0 mw ((kpC n (lwX (Int.natAbs x0) (Int.natAbs y0)) (lwZ (Int.natAbs x0) (Int.natAbs y0)) : Nat) : Int) mg ma mb (ns : Int) mlo mhi (nw : Int) mwe mru mrd, aL cL mw 160 (wkA rr2), aI cI mg 100 (sgA (kpS sgm n (cmpZ x0 0 * cmpZ y0 0) (lwX (Int.natAbs x0) (Int.natAbs y0)) (lwZ (Int.natAbs x0) (Int.natAbs y0)))), aL cL ma 800 (moA (kpU up n (lwX (Int.natAbs x0) (Int.natAbs y0)) (lwX (Int.natAbs x0) (Int.natAbs y0)) (lwZ (Int.natAbs x0) (Int.natAbs y0)))), aL cL mb 800 (moA (kpU dm n (lwZ (Int.natAbs x0) (Int.natAbs y0)) (lwX (Int.natAbs x0) (Int.natAbs y0)) (lwZ (Int.natAbs x0) (Int.natAbs y0))))]
      refine z_istore (lv' := [(6, .int (zI (kpR n (lwX (Int.natAbs x0) (Int.natAbs y0)) (lwZ (Int.natAbs x0) (Int.natAbs y0))))), (5, .int (zI 0)), (0, .ref bs), (1, .ref k), (2, .ref mo), (3, .ref ou), (4, .int (zI ((5 * t : Nat) : Int)))]) S d_L_law_219 (by decide) rfl ?_
      refine z_aload_n S d_L_law_221 4 rfl ?_
      refine z_callVa (As := []) (st := []) (wc := [oM mo 0 mw ((kpC n (lwX (Int.natAbs x0) (Int.natAbs y0)) (lwZ (Int.natAbs x0) (Int.natAbs y0)) : Nat) : Int) mg ma mb (ns : Int) mlo mhi (nw : Int) mwe mru mrd]) (wr := [aI cI ka 30 (eA lo), aI cI kz 30 (eA hi), oF a an au al, oW au aua ((us ax : Nat) : Int), aI cI aua 12 (wa ax), oW al ala ((us az : Nat) : Int), aI cI ala 12 (wa az), oF b bn bu bl, oW bu bua ((us bx : Nat) : Int), aI cI bua 12 (wa bx), oW bl bla ((us bz : Nat) : Int), aI cI bla 12 (wa bz), oF g gn gu gl, oW gu gua ((us gx : Nat) : Int), aI cI gua 12 (wa gx), oW gl gla ((us gz : Nat) : Int), aI cI gla 12 (wa gz), oF j jn ju jl, oW ju jua ((us jx : Nat) : Int), aI cI jua 12 (wa jx), oW jl jla ((us jz : Nat) : Int), aI cI jla 12 (wa jz), aL cL kw 20 (wA we), aL cL mru 8 (rsA jx), aL cL mrd 8 (rsA jz), aI cI mlo 30 (eA lo), aI cI mhi 30 (eA hi), aL cL mwe 20 (wA we), oK k h ka kz (ns : Int) kw (nw : Int) j kb a b d g, oH h hl hs ((kpC n (lwX (Int.natAbs x0) (Int.natAbs y0)) (lwZ (Int.natAbs x0) (Int.natAbs y0)) : Nat) : Int), aI cI hl 1200 (shA (kpN nn n (lwX (Int.natAbs x0) (Int.natAbs y0)) (lwZ (Int.natAbs x0) (Int.natAbs y0)))), aI cI hs 100 (sgA (kpS sg n (cmpZ x0 0 * cmpZ y0 0) (lwX (Int.natAbs x0) (Int.natAbs y0)) (lwZ (Int.natAbs x0) (Int.natAbs y0)))), oF d (cmpZ x0 0 * cmpZ y0 0) du dl, oW du dua ((us (lwX (Int.natAbs x0) (Int.natAbs y0)) : Nat) : Int), aI cI dua 12 (wa (lwX (Int.natAbs x0) (Int.natAbs y0))), oW dl dla ((us (lwZ (Int.natAbs x0) (Int.natAbs y0)) : Nat) : Int), aI cI dla 12 (wa (lwZ (Int.natAbs x0) (Int.natAbs y0))), oB kb kl kr kq, oW kl kla ((us l2 : Nat) : Int), aI cI kla 12 (wa l2), oW kr kra ((us r2 : Nat) : Int), aI cI kra 12 (wa r2), oW kq kqa ((us q2 : Nat) : Int), aI cI kqa 12 (wa q2), aL cL ou 1 (vp_updL fo 0 (zL (kpR n (lwX (Int.natAbs x0) (Int.natAbs y0)) (lwZ (Int.natAbs x0) (Int.natAbs y0))))), aL cL mw 160 (wkA rr2), aI cI mg 100 (sgA (kpS sgm n (cmpZ x0 0 * cmpZ y0 0) (lwX (Int.natAbs x0) (Int.natAbs y0)) (lwZ (Int.natAbs x0) (Int.natAbs y0)))), aL cL ma 800 (moA (kpU up n (lwX (Int.natAbs x0) (Int.natAbs y0)) (lwX (Int.natAbs x0) (Int.natAbs y0)) (lwZ (Int.natAbs x0) (Int.natAbs y0)))), aL cL mb 800 (moA (kpU dm n (lwZ (Int.natAbs x0) (Int.natAbs y0)) (lwX (Int.natAbs x0) (Int.natAbs y0)) (lwZ (Int.natAbs x0) (Int.natAbs y0))))]) S hGok hK hg hA (s_M_thrown l dC dI cI cL qT mo mw (kpC n (lwX (Int.natAbs x0) (Int.natAbs y0)) (lwZ (Int.natAbs x0) (Int.natAbs y0))) ma mb ns mlo mhi nw mwe mru mrd 0 mg ) (zcwV S (List.mem_cons_of_mem _ k_L_89) mV_M_thrown k_L_89 hd_M_thrown rfl rfl ⟨Nat.le_of_ble_eq_true rfl, Nat.le_of_ble_eq_true rfl⟩) rfl (Nat.le_of_ble_eq_true rfl) d_L_law_222 ⟨by show _ ≤ 1091; omega, by show _ ≤ 11859; omega⟩ rfl [45] [0, 1, 2, 3, 4, 5, 6, 7, 8, 9, 10, 11, 12, 13, 14, 15, 16, 17, 18, 19, 20, 21, 22, 23, 24, 25, 26, 27, 28, 29, 30, 31, 32, 33, 34, 35, 36, 37, 38, 39, 40, 41, 42, 43, 44, 46, 47, 48, 49] 45 rfl rfl rfl (by decide +kernel) rfl rfl rfl (by decide +kernel) (by decide +kernel) (fun x w hp => ?_)
      obtain ⟨rfl, rfl⟩ := hp
      show ZZ _ _ _ _ _ _ _ _ _ _ _ _ _ _ _ _ _ _ 225 [(6, .int (zI (kpR n (lwX (Int.natAbs x0) (Int.natAbs y0)) (lwZ (Int.natAbs x0) (Int.natAbs y0))))), (5, .int (zI 0)), (0, .ref bs), (1, .ref k), (2, .ref mo), (3, .ref ou), (4, .int (zI ((5 * t : Nat) : Int)))] [.int (zI 0)] [aI cI ka 30 (eA lo), aI cI kz 30 (eA hi), oF a an au al, oW au aua ((us ax : Nat) : Int), aI cI aua 12 (wa ax), oW al ala ((us az : Nat) : Int), aI cI ala 12 (wa az), oF b bn bu bl, oW bu bua ((us bx : Nat) : Int), aI cI bua 12 (wa bx), oW bl bla ((us bz : Nat) : Int), aI cI bla 12 (wa bz), oF g gn gu gl, oW gu gua ((us gx : Nat) : Int), aI cI gua 12 (wa gx), oW gl gla ((us gz : Nat) : Int), aI cI gla 12 (wa gz), oF j jn ju jl, oW ju jua ((us jx : Nat) : Int), aI cI jua 12 (wa jx), oW jl jla ((us jz : Nat) : Int), aI cI jla 12 (wa jz), aL cL kw 20 (wA we), aL cL mru 8 (rsA jx), aL cL mrd 8 (rsA jz), aI cI mlo 30 (eA lo), aI cI mhi 30 (eA hi), aL cL mwe 20 (wA we), oK k h ka kz (ns : Int) kw (nw : Int) j kb a b d g, oH h hl hs ((kpC n (lwX (Int.natAbs x0) (Int.natAbs y0)) (lwZ (Int.natAbs x0) (Int.natAbs y0)) : Nat) : Int), aI cI hl 1200 (shA (kpN nn n (lwX (Int.natAbs x0) (Int.natAbs y0)) (lwZ (Int.natAbs x0) (Int.natAbs y0)))), aI cI hs 100 (sgA (kpS sg n (cmpZ x0 0 * cmpZ y0 0) (lwX (Int.natAbs x0) (Int.natAbs y0)) (lwZ (Int.natAbs x0) (Int.natAbs y0)))), oF d (cmpZ x0 0 * cmpZ y0 0) du dl, oW du dua ((us (lwX (Int.natAbs x0) (Int.natAbs y0)) : Nat) : Int), aI cI dua 12 (wa (lwX (Int.natAbs x0) (Int.natAbs y0))), oW dl dla ((us (lwZ (Int.natAbs x0) (Int.natAbs y0)) : Nat) : Int), aI cI dla 12 (wa (lwZ (Int.natAbs x0) (Int.natAbs y0))), oB kb kl kr kq, oW kl kla ((us l2 : Nat) : Int), aI cI kla 12 (wa l2), oW kr kra ((us r2 : Nat) : Int), aI cI kra 12 (wa r2), oW kq kqa ((us q2 : Nat) : Int), aI cI kqa 12 (wa q2), aL cL ou 1 (vp_updL fo 0 (zL (kpR n (lwX (Int.natAbs x0) (Int.natAbs y0)) (lwZ (Int.natAbs x0) (Int.natAbs y0))))), aL cL mw 160 (wkA rr2), aI cI mg 100 (sgA (kpS sgm n (cmpZ x0 0 * cmpZ y0 0) (lwX (Int.natAbs x0) (Int.natAbs y0)) (lwZ (Int.natAbs x0) (Int.natAbs y0)))), aL cL ma 800 (moA (kpU up n (lwX (Int.natAbs x0) (Int.natAbs y0)) (lwX (Int.natAbs x0) (Int.natAbs y0)) (lwZ (Int.natAbs x0) (Int.natAbs y0)))), aL cL mb 800 (moA (kpU dm n (lwZ (Int.natAbs x0) (Int.natAbs y0)) (lwX (Int.natAbs x0) (Int.natAbs y0)) (lwZ (Int.natAbs x0) (Int.natAbs y0)))), oM mo 0 mw ((kpC n (lwX (Int.natAbs x0) (Int.natAbs y0)) (lwZ (Int.natAbs x0) (Int.natAbs y0)) : Nat) : Int) mg ma mb (ns : Int) mlo mhi (nw : Int) mwe mru mrd]
      have hkr : -1 ≤ kpR n (lwX (Int.natAbs x0) (Int.natAbs y0)) (lwZ (Int.natAbs x0) (Int.natAbs y0)) ∧ kpR n (lwX (Int.natAbs x0) (Int.natAbs y0)) (lwZ (Int.natAbs x0) (Int.natAbs y0)) ≤ (n : Int) := kpR_r _ _ _
      refine z_iload S d_L_law_225 1 rfl ?_
      refine z_icmp_eq (tgt := 232) S d_L_law_227 (by decide) (by omega) (by omega) (fun c5 => ?_) (fun c5 => ?_)
      · skip
        refine z_iload S d_L_law_232 1 rfl ?_
        refine z_if_ne (tgt := 249) S d_L_law_234 (by decide) (by omega) (fun c6 => ?_) (fun c6 => ?_)
        · skip
          exact absurd c6 (by omega)
        · skip
          refine z_aload_n S d_L_law_237 5 rfl ?_
          refine z_iconst S d_L_law_238 ?_
          refine z_lald (x := (kpR n (lwX (Int.natAbs x0) (Int.natAbs y0)) (lwZ (Int.natAbs x0) (Int.natAbs y0)))) S hK 44 1 rfl rfl 0 rfl (by omega) (by decide) (upL_at _ _ _) d_L_law_239 ?_
          refine z_iload S d_L_law_240 0 rfl ?_
          refine z_i2l S d_L_law_242 (by omega) ?_
          refine z_lcmp_eq (tgt := 249) S d_L_law_243 d_L_law_244 (by decide) (by omega) (by omega) (fun c7 => ?_) (fun c7 => ?_)
          · skip
            refine z_goto (tgt := 1406) S d_L_law_249 (by decide) ?_
            refine z_lv (lv' := [(0, .ref bs), (1, .ref k), (2, .ref mo), (3, .ref ou), (4, .int (zI ((5 * t : Nat) : Int)))]) [2, 3, 4, 5, 6] rfl ?_
            refine z_widen (c2 := 60 + t + 1) (s2 := 4000 + 6 * t + 6) (by omega) (by omega) ?_
            refine z_ws (ws' := [oK k h ka kz (ns : Int) kw (nw : Int) j kb a b d g, aI cI ka 30 (eA lo), aI cI kz 30 (eA hi), oH h hl hs ((kpC n (lwX (Int.natAbs x0) (Int.natAbs y0)) (lwZ (Int.natAbs x0) (Int.natAbs y0)) : Nat) : Int), aI cI hl 1200 (shA (kpN nn n (lwX (Int.natAbs x0) (Int.natAbs y0)) (lwZ (Int.natAbs x0) (Int.natAbs y0)))), aI cI hs 100 (sgA (kpS sg n (cmpZ x0 0 * cmpZ y0 0) (lwX (Int.natAbs x0) (Int.natAbs y0)) (lwZ (Int.natAbs x0) (Int.natAbs y0)))), oF a an au al, oW au aua ((us ax : Nat) : Int), aI cI aua 12 (wa ax), oW al ala ((us az : Nat) : Int), aI cI ala 12 (wa az), oF b bn bu bl, oW bu bua ((us bx : Nat) : Int), aI cI bua 12 (wa bx), oW bl bla ((us bz : Nat) : Int), aI cI bla 12 (wa bz), oF d (cmpZ x0 0 * cmpZ y0 0) du dl, oW du dua ((us (lwX (Int.natAbs x0) (Int.natAbs y0)) : Nat) : Int), aI cI dua 12 (wa (lwX (Int.natAbs x0) (Int.natAbs y0))), oW dl dla ((us (lwZ (Int.natAbs x0) (Int.natAbs y0)) : Nat) : Int), aI cI dla 12 (wa (lwZ (Int.natAbs x0) (Int.natAbs y0))), oF g gn gu gl, oW gu gua ((us gx : Nat) : Int), aI cI gua 12 (wa gx), oW gl gla ((us gz : Nat) : Int), aI cI gla 12 (wa gz), oB kb kl kr kq, oW kl kla ((us l2 : Nat) : Int), aI cI kla 12 (wa l2), oW kr kra ((us r2 : Nat) : Int), aI cI kra 12 (wa r2), oW kq kqa ((us q2 : Nat) : Int), aI cI kqa 12 (wa q2), oF j jn ju jl, oW ju jua ((us jx : Nat) : Int), aI cI jua 12 (wa jx), oW jl jla ((us jz : Nat) : Int), aI cI jla 12 (wa jz), aL cL kw 20 (wA we), oM mo 0 mw ((kpC n (lwX (Int.natAbs x0) (Int.natAbs y0)) (lwZ (Int.natAbs x0) (Int.natAbs y0)) : Nat) : Int) mg ma mb (ns : Int) mlo mhi (nw : Int) mwe mru mrd, aL cL mw 160 (wkA rr2), aI cI mg 100 (sgA (kpS sgm n (cmpZ x0 0 * cmpZ y0 0) (lwX (Int.natAbs x0) (Int.natAbs y0)) (lwZ (Int.natAbs x0) (Int.natAbs y0)))), aL cL ma 800 (moA (kpU up n (lwX (Int.natAbs x0) (Int.natAbs y0)) (lwX (Int.natAbs x0) (Int.natAbs y0)) (lwZ (Int.natAbs x0) (Int.natAbs y0)))), aL cL mb 800 (moA (kpU dm n (lwZ (Int.natAbs x0) (Int.natAbs y0)) (lwX (Int.natAbs x0) (Int.natAbs y0)) (lwZ (Int.natAbs x0) (Int.natAbs y0)))), aL cL mru 8 (rsA jx), aL cL mrd 8 (rsA jz), aI cI mlo 30 (eA lo), aI cI mhi 30 (eA hi), aL cL mwe 20 (wA we), aL cL ou 1 (vp_updL fo 0 (zL (kpR n (lwX (Int.natAbs x0) (Int.natAbs y0)) (lwZ (Int.natAbs x0) (Int.natAbs y0)))))]) [28, 0, 1, 29, 30, 31, 2, 3, 4, 5, 6, 7, 8, 9, 10, 11, 32, 33, 34, 35, 36, 12, 13, 14, 15, 16, 37, 38, 39, 40, 41, 42, 43, 17, 18, 19, 20, 21, 22, 49, 45, 46, 47, 48, 23, 24, 25, 26, 27, 44] (by decide +kernel) rfl rfl ?_
            exact kk _ (lwM cI cL k mo ou ka kz h hl hs a au aua al ala b bu bua bl bla d du dua dl dla g gu gua gl gla kb kl kla kr kra kq kqa j ju jua jl jla kw mw mg ma mb mru mrd mlo mhi mwe (kpC n (lwX (Int.natAbs x0) (Int.natAbs y0)) (lwZ (Int.natAbs x0) (Int.natAbs y0))) ns nw (kpN nn n (lwX (Int.natAbs x0) (Int.natAbs y0)) (lwZ (Int.natAbs x0) (Int.natAbs y0))) lo hi we (kpS sg n (cmpZ x0 0 * cmpZ y0 0) (lwX (Int.natAbs x0) (Int.natAbs y0)) (lwZ (Int.natAbs x0) (Int.natAbs y0))) jn jx jz an ax az bn bx bz (cmpZ x0 0 * cmpZ y0 0) (lwX (Int.natAbs x0) (Int.natAbs y0)) (lwZ (Int.natAbs x0) (Int.natAbs y0)) gn gx gz l2 r2 q2 0 rr2 (kpS sgm n (cmpZ x0 0 * cmpZ y0 0) (lwX (Int.natAbs x0) (Int.natAbs y0)) (lwZ (Int.natAbs x0) (Int.natAbs y0))) (kpU up n (lwX (Int.natAbs x0) (Int.natAbs y0)) (lwX (Int.natAbs x0) (Int.natAbs y0)) (lwZ (Int.natAbs x0) (Int.natAbs y0))) (kpU dm n (lwZ (Int.natAbs x0) (Int.natAbs y0)) (lwX (Int.natAbs x0) (Int.natAbs y0)) (lwZ (Int.natAbs x0) (Int.natAbs y0))) (vp_updL fo 0 (zL (kpR n (lwX (Int.natAbs x0) (Int.natAbs y0)) (lwZ (Int.natAbs x0) (Int.natAbs y0))))) ((kpC_r (by omega)).2) (kp_ok hV (fun y1 y2 => okV_val h0 y1 y2)) hns0 (ends_up hE (kpC_r (by omega)).1) hnw0 hW hJ hjg hax haz hbx hbz ((bd_val hrx0 hry0).1) ((bd_val hrx0 hry0).2) hgx hgz hf0 hf1 hf2 (kp_ag hag))
          · skip
            exact absurd c7 (fun hq => hq (by omega))
      · skip
        exact absurd c5 (by omega)
