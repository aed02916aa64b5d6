set_option maxHeartbeats 4000000 in
set_option maxRecDepth 100000 in
theorem s_F_becomeProduct (l : Launch) (dC : Nat → ClassId) (dI : Nat → Nat → Nat) (cI cL : ClassId) (qT : Nat) (a : Nat) (an : Int) (au : Nat) (aua : Nat) (ax : Nat) (al : Nat) (ala : Nat) (az : Nat) (b : Nat) (bn : Int) (bu : Nat) (bua : Nat) (bx : Nat) (bl : Nat) (bla : Nat) (bz : Nat) (d : Nat) (dn : Int) (du : Nat) (dua : Nat) (dx : Nat) (dl : Nat) (dla : Nat) (dz : Nat) (hax : ax < 1000000000 ^ 12) (haz : az < 1000000000 ^ 12) (hbx : bx < 1000000000 ^ 12) (hbz : bz < 1000000000 ^ 12) (hdx : dx < 1000000000 ^ 12) (hdz : dz < 1000000000 ^ 12) (h1 : bx * dx < 1000000000 ^ 12) (h2 : bz * dz < 1000000000 ^ 12) : Cv l y_F_becomeProduct (Cond.code y_F_becomeProduct c_F_becomeProduct 3 none :: zB) { frames := 2, cells := 0, slots := 0, locals := 47 } (dC, dI) zcl [(cI, .int), (cL, .long)] (zG cI cL qT) [.ref a, .ref b, .ref d] [oF a an au al, oW au aua ((us ax : Nat) : Int), aI cI aua 12 (wa ax), oW al ala ((us az : Nat) : Int), aI cI ala 12 (wa az), oF b bn bu bl, oW bu bua ((us bx : Nat) : Int), aI cI bua 12 (wa bx), oW bl bla ((us bz : Nat) : Int), aI cI bla 12 (wa bz), oF d dn du dl, oW du dua ((us dx : Nat) : Int), aI cI dua 12 (wa dx), oW dl dla ((us dz : Nat) : Int), aI cI dla 12 (wa dz)] (fun wv => wv = [oF a (bn * dn) au al, oW au aua ((us (bx * dx) : Nat) : Int), aI cI aua 12 (wa (bx * dx)), oW al ala ((us (bz * dz) : Nat) : Int), aI cI ala 12 (wa (bz * dz)), oF b bn bu bl, oW bu bua ((us bx : Nat) : Int), aI cI bua 12 (wa bx), oW bl bla ((us bz : Nat) : Int), aI cI bla 12 (wa bz), oF d dn du dl, oW du dua ((us dx : Nat) : Int), aI cI dua 12 (wa dx), oW dl dla ((us dz : Nat) : Int), aI cI dla 12 (wa dz)]) 0 0 := by
  refine Cm.ofZ (cc := c_F_becomeProduct) (maxL := 3) (ret := none) (by decide) rfl (Nat.le_of_ble_eq_true rfl) rfl ?_
  intro p e s m below meth c A S hr hlo hnm hK hg hA hAe
  have hGok := zG_ok cI cL qT
  show ZZ _ _ _ _ _ _ _ _ _ _ _ _ _ _ _ _ _ _ 0 [(0, .ref a), (1, .ref b), (2, .ref d)] [] [oF a an au al, oW au aua ((us ax : Nat) : Int), aI cI aua 12 (wa ax), oW al ala ((us az : Nat) : Int), aI cI ala 12 (wa az), oF b bn bu bl, oW bu bua ((us bx : Nat) : Int), aI cI bua 12 (wa bx), oW bl bla ((us bz : Nat) : Int), aI cI bla 12 (wa bz), oF d dn du dl, oW du dua ((us dx : Nat) : Int), aI cI dua 12 (wa dx), oW dl dla ((us dz : Nat) : Int), aI cI dla 12 (wa dz)]
  refine z_aload_n S d_F_becomeProduct_0 0 rfl ?_
  refine z_aload_n S d_F_becomeProduct_1 1 rfl ?_
  refine z_get S hK la_F 5 rfl rfl 0 (by decide) k_F_9 rfl d_F_becomeProduct_2 ?_
  refine z_aload_n S d_F_becomeProduct_5 2 rfl ?_
  refine z_get S hK la_F 10 rfl rfl 0 (by decide) k_F_9 rfl d_F_becomeProduct_6 ?_
  refine z_imul S d_F_becomeProduct_9 ?_
  refine z_put (ws' := [oF a (bn * dn) au al, oW au aua ((us ax : Nat) : Int), aI cI aua 12 (wa ax), oW al ala ((us az : Nat) : Int), aI cI ala 12 (wa az), oF b bn bu bl, oW bu bua ((us bx : Nat) : Int), aI cI bua 12 (wa bx), oW bl bla ((us bz : Nat) : Int), aI cI bla 12 (wa bz), oF d dn du dl, oW du dua ((us dx : Nat) : Int), aI cI dua 12 (wa dx), oW dl dla ((us dz : Nat) : Int), aI cI dla 12 (wa dz)]) S hK la_F ty_F tyok_F nm_F 0 rfl rfl 0 (by decide) k_F_9 rfl (ty := .int) (by decide +kernel) rfl rfl (Nat.le_of_ble_eq_true rfl) rfl d_F_becomeProduct_10 ?_
  refine z_aload_n S d_F_becomeProduct_13 0 rfl ?_
  refine z_get S hK la_F 0 rfl rfl 1 (by decide) k_F_18 rfl d_F_becomeProduct_14 ?_
  refine z_aload_n S d_F_becomeProduct_17 1 rfl ?_
  refine z_get S hK la_F 5 rfl rfl 1 (by decide) k_F_18 rfl d_F_becomeProduct_18 ?_
  refine z_aload_n S d_F_becomeProduct_21 2 rfl ?_
  refine z_get S hK la_F 10 rfl rfl 1 (by decide) k_F_18 rfl d_F_becomeProduct_22 ?_
  refine z_callVv (As := [.ref bu, .ref du]) (st := []) (wc := [oW au aua ((us ax : Nat) : Int), aI cI aua 12 (wa ax), oW bu bua ((us bx : Nat) : Int), aI cI bua 12 (wa bx), oW du dua ((us dx : Nat) : Int), aI cI dua 12 (wa dx)]) (wr := [oF a (bn * dn) au al, oW al ala ((us az : Nat) : Int), aI cI ala 12 (wa az), oF b bn bu bl, oW bl bla ((us bz : Nat) : Int), aI cI bla 12 (wa bz), oF d dn du dl, oW dl dla ((us dz : Nat) : Int), aI cI dla 12 (wa dz)]) S hGok hK hg hA (s_W_becomeProduct l dC dI cI cL qT au aua ((us ax : Nat) : Int) (wa ax) bu bua bx du dua dx (fun j hj => wa_hi (by omega) hj) (by omega) (by omega) h1) (zcwV S (List.mem_cons_of_mem _ k_F_43) mV_W_becomeProduct k_F_43 hd_W_becomeProduct rfl rfl ⟨Nat.le_of_ble_eq_true rfl, Nat.le_of_ble_eq_true rfl⟩) rfl (Nat.le_of_ble_eq_true rfl) d_F_becomeProduct_25 ⟨Nat.le_of_ble_eq_true rfl, Nat.le_of_ble_eq_true rfl⟩ rfl [1, 2, 6, 7, 11, 12] [0, 3, 4, 5, 8, 9, 10, 13, 14] 1 rfl rfl rfl (by decide) rfl rfl rfl (by decide) (by decide) (fun w hp => ?_)
  subst hp
  show ZZ _ _ _ _ _ _ _ _ _ _ _ _ _ _ _ _ _ _ 28 [(0, .ref a), (1, .ref b), (2, .ref d)] [] [oF a (bn * dn) au al, oW al ala ((us az : Nat) : Int), aI cI ala 12 (wa az), oF b bn bu bl, oW bl bla ((us bz : Nat) : Int), aI cI bla 12 (wa bz), oF d dn du dl, oW dl dla ((us dz : Nat) : Int), aI cI dla 12 (wa dz), oW au aua ((us (bx * dx) : Nat) : Int), aI cI aua 12 (wa (bx * dx)), oW bu bua ((us bx : Nat) : Int), aI cI bua 12 (wa bx), oW du dua ((us dx : Nat) : Int), aI cI dua 12 (wa dx)]
  refine z_aload_n S d_F_becomeProduct_28 0 rfl ?_
  refine z_get S hK la_F 0 rfl rfl 2 (by decide) k_F_22 rfl d_F_becomeProduct_29 ?_
  refine z_aload_n S d_F_becomeProduct_32 1 rfl ?_
  refine z_get S hK la_F 3 rfl rfl 2 (by decide) k_F_22 rfl d_F_becomeProduct_33 ?_
  refine z_aload_n S d_F_becomeProduct_36 2 rfl ?_
  refine z_get S hK la_F 6 rfl rfl 2 (by decide) k_F_22 rfl d_F_becomeProduct_37 ?_
  refine z_callVv (As := [.ref bl, .ref dl]) (st := []) (wc := [oW al ala ((us az : Nat) : Int), aI cI ala 12 (wa az), oW bl bla ((us bz : Nat) : Int), aI cI bla 12 (wa bz), oW dl dla ((us dz : Nat) : Int), aI cI dla 12 (wa dz)]) (wr := [oF a (bn * dn) au al, oF b bn bu bl, oF d dn du dl, oW au aua ((us (bx * dx) : Nat) : Int), aI cI aua 12 (wa (bx * dx)), oW bu bua ((us bx : Nat) : Int), aI cI bua 12 (wa bx), oW du dua ((us dx : Nat) : Int), aI cI dua 12 (wa dx)]) S hGok hK hg hA (s_W_becomeProduct l dC dI cI cL qT al ala ((us az : Nat) : Int) (wa az) bl bla bz dl dla dz (fun j hj => wa_hi (by omega) hj) (by omega) (by omega) h2) (zcwV S (List.mem_cons_of_mem _ k_F_43) mV_W_becomeProduct k_F_43 hd_W_becomeProduct rfl rfl ⟨Nat.le_of_ble_eq_true rfl, Nat.le_of_ble_eq_true rfl⟩) rfl (Nat.le_of_ble_eq_true rfl) d_F_becomeProduct_40 ⟨Nat.le_of_ble_eq_true rfl, Nat.le_of_ble_eq_true rfl⟩ rfl [1, 2, 4, 5, 7, 8] [0, 3, 6, 9, 10, 11, 12, 13, 14] 1 rfl rfl rfl (by decide) rfl rfl rfl (by decide) (by decide) (fun w hp => ?_)
  subst hp
  show ZZ _ _ _ _ _ _ _ _ _ _ _ _ _ _ _ _ _ _ 43 [(0, .ref a), (1, .ref b), (2, .ref d)] [] [oF a (bn * dn) au al, oF b bn bu bl, oF d dn du dl, oW au aua ((us (bx * dx) : Nat) : Int), aI cI aua 12 (wa (bx * dx)), oW bu bua ((us bx : Nat) : Int), aI cI bua 12 (wa bx), oW du dua ((us dx : Nat) : Int), aI cI dua 12 (wa dx), oW al ala ((us (bz * dz) : Nat) : Int), aI cI ala 12 (wa (bz * dz)), oW bl bla ((us bz : Nat) : Int), aI cI bla 12 (wa bz), oW dl dla ((us dz : Nat) : Int), aI cI dla 12 (wa dz)]
  exact z_vret (w := [oF a (bn * dn) au al, oW au aua ((us (bx * dx) : Nat) : Int), aI cI aua 12 (wa (bx * dx)), oW al ala ((us (bz * dz) : Nat) : Int), aI cI ala 12 (wa (bz * dz)), oF b bn bu bl, oW bu bua ((us bx : Nat) : Int), aI cI bua 12 (wa bx), oW bl bla ((us bz : Nat) : Int), aI cI bla 12 (wa bz), oF d dn du dl, oW du dua ((us dx : Nat) : Int), aI cI dua 12 (wa dx), oW dl dla ((us dz : Nat) : Int), aI cI dla 12 (wa dz)]) S hr hlo hAe d_F_becomeProduct_43 [0, 3, 4, 9, 10, 1, 5, 6, 11, 12, 2, 7, 8, 13, 14] (by decide) rfl rfl ⟨Nat.le_refl _, Nat.le_refl _⟩ (rfl)
set_option maxHeartbeats 4000000 in
set_option maxRecDepth 100000 in
theorem s_F_becomeQuotient (l : Launch) (dC : Nat → ClassId) (dI : Nat → Nat → Nat) (cI cL : ClassId) (qT : Nat) (a : Nat) (an : Int) (au : Nat) (aua : Nat) (ax : Nat) (al : Nat) (ala : Nat) (az : Nat) (b : Nat) (bn : Int) (bu : Nat) (bua : Nat) (bx : Nat) (bl : Nat) (bla : Nat) (bz : Nat) (d : Nat) (dn : Int) (du : Nat) (dua : Nat) (dx : Nat) (dl : Nat) (dla : Nat) (dz : Nat) (hax : ax < 1000000000 ^ 12) (haz : az < 1000000000 ^ 12) (hbx : bx < 1000000000 ^ 12) (hbz : bz < 1000000000 ^ 12) (hdx : dx < 1000000000 ^ 12) (hdz : dz < 1000000000 ^ 12) (h1 : bx * dz < 1000000000 ^ 12) (h2 : bz * dx < 1000000000 ^ 12) : Cv l y_F_becomeQuotient (Cond.code y_F_becomeQuotient c_F_becomeQuotient 3 none :: zB) { frames := 2, cells := 0, slots := 0, locals := 47 } (dC, dI) zcl [(cI, .int), (cL, .long)] (zG cI cL qT) [.ref a, .ref b, .ref d] [oF a an au al, oW au aua ((us ax : Nat) : Int), aI cI aua 12 (wa ax), oW al ala ((us az : Nat) : Int), aI cI ala 12 (wa az), oF b bn bu bl, oW bu bua ((us bx : Nat) : Int), aI cI bua 12 (wa bx), oW bl bla ((us bz : Nat) : Int), aI cI bla 12 (wa bz), oF d dn du dl, oW du dua ((us dx : Nat) : Int), aI cI dua 12 (wa dx), oW dl dla ((us dz : Nat) : Int), aI cI dla 12 (wa dz)] (fun wv => wv = [oF a (bn * dn) au al, oW au aua ((us (bx * dz) : Nat) : Int), aI cI aua 12 (wa (bx * dz)), oW al ala ((us (bz * dx) : Nat) : Int), aI cI ala 12 (wa (bz * dx)), oF b bn bu bl, oW bu bua ((us bx : Nat) : Int), aI cI bua 12 (wa bx), oW bl bla ((us bz : Nat) : Int), aI cI bla 12 (wa bz), oF d dn du dl, oW du dua ((us dx : Nat) : Int), aI cI dua 12 (wa dx), oW dl dla ((us dz : Nat) : Int), aI cI dla 12 (wa dz)]) 0 0 := by
  refine Cm.ofZ (cc := c_F_becomeQuotient) (maxL := 3) (ret := none) (by decide) rfl (Nat.le_of_ble_eq_true rfl) rfl ?_
  intro p e s m below meth c A S hr hlo hnm hK hg hA hAe
  have hGok := zG_ok cI cL qT
  show ZZ _ _ _ _ _ _ _ _ _ _ _ _ _ _ _ _ _ _ 0 [(0, .ref a), (1, .ref b), (2, .ref d)] [] [oF a an au al, oW au aua ((us ax : Nat) : Int), aI cI aua 12 (wa ax), oW al ala ((us az : Nat) : Int), aI cI ala 12 (wa az), oF b bn bu bl, oW bu bua ((us bx : Nat) : Int), aI cI bua 12 (wa bx), oW bl bla ((us bz : Nat) : Int), aI cI bla 12 (wa bz), oF d dn du dl, oW du dua ((us dx : Nat) : Int), aI cI dua 12 (wa dx), oW dl dla ((us dz : Nat) : Int), aI cI dla 12 (wa dz)]
  refine z_aload_n S d_F_becomeQuotient_0 0 rfl ?_
  refine z_aload_n S d_F_becomeQuotient_1 1 rfl ?_
  refine z_get S hK la_F 5 rfl rfl 0 (by decide) k_F_9 rfl d_F_becomeQuotient_2 ?_
  refine z_aload_n S d_F_becomeQuotient_5 2 rfl ?_
  refine z_get S hK la_F 10 rfl rfl 0 (by decide) k_F_9 rfl d_F_becomeQuotient_6 ?_
  refine z_imul S d_F_becomeQuotient_9 ?_
  refine z_put (ws' := [oF a (bn * dn) au al, oW au aua ((us ax : Nat) : Int), aI cI aua 12 (wa ax), oW al ala ((us az : Nat) : Int), aI cI ala 12 (wa az), oF b bn bu bl, oW bu bua ((us bx : Nat) : Int), aI cI bua 12 (wa bx), oW bl bla ((us bz : Nat) : Int), aI cI bla 12 (wa bz), oF d dn du dl, oW du dua ((us dx : Nat) : Int), aI cI dua 12 (wa dx), oW dl dla ((us dz : Nat) : Int), aI cI dla 12 (wa dz)]) S hK la_F ty_F tyok_F nm_F 0 rfl rfl 0 (by decide) k_F_9 rfl (ty := .int) (by decide +kernel) rfl rfl (Nat.le_of_ble_eq_true rfl) rfl d_F_becomeQuotient_10 ?_
  refine z_aload_n S d_F_becomeQuotient_13 0 rfl ?_
  refine z_get S hK la_F 0 rfl rfl 1 (by decide) k_F_18 rfl d_F_becomeQuotient_14 ?_
  refine z_aload_n S d_F_becomeQuotient_17 1 rfl ?_
  refine z_get S hK la_F 5 rfl rfl 1 (by decide) k_F_18 rfl d_F_becomeQuotient_18 ?_
  refine z_aload_n S d_F_becomeQuotient_21 2 rfl ?_
  refine z_get S hK la_F 10 rfl rfl 2 (by decide) k_F_22 rfl d_F_becomeQuotient_22 ?_
  refine z_callVv (As := [.ref bu, .ref dl]) (st := []) (wc := [oW au aua ((us ax : Nat) : Int), aI cI aua 12 (wa ax), oW bu bua ((us bx : Nat) : Int), aI cI bua 12 (wa bx), oW dl dla ((us dz : Nat) : Int), aI cI dla 12 (wa dz)]) (wr := [oF a (bn * dn) au al, oW al ala ((us az : Nat) : Int), aI cI ala 12 (wa az), oF b bn bu bl, oW bl bla ((us bz : Nat) : Int), aI cI bla 12 (wa bz), oF d dn du dl, oW du dua ((us dx : Nat) : Int), aI cI dua 12 (wa dx)]) S hGok hK hg hA (s_W_becomeProduct l dC dI cI cL qT au aua ((us ax : Nat) : Int) (wa ax) bu bua bx dl dla dz (fun j hj => wa_hi (by omega) hj) (by omega) (by omega) h1) (zcwV S (List.mem_cons_of_mem _ k_F_43) mV_W_becomeProduct k_F_43 hd_W_becomeProduct rfl rfl ⟨Nat.le_of_ble_eq_true rfl, Nat.le_of_ble_eq_true rfl⟩) rfl (Nat.le_of_ble_eq_true rfl) d_F_becomeQuotient_25 ⟨Nat.le_of_ble_eq_true rfl, Nat.le_of_ble_eq_true rfl⟩ rfl [1, 2, 6, 7, 13, 14] [0, 3, 4, 5, 8, 9, 10, 11, 12] 1 rfl rfl rfl (by decide) rfl rfl rfl (by decide) (by decide) (fun w hp => ?_)
  subst hp
  show ZZ _ _ _ _ _ _ _ _ _ _ _ _ _ _ _ _ _ _ 28 [(0, .ref a), (1, .ref b), (2, .ref d)] [] [oF a (bn * dn) au al, oW al ala ((us az : Nat) : Int), aI cI ala 12 (wa az), oF b bn bu bl, oW bl bla ((us bz : Nat) : Int), aI cI bla 12 (wa bz), oF d dn du dl, oW du dua ((us dx : Nat) : Int), aI cI dua 12 (wa dx), oW au aua ((us (bx * dz) : Nat) : Int), aI cI aua 12 (wa (bx * dz)), oW bu bua ((us bx : Nat) : Int), aI cI bua 12 (wa bx), oW dl dla ((us dz : Nat) : Int), aI cI dla 12 (wa dz)]
  refine z_aload_n S d_F_becomeQuotient_28 0 rfl ?_
  refine z_get S hK la_F 0 rfl rfl 2 (by decide) k_F_22 rfl d_F_becomeQuotient_29 ?_
  refine z_aload_n S d_F_becomeQuotient_32 1 rfl ?_
  refine z_get S hK la_F 3 rfl rfl 2 (by decide) k_F_22 rfl d_F_becomeQuotient_33 ?_
  refine z_aload_n S d_F_becomeQuotient_36 2 rfl ?_
  refine z_get S hK la_F 6 rfl rfl 1 (by decide) k_F_18 rfl d_F_becomeQuotient_37 ?_
  refine z_callVv (As := [.ref bl, .ref du]) (st := []) (wc := [oW al ala ((us az : Nat) : Int), aI cI ala 12 (wa az), oW bl bla ((us bz : Nat) : Int), aI cI bla 12 (wa bz), oW du dua ((us dx : Nat) : Int), aI cI dua 12 (wa dx)]) (wr := [oF a (bn * dn) au al, oF b bn bu bl, oF d dn du dl, oW au aua ((us (bx * dz) : Nat) : Int), aI cI aua 12 (wa (bx * dz)), oW bu bua ((us bx : Nat) : Int), aI cI bua 12 (wa bx), oW dl dla ((us dz : Nat) : Int), aI cI dla 12 (wa dz)]) S hGok hK hg hA (s_W_becomeProduct l dC dI cI cL qT al ala ((us az : Nat) : Int) (wa az) bl bla bz du dua dx (fun j hj => wa_hi (by omega) hj) (by omega) (by omega) h2) (zcwV S (List.mem_cons_of_mem _ k_F_43) mV_W_becomeProduct k_F_43 hd_W_becomeProduct rfl rfl ⟨Nat.le_of_ble_eq_true rfl, Nat.le_of_ble_eq_true rfl⟩) rfl (Nat.le_of_ble_eq_true rfl) d_F_becomeQuotient_40 ⟨Nat.le_of_ble_eq_true rfl, Nat.le_of_ble_eq_true rfl⟩ rfl [1, 2, 4, 5, 7, 8] [0, 3, 6, 9, 10, 11, 12, 13, 14] 1 rfl rfl rfl (by decide) rfl rfl rfl (by decide) (by decide) (fun w hp => ?_)
  subst hp
  show ZZ _ _ _ _ _ _ _ _ _ _ _ _ _ _ _ _ _ _ 43 [(0, .ref a), (1, .ref b), (2, .ref d)] [] [oF a (bn * dn) au al, oF b bn bu bl, oF d dn du dl, oW au aua ((us (bx * dz) : Nat) : Int), aI cI aua 12 (wa (bx * dz)), oW bu bua ((us bx : Nat) : Int), aI cI bua 12 (wa bx), oW dl dla ((us dz : Nat) : Int), aI cI dla 12 (wa dz), oW al ala ((us (bz * dx) : Nat) : Int), aI cI ala 12 (wa (bz * dx)), oW bl bla ((us bz : Nat) : Int), aI cI bla 12 (wa bz), oW du dua ((us dx : Nat) : Int), aI cI dua 12 (wa dx)]
  exact z_vret (w := [oF a (bn * dn) au al, oW au aua ((us (bx * dz) : Nat) : Int), aI cI aua 12 (wa (bx * dz)), oW al ala ((us (bz * dx) : Nat) : Int), aI cI ala 12 (wa (bz * dx)), oF b bn bu bl, oW bu bua ((us bx : Nat) : Int), aI cI bua 12 (wa bx), oW bl bla ((us bz : Nat) : Int), aI cI bla 12 (wa bz), oF d dn du dl, oW du dua ((us dx : Nat) : Int), aI cI dua 12 (wa dx), oW dl dla ((us dz : Nat) : Int), aI cI dla 12 (wa dz)]) S hr hlo hAe d_F_becomeQuotient_43 [0, 3, 4, 9, 10, 1, 5, 6, 11, 12, 2, 13, 14, 7, 8] (by decide) rfl rfl ⟨Nat.le_refl _, Nat.le_refl _⟩ (rfl)
set_option maxHeartbeats 4000000 in
set_option maxRecDepth 100000 in
theorem s_H_has (l : Launch) (dC : Nat → ClassId) (dI : Nat → Nat → Nat) (cI cL : ClassId) (qT : Nat) (h : Nat) (hl : Nat) (hs : Nat) (n : Nat) (a : Int) (hn : n ≤ 100) (ha : -2147483648 ≤ a ∧ a < 2147483648) : Ct l y_H_has (Cond.code y_H_has c_H_has 2 (some .boolean) :: zB) { frames := 0, cells := 0, slots := 0, locals := 0 } (dC, dI) zcl [(cI, .int), (cL, .long)] (zG cI cL qT) [.ref h, .int (zI a)] [oH h hl hs (n : Int)] (fun rv wv => rv = .int (zI (b2 (0 ≤ a ∧ a < (n : Int)))) ∧ wv = [oH h hl hs (n : Int)]) 0 0 := by
  refine Cm.ofZ (cc := c_H_has) (maxL := 2) (ret := (some .boolean)) (by decide) rfl (Nat.le_of_ble_eq_true rfl) rfl ?_
  intro p e s m below meth c A S hr hlo hnm hK hg hA hAe
  have hGok := zG_ok cI cL qT
  show ZZ _ _ _ _ _ _ _ _ _ _ _ _ _ _ _ _ _ _ 0 [(0, .ref h), (1, .int (zI a))] [] [oH h hl hs (n : Int)]
  refine z_iload_n S d_H_has_0 1 rfl ?_
  refine z_if_lt (tgt := 16) S d_H_has_1 (by decide) (by omega) (fun c1 => ?_) (fun c1 => ?_)
  · skip
    refine z_iconst S d_H_has_16 ?_
    exact z_zret (w := [oH h hl hs (n : Int)]) S hr hlo hAe (by first | exact Or.inl rfl | exact Or.inr rfl) d_H_has_17 [0] (by decide) rfl rfl ⟨Nat.le_refl _, Nat.le_refl _⟩ (⟨by rw [b2_f (by omega)], rfl⟩)
  · skip
    refine z_iload_n S d_H_has_4 1 rfl ?_
    refine z_aload_n S d_H_has_5 0 rfl ?_
    refine z_get S hK la_H 0 rfl rfl 2 (by decide) k_H_18 rfl d_H_has_6 ?_
    refine z_icmp_ge (tgt := 16) S d_H_has_9 (by decide) (by omega) (by omega) (fun c2 => ?_) (fun c2 => ?_)
    · skip
      refine z_iconst S d_H_has_16 ?_
      exact z_zret (w := [oH h hl hs (n : Int)]) S hr hlo hAe (by first | exact Or.inl rfl | exact Or.inr rfl) d_H_has_17 [0] (by decide) rfl rfl ⟨Nat.le_refl _, Nat.le_refl _⟩ (⟨by rw [b2_f (by omega)], rfl⟩)
    · skip
      refine z_iconst S d_H_has_12 ?_
      refine z_goto (tgt := 17) S d_H_has_13 (by decide) ?_
      exact z_zret (w := [oH h hl hs (n : Int)]) S hr hlo hAe (by first | exact Or.inl rfl | exact Or.inr rfl) d_H_has_17 [0] (by decide) rfl rfl ⟨Nat.le_refl _, Nat.le_refl _⟩ (⟨by rw [b2_t (by omega)], rfl⟩)
set_option maxHeartbeats 4000000 in
set_option maxRecDepth 100000 in
theorem s_H_hasRoomFor (l : Launch) (dC : Nat → ClassId) (dI : Nat → Nat → Nat) (cI cL : ClassId) (qT : Nat) (h : Nat) (hl : Nat) (hs : Nat) (n : Nat) (k : Nat) (hn : n ≤ 100) (hk : k ≤ 2) : Ct l y_H_hasRoomFor (Cond.code y_H_hasRoomFor c_H_hasRoomFor 2 (some .boolean) :: zB) { frames := 0, cells := 0, slots := 0, locals := 0 } (dC, dI) zcl [(cI, .int), (cL, .long)] (zG cI cL qT) [.ref h, .int (zI (k : Int))] [oH h hl hs (n : Int)] (fun rv wv => rv = .int (zI (b2 (n + k ≤ 100))) ∧ wv = [oH h hl hs (n : Int)]) 0 0 := by
  refine Cm.ofZ (cc := c_H_hasRoomFor) (maxL := 2) (ret := (some .boolean)) (by decide) rfl (Nat.le_of_ble_eq_true rfl) rfl ?_
  intro p e s m below meth c A S hr hlo hnm hK hg hA hAe
  have hGok := zG_ok cI cL qT
  show ZZ _ _ _ _ _ _ _ _ _ _ _ _ _ _ _ _ _ _ 0 [(0, .ref h), (1, .int (zI (k : Int)))] [] [oH h hl hs (n : Int)]
  refine z_aload_n S d_H_hasRoomFor_0 0 rfl ?_
  refine z_get S hK la_H 0 rfl rfl 2 (by decide) k_H_18 rfl d_H_hasRoomFor_1 ?_
  refine z_iload_n S d_H_hasRoomFor_4 1 rfl ?_
  refine z_iadd S d_H_hasRoomFor_5 ?_
  refine z_bipush S d_H_hasRoomFor_6 rfl ?_
  refine z_icmp_gt (tgt := 15) S d_H_hasRoomFor_8 (by decide) (by omega) (by omega) (fun c1 => ?_) (fun c1 => ?_)
  · skip
    refine z_iconst S d_H_hasRoomFor_15 ?_
    exact z_zret (w := [oH h hl hs (n : Int)]) S hr hlo hAe (by first | exact Or.inl rfl | exact Or.inr rfl) d_H_hasRoomFor_16 [0] (by decide) rfl rfl ⟨Nat.le_refl _, Nat.le_refl _⟩ (⟨by rw [b2_f (by omega)], rfl⟩)
  · skip
    refine z_iconst S d_H_hasRoomFor_11 ?_
    refine z_goto (tgt := 16) S d_H_hasRoomFor_12 (by decide) ?_
    exact z_zret (w := [oH h hl hs (n : Int)]) S hr hlo hAe (by first | exact Or.inl rfl | exact Or.inr rfl) d_H_hasRoomFor_16 [0] (by decide) rfl rfl ⟨Nat.le_refl _, Nat.le_refl _⟩ (⟨by rw [b2_t (by omega)], rfl⟩)
set_option maxHeartbeats 4000000 in
set_option maxRecDepth 100000 in
theorem s_H_fetchNumber (l : Launch) (dC : Nat → ClassId) (dI : Nat → Nat → Nat) (cI cL : ClassId) (qT : Nat) (h : Nat) (hl : Nat) (hs : Nat) (nn : Nat → Nat) (n : Nat) (k : Nat) (fr : Int) (r : Nat) (ra : Nat) (u : Int) (f : Nat → Int32) (hfr : fr = ((6 * k : Nat) : Int)) (hk : k < 200) (hv : nn k < 1000000000 ^ 6) (hf : ∀ j, 12 ≤ j → f j = zI 0) : Cv l y_H_fetchNumber (Cond.code y_H_fetchNumber c_H_fetchNumber 4 none :: zB) { frames := 1, cells := 0, slots := 0, locals := 21 } (dC, dI) zcl [(cI, .int), (cL, .long)] (zG cI cL qT) [.ref h, .int (zI fr), .ref r] [oH h hl hs (n : Int), aI cI hl 1200 (shA nn), oW r ra u, aI cI ra 12 f] (fun wv => wv = [oH h hl hs (n : Int), aI cI hl 1200 (shA nn), oW r ra ((us (nn k) : Nat) : Int), aI cI ra 12 (wa (nn k))]) 0 0 := by
  refine Cm.ofZ (cc := c_H_fetchNumber) (maxL := 4) (ret := none) (by decide) rfl (Nat.le_of_ble_eq_true rfl) rfl ?_
  intro p e s m below meth c A S hr hlo hnm hK hg hA hAe
  have hGok := zG_ok cI cL qT
  show ZZ _ _ _ _ _ _ _ _ _ _ _ _ _ _ _ _ _ _ 0 [(0, .ref h), (1, .int (zI fr)), (2, .ref r)] [] [oH h hl hs (n : Int), aI cI hl 1200 (shA nn), oW r ra u, aI cI ra 12 f]
  refine z_aload_n S d_H_fetchNumber_0 2 rfl ?_
  refine z_callVv (As := []) (st := []) (wc := [oW r ra u, aI cI ra 12 f]) (wr := [oH h hl hs (n : Int), aI cI hl 1200 (shA nn)]) S hGok hK hg hA (s_W_becomeZero l dC dI cI cL qT r ra u f hf) (zcwV S (List.mem_cons_of_mem _ k_H_42) mV_W_becomeZero k_H_42 hd_W_becomeZero rfl rfl ⟨Nat.le_of_ble_eq_true rfl, Nat.le_of_ble_eq_true rfl⟩) rfl (Nat.le_of_ble_eq_true rfl) d_H_fetchNumber_1 ⟨Nat.le_of_ble_eq_true rfl, Nat.le_of_ble_eq_true rfl⟩ rfl [2, 3] [0, 1] 2 rfl rfl rfl (by decide) rfl rfl rfl (by decide) (by decide) (fun w hp => ?_)
  subst hp
  show ZZ _ _ _ _ _ _ _ _ _ _ _ _ _ _ _ _ _ _ 4 [(0, .ref h), (1, .int (zI fr)), (2, .ref r)] [] [oH h hl hs (n : Int), aI cI hl 1200 (shA nn), oW r ra ((us 0 : Nat) : Int), aI cI ra 12 (wa 0)]
  refine z_iconst S d_H_fetchNumber_4 ?_
  refine z_istore_n (lv' := [(3, .int (zI 0)), (0, .ref h), (1, .int (zI fr)), (2, .ref r)]) S d_H_fetchNumber_5 rfl (by decide) rfl ?_
  refine z_lv (lv' := [(0, .ref h), (1, .int (zI fr)), (2, .ref r), (3, .int (zI 0))]) [1, 2, 3, 0] rfl ?_
  refine z_wq (ws' := [oH h hl hs (n : Int), aI cI hl 1200 (shA nn), oW r ra ((us 0 : Nat) : Int), aI cI ra 12 (mx (wa (nn k)) (wa 0) 0)]) (by rw [mx_0]) ?_
  refine z_lq (lv' := [(0, .ref h), (1, .int (zI fr)), (2, .ref r), (3, .int (zI ((0 : Nat) : Int)))]) (congrArg (fun zzz : Int => ([(0, .ref h), (1, .int (zI fr)), (2, .ref r), (3, .int (zI zzz))] : List (Nat × Value))) (show (0 : Int) = ((0 : Nat) : Int) by omega)) ?_
  refine z_loop (I := fun (i : Nat) => (i ≤ 6)) (μ := fun (i : Nat) => 6 - i) (LV := fun (i : Nat) => [(0, .ref h), (1, .int (zI fr)), (2, .ref r), (3, .int (zI (i : Int)))]) (WS := fun (i : Nat) => [oH h hl hs (n : Int), aI cI hl 1200 (shA nn), oW r ra ((us 0 : Nat) : Int), aI cI ra 12 (mx (wa (nn k)) (wa 0) i)]) (a := 0) ?_ ?_
  · exact (show (0 ≤ 6) from by omega)
  · intro i hI ih6
    have hi : i ≤ 6 := hI
    show ZZ _ _ _ _ _ _ _ _ _ _ _ _ _ _ _ _ _ _ 6 [(0, .ref h), (1, .int (zI fr)), (2, .ref r), (3, .int (zI (i : Int)))] [] [oH h hl hs (n : Int), aI cI hl 1200 (shA nn), oW r ra ((us 0 : Nat) : Int), aI cI ra 12 (mx (wa (nn k)) (wa 0) i)]
    refine z_iload_n S d_H_fetchNumber_6 3 rfl ?_
    refine z_bipush S d_H_fetchNumber_7 rfl ?_
    refine z_icmp_ge (tgt := 32) S d_H_fetchNumber_9 (by decide) (by omega) (by omega) (fun c1 => ?_) (fun c1 => ?_)
    · skip
      refine z_wq (ws' := [oH h hl hs (n : Int), aI cI hl 1200 (shA nn), oW r ra ((us 0 : Nat) : Int), aI cI ra 12 (wa (nn k))]) (by rw [show i = 6 by omega, mx_e (wa6 hv)]) ?_
      refine z_aload_n S d_H_fetchNumber_32 2 rfl ?_
      refine z_bipush S d_H_fetchNumber_33 rfl ?_
      refine z_callVNv (As := [.int (zI 6)]) (st := []) (wc := [oW r ra ((us 0 : Nat) : Int), aI cI ra 12 (wa (nn k))]) (wr := [oH h hl hs (n : Int), aI cI hl 1200 (shA nn)]) S hGok hK hg hA (s_W_dropZerosFrom l dC dI cI cL qT r ra ((us 0 : Nat) : Int) (nn k) 6 hv (by omega)) (zcwVN S hg kn_H_48 mV_W_dropZerosFrom hd_W_dropZerosFrom rfl rfl ⟨Nat.le_of_ble_eq_true rfl, Nat.le_of_ble_eq_true rfl⟩) rfl (Nat.le_of_ble_eq_true rfl) d_H_fetchNumber_35 ⟨Nat.le_of_ble_eq_true rfl, Nat.le_of_ble_eq_true rfl⟩ rfl [2, 3] [0, 1] 2 rfl rfl rfl (by decide) rfl rfl rfl (by decide) (by decide) (fun w hp => ?_)
      subst hp
      show ZZ _ _ _ _ _ _ _ _ _ _ _ _ _ _ _ _ _ _ 38 [(0, .ref h), (1, .int (zI fr)), (2, .ref r), (3, .int (zI (i : Int)))] [] [oH h hl hs (n : Int), aI cI hl 1200 (shA nn), oW r ra ((us (nn k) : Nat) : Int), aI cI ra 12 (wa (nn k))]
      exact z_vret (w := [oH h hl hs (n : Int), aI cI hl 1200 (shA nn), oW r ra ((us (nn k) : Nat) : Int), aI cI ra 12 (wa (nn k))]) S hr hlo hAe d_H_fetchNumber_38 [0, 1, 2, 3] (by decide) rfl rfl ⟨Nat.le_refl _, Nat.le_refl _⟩ (rfl)
    · skip
      refine z_aload_n S d_H_fetchNumber_12 2 rfl ?_
      refine z_getN S hK la_W 2 rfl rfl 0 (by decide) (hg.1 _ kn_H_47) rfl d_H_fetchNumber_13 ?_
      refine z_iload_n S d_H_fetchNumber_16 3 rfl ?_
      refine z_aload_n S d_H_fetchNumber_17 0 rfl ?_
      refine z_get S hK la_H 0 rfl rfl 0 (by decide) k_H_9 rfl d_H_fetchNumber_18 ?_
      refine z_iload_n S d_H_fetchNumber_21 1 rfl ?_
      refine z_iload_n S d_H_fetchNumber_22 3 rfl ?_
      refine z_iadd S d_H_fetchNumber_23 ?_
      refine z_iald (x := ((dg 1000000000 (nn k) i : Nat) : Int)) S hK 1 0 rfl rfl (6 * k + i) (by omega) (by omega) (by decide) (shA_at nn (by omega)) d_H_fetchNumber_24 ?_
      refine z_iast (f' := mx (wa (nn k)) (wa 0) (i + 1)) (ws' := [oH h hl hs (n : Int), aI cI hl 1200 (shA nn), oW r ra ((us 0 : Nat) : Int), aI cI ra 12 (mx (wa (nn k)) (wa 0) (i + 1))]) S hK 3 0 rfl rfl i rfl (by omega) (by decide) (mx_up rfl) rfl d_H_fetchNumber_25 ?_
      refine z_iinc (y := ((i + 1 : Nat) : Int)) (lv' := [(3, .int (zI ((i + 1 : Nat) : Int))), (0, .ref h), (1, .int (zI fr)), (2, .ref r)]) S d_H_fetchNumber_26 3 rfl (by omega) (by decide) rfl ?_
      refine z_goto (tgt := 6) S d_H_fetchNumber_29 (by decide) ?_
      refine z_lv (lv' := [(0, .ref h), (1, .int (zI fr)), (2, .ref r), (3, .int (zI ((i + 1 : Nat) : Int)))]) [1, 2, 3, 0] rfl ?_
      exact ih6 (i + 1) (show ((i + 1) ≤ 6) from by omega) (show 6 - (i + 1) < 6 - i from by omega)
set_option maxHeartbeats 4000000 in
set_option maxRecDepth 100000 in
theorem s_H_keepNumber (l : Launch) (dC : Nat → ClassId) (dI : Nat → Nat → Nat) (cI cL : ClassId) (qT : Nat) (h : Nat) (hl : Nat) (hs : Nat) (nn : Nat → Nat) (n : Nat) (k : Nat) (to : Int) (r : Nat) (ra : Nat) (v : Nat) (hto : to = ((6 * k : Nat) : Int)) (hk : k < 200) : Cv l y_H_keepNumber (Cond.code y_H_keepNumber c_H_keepNumber 4 none :: zB) { frames := 0, cells := 0, slots := 0, locals := 0 } (dC, dI) zcl [(cI, .int), (cL, .long)] (zG cI cL qT) [.ref h, .ref r, .int (zI to)] [oH h hl hs (n : Int), aI cI hl 1200 (shA nn), oW r ra ((us v : Nat) : Int), aI cI ra 12 (wa v)] (fun wv => wv = [oH h hl hs (n : Int), aI cI hl 1200 (shA (un nn k v)), oW r ra ((us v : Nat) : Int), aI cI ra 12 (wa v)]) 0 0 := by
  refine Cm.ofZ (cc := c_H_keepNumber) (maxL := 4) (ret := none) (by decide) rfl (Nat.le_of_ble_eq_true rfl) rfl ?_
  intro p e s m below meth c A S hr hlo hnm hK hg hA hAe
  have hGok := zG_ok cI cL qT
  show ZZ _ _ _ _ _ _ _ _ _ _ _ _ _ _ _ _ _ _ 0 [(0, .ref h), (1, .ref r), (2, .int (zI to))] [] [oH h hl hs (n : Int), aI cI hl 1200 (shA nn), oW r ra ((us v : Nat) : Int), aI cI ra 12 (wa v)]
  refine z_iconst S d_H_keepNumber_0 ?_
  refine z_istore_n (lv' := [(3, .int (zI 0)), (0, .ref h), (1, .ref r), (2, .int (zI to))]) S d_H_keepNumber_1 rfl (by decide) rfl ?_
  refine z_lv (lv' := [(0, .ref h), (1, .ref r), (2, .int (zI to)), (3, .int (zI 0))]) [1, 2, 3, 0] rfl ?_
  refine z_wq (ws' := [oH h hl hs (n : Int), aI cI hl 1200 (shM nn k v 0), oW r ra ((us v : Nat) : Int), aI cI ra 12 (wa v)]) (by rw [shM_0]) ?_
  refine z_lq (lv' := [(0, .ref h), (1, .ref r), (2, .int (zI to)), (3, .int (zI ((0 : Nat) : Int)))]) (congrArg (fun zzz : Int => ([(0, .ref h), (1, .ref r), (2, .int (zI to)), (3, .int (zI zzz))] : List (Nat × Value))) (show (0 : Int) = ((0 : Nat) : Int) by omega)) ?_
  refine z_loop (I := fun (i : Nat) => (i ≤ 6)) (μ := fun (i : Nat) => 6 - i) (LV := fun (i : Nat) => [(0, .ref h), (1, .ref r), (2, .int (zI to)), (3, .int (zI (i : Int)))]) (WS := fun (i : Nat) => [oH h hl hs (n : Int), aI cI hl 1200 (shM nn k v i), oW r ra ((us v : Nat) : Int), aI cI ra 12 (wa v)]) (a := 0) ?_ ?_
  · exact (show (0 ≤ 6) from by omega)
  · intro i hI ih2
    have hi : i ≤ 6 := hI
    show ZZ _ _ _ _ _ _ _ _ _ _ _ _ _ _ _ _ _ _ 2 [(0, .ref h), (1, .ref r), (2, .int (zI to)), (3, .int (zI (i : Int)))] [] [oH h hl hs (n : Int), aI cI hl 1200 (shM nn k v i), oW r ra ((us v : Nat) : Int), aI cI ra 12 (wa v)]
    refine z_iload_n S d_H_keepNumber_2 3 rfl ?_
    refine z_bipush S d_H_keepNumber_3 rfl ?_
    refine z_icmp_ge (tgt := 28) S d_H_keepNumber_5 (by decide) (by omega) (by omega) (fun c1 => ?_) (fun c1 => ?_)
    · skip
      refine z_wq (ws' := [oH h hl hs (n : Int), aI cI hl 1200 (shA (un nn k v)), oW r ra ((us v : Nat) : Int), aI cI ra 12 (wa v)]) (by rw [show i = 6 by omega, shM_6]) ?_
      exact z_vret (w := [oH h hl hs (n : Int), aI cI hl 1200 (shA (un nn k v)), oW r ra ((us v : Nat) : Int), aI cI ra 12 (wa v)]) S hr hlo hAe d_H_keepNumber_28 [0, 1, 2, 3] (by decide) rfl rfl ⟨Nat.le_refl _, Nat.le_refl _⟩ (rfl)
    · skip
      refine z_aload_n S d_H_keepNumber_8 0 rfl ?_
      refine z_get S hK la_H 0 rfl rfl 0 (by decide) k_H_9 rfl d_H_keepNumber_9 ?_
      refine z_iload_n S d_H_keepNumber_12 2 rfl ?_
      refine z_iload_n S d_H_keepNumber_13 3 rfl ?_
      refine z_iadd S d_H_keepNumber_14 ?_
      refine z_aload_n S d_H_keepNumber_15 1 rfl ?_
      refine z_getN S hK la_W 2 rfl rfl 0 (by decide) (hg.1 _ kn_H_47) rfl d_H_keepNumber_16 ?_
      refine z_iload_n S d_H_keepNumber_19 3 rfl ?_
      refine z_iald (x := ((dg 1000000000 v i : Nat) : Int)) S hK 3 0 rfl rfl i rfl (by omega) (by decide) rfl d_H_keepNumber_20 ?_
      refine z_iast (f' := shM nn k v (i + 1)) (ws' := [oH h hl hs (n : Int), aI cI hl 1200 (shM nn k v (i + 1)), oW r ra ((us v : Nat) : Int), aI cI ra 12 (wa v)]) S hK 1 0 rfl rfl (6 * k + i) (by omega) (by omega) (by decide) (shM_s rfl) rfl d_H_keepNumber_21 ?_
      refine z_iinc (y := ((i + 1 : Nat) : Int)) (lv' := [(3, .int (zI ((i + 1 : Nat) : Int))), (0, .ref h), (1, .ref r), (2, .int (zI to))]) S d_H_keepNumber_22 3 rfl (by omega) (by decide) rfl ?_
      refine z_goto (tgt := 2) S d_H_keepNumber_25 (by decide) ?_
      refine z_lv (lv' := [(0, .ref h), (1, .ref r), (2, .int (zI to)), (3, .int (zI ((i + 1 : Nat) : Int)))]) [1, 2, 3, 0] rfl ?_
      exact ih2 (i + 1) (show ((i + 1) ≤ 6) from by omega) (show 6 - (i + 1) < 6 - i from by omega)
set_option maxHeartbeats 4000000 in
set_option maxRecDepth 100000 in
theorem s_H_fetch (l : Launch) (dC : Nat → ClassId) (dI : Nat → Nat → Nat) (cI cL : ClassId) (qT : Nat) (h : Nat) (hl : Nat) (hs : Nat) (nn : Nat → Nat) (sg : Nat → Int) (n : Nat) (k : Nat) (a : Nat) (an : Int) (au : Nat) (aua : Nat) (ax : Nat) (al : Nat) (ala : Nat) (az : Nat) (hk : k < 100) (hv1 : nn (2 * k) < 1000000000 ^ 6) (hv2 : nn (2 * k + 1) < 1000000000 ^ 6) (hax : ax < 1000000000 ^ 12) (haz : az < 1000000000 ^ 12) : Cv l y_H_fetch (Cond.code y_H_fetch c_H_fetch 3 none :: zB) { frames := 2, cells := 0, slots := 0, locals := 44 } (dC, dI) zcl [(cI, .int), (cL, .long)] (zG cI cL qT) [.ref h, .int (zI (k : Int)), .ref a] [oH h hl hs (n : Int), aI cI hl 1200 (shA nn), aI cI hs 100 (sgA sg), oF a an au al, oW au aua ((us ax : Nat) : Int), aI cI aua 12 (wa ax), oW al ala ((us az : Nat) : Int), aI cI ala 12 (wa az)] (fun wv => wv = [oH h hl hs (n : Int), aI cI hl 1200 (shA nn), aI cI hs 100 (sgA sg), oF a (sg k) au al, oW au aua ((us (nn (2 * k)) : Nat) : Int), aI cI aua 12 (wa (nn (2 * k))), oW al ala ((us (nn (2 * k + 1)) : Nat) : Int), aI cI ala 12 (wa (nn (2 * k + 1)))]) 0 0 := by
  refine Cm.ofZ (cc := c_H_fetch) (maxL := 3) (ret := none) (by decide) rfl (Nat.le_of_ble_eq_true rfl) rfl ?_
  intro p e s m below meth c A S hr hlo hnm hK hg hA hAe
  have hGok := zG_ok cI cL qT
  show ZZ _ _ _ _ _ _ _ _ _ _ _ _ _ _ _ _ _ _ 0 [(0, .ref h), (1, .int (zI (k : Int))), (2, .ref a)] [] [oH h hl hs (n : Int), aI cI hl 1200 (shA nn), aI cI hs 100 (sgA sg), oF a an au al, oW au aua ((us ax : Nat) : Int), aI cI aua 12 (wa ax), oW al ala ((us az : Nat) : Int), aI cI ala 12 (wa az)]
  refine z_aload_n S d_H_fetch_0 2 rfl ?_
  refine z_aload_n S d_H_fetch_1 0 rfl ?_
  refine z_get S hK la_H 0 rfl rfl 1 (by decide) k_H_15 rfl d_H_fetch_2 ?_
  refine z_iload_n S d_H_fetch_5 1 rfl ?_
  refine z_iald (x := sg k) S hK 2 0 rfl rfl k rfl (by omega) (by decide) rfl d_H_fetch_6 ?_
  refine z_putN (ws' := [oH h hl hs (n : Int), aI cI hl 1200 (shA nn), aI cI hs 100 (sgA sg), oF a (sg k) au al, oW au aua ((us ax : Nat) : Int), aI cI aua 12 (wa ax), oW al ala ((us az : Nat) : Int), aI cI ala 12 (wa az)]) S hK la_F ty_F tyok_F nm_F 3 rfl rfl 0 (by decide) (hg.1 _ kn_H_22) rfl (ty := .int) (by decide +kernel) rfl rfl (Nat.le_of_ble_eq_true rfl) rfl d_H_fetch_7 ?_
  refine z_aload_n S d_H_fetch_10 0 rfl ?_
  refine z_iconst S d_H_fetch_11 ?_
  refine z_iload_n S d_H_fetch_12 1 rfl ?_
  refine z_imul S d_H_fetch_13 ?_
  refine z_bipush S d_H_fetch_14 rfl ?_
  refine z_imul S d_H_fetch_16 ?_
  refine z_aload_n S d_H_fetch_17 2 rfl ?_
  refine z_getN S hK la_F 3 rfl rfl 1 (by decide) (hg.1 _ kn_H_27) rfl d_H_fetch_18 ?_
  refine z_topi2 (fun x1 ex1 => ?_)
  refine z_callVv (As := [.int (zI x1), .ref au]) (st := []) (wc := [oH h hl hs (n : Int), aI cI hl 1200 (shA nn), oW au aua ((us ax : Nat) : Int), aI cI aua 12 (wa ax)]) (wr := [aI cI hs 100 (sgA sg), oF a (sg k) au al, oW al ala ((us az : Nat) : Int), aI cI ala 12 (wa az)]) S hGok hK hg hA (s_H_fetchNumber l dC dI cI cL qT h hl hs nn n (2 * k) x1 au aua ((us ax : Nat) : Int) (wa ax) (by omega) (by omega) hv1 (fun j hj => wa_hi (by omega) hj)) (zcwV S (List.mem_cons_of_mem _ k_H_31) mV_H_fetchNumber k_H_31 hd_H_fetchNumber rfl rfl ⟨Nat.le_of_ble_eq_true rfl, Nat.le_of_ble_eq_true rfl⟩) rfl (Nat.le_of_ble_eq_true rfl) d_H_fetch_21 ⟨Nat.le_of_ble_eq_true rfl, Nat.le_of_ble_eq_true rfl⟩ rfl [0, 1, 4, 5] [2, 3, 6, 7] 0 rfl rfl rfl (by decide) rfl rfl rfl (by decide) (by decide) (fun w hp => ?_)
  subst hp
  show ZZ _ _ _ _ _ _ _ _ _ _ _ _ _ _ _ _ _ _ 24 [(0, .ref h), (1, .int (zI (k : Int))), (2, .ref a)] [] [aI cI hs 100 (sgA sg), oF a (sg k) au al, oW al ala ((us az : Nat) : Int), aI cI ala 12 (wa az), oH h hl hs (n : Int), aI cI hl 1200 (shA nn), oW au aua ((us (nn (2 * k)) : Nat) : Int), aI cI aua 12 (wa (nn (2 * k)))]
  refine z_aload_n S d_H_fetch_24 0 rfl ?_
  refine z_iconst S d_H_fetch_25 ?_
  refine z_iload_n S d_H_fetch_26 1 rfl ?_
  refine z_imul S d_H_fetch_27 ?_
  refine z_iconst S d_H_fetch_28 ?_
  refine z_iadd S d_H_fetch_29 ?_
  refine z_bipush S d_H_fetch_30 rfl ?_
  refine z_imul S d_H_fetch_32 ?_
  refine z_aload_n S d_H_fetch_33 2 rfl ?_
  refine z_getN S hK la_F 1 rfl rfl 2 (by decide) (hg.1 _ kn_H_35) rfl d_H_fetch_34 ?_
  refine z_topi2 (fun x2 ex2 => ?_)
  refine z_callVv (As := [.int (zI x2), .ref al]) (st := []) (wc := [oH h hl hs (n : Int), aI cI hl 1200 (shA nn), oW al ala ((us az : Nat) : Int), aI cI ala 12 (wa az)]) (wr := [aI cI hs 100 (sgA sg), oF a (sg k) au al, oW au aua ((us (nn (2 * k)) : Nat) : Int), aI cI aua 12 (wa (nn (2 * k)))]) S hGok hK hg hA (s_H_fetchNumber l dC dI cI cL qT h hl hs nn n (2 * k + 1) x2 al ala ((us az : Nat) : Int) (wa az) (by omega) (by omega) hv2 (fun j hj => wa_hi (by omega) hj)) (zcwV S (List.mem_cons_of_mem _ k_H_31) mV_H_fetchNumber k_H_31 hd_H_fetchNumber rfl rfl ⟨Nat.le_of_ble_eq_true rfl, Nat.le_of_ble_eq_true rfl⟩) rfl (Nat.le_of_ble_eq_true rfl) d_H_fetch_37 ⟨Nat.le_of_ble_eq_true rfl, Nat.le_of_ble_eq_true rfl⟩ rfl [4, 5, 2, 3] [0, 1, 6, 7] 4 rfl rfl rfl (by decide) rfl rfl rfl (by decide) (by decide) (fun w hp => ?_)
  subst hp
  show ZZ _ _ _ _ _ _ _ _ _ _ _ _ _ _ _ _ _ _ 40 [(0, .ref h), (1, .int (zI (k : Int))), (2, .ref a)] [] [aI cI hs 100 (sgA sg), oF a (sg k) au al, oW au aua ((us (nn (2 * k)) : Nat) : Int), aI cI aua 12 (wa (nn (2 * k))), oH h hl hs (n : Int), aI cI hl 1200 (shA nn), oW al ala ((us (nn (2 * k + 1)) : Nat) : Int), aI cI ala 12 (wa (nn (2 * k + 1)))]
  exact z_vret (w := [oH h hl hs (n : Int), aI cI hl 1200 (shA nn), aI cI hs 100 (sgA sg), oF a (sg k) au al, oW au aua ((us (nn (2 * k)) : Nat) : Int), aI cI aua 12 (wa (nn (2 * k))), oW al ala ((us (nn (2 * k + 1)) : Nat) : Int), aI cI ala 12 (wa (nn (2 * k + 1)))]) S hr hlo hAe d_H_fetch_40 [4, 5, 0, 1, 2, 3, 6, 7] (by decide) rfl rfl ⟨Nat.le_refl _, Nat.le_refl _⟩ (rfl)
set_option maxHeartbeats 4000000 in
set_option maxRecDepth 100000 in
theorem s_H_keep (l : Launch) (dC : Nat → ClassId) (dI : Nat → Nat → Nat) (cI cL : ClassId) (qT : Nat) (h : Nat) (hl : Nat) (hs : Nat) (nn : Nat → Nat) (sg : Nat → Int) (n : Nat) (a : Nat) (an : Int) (au : Nat) (aua : Nat) (ax : Nat) (al : Nat) (ala : Nat) (az : Nat) (hn : n < 100) : Ct l y_H_keep (Cond.code y_H_keep c_H_keep 3 (some .int) :: zB) { frames := 1, cells := 0, slots := 0, locals := 23 } (dC, dI) zcl [(cI, .int), (cL, .long)] (zG cI cL qT) [.ref h, .ref a] [oH h hl hs (n : Int), aI cI hl 1200 (shA nn), aI cI hs 100 (sgA sg), oF a an au al, oW au aua ((us ax : Nat) : Int), aI cI aua 12 (wa ax), oW al ala ((us az : Nat) : Int), aI cI ala 12 (wa az)] (fun rv wv => rv = .int (zI (n : Int)) ∧ wv = [oH h hl hs ((n + 1 : Nat) : Int), aI cI hl 1200 (shA (un (un nn (2 * n) ax) (2 * n + 1) az)), aI cI hs 100 (sgA (uz sg n an)), oF a an au al, oW au aua ((us ax : Nat) : Int), aI cI aua 12 (wa ax), oW al ala ((us az : Nat) : Int), aI cI ala 12 (wa az)]) 0 0 := by
  refine Cm.ofZ (cc := c_H_keep) (maxL := 3) (ret := (some .int)) (by decide) rfl (Nat.le_of_ble_eq_true rfl) rfl ?_
  intro p e s m below meth c A S hr hlo hnm hK hg hA hAe
  have hGok := zG_ok cI cL qT
  show ZZ _ _ _ _ _ _ _ _ _ _ _ _ _ _ _ _ _ _ 0 [(0, .ref h), (1, .ref a)] [] [oH h hl hs (n : Int), aI cI hl 1200 (shA nn), aI cI hs 100 (sgA sg), oF a an au al, oW au aua ((us ax : Nat) : Int), aI cI aua 12 (wa ax), oW al ala ((us az : Nat) : Int), aI cI ala 12 (wa az)]
  refine z_aload_n S d_H_keep_0 0 rfl ?_
  refine z_get S hK la_H 0 rfl rfl 2 (by decide) k_H_18 rfl d_H_keep_1 ?_
  refine z_istore_n (lv' := [(2, .int (zI (n : Int))), (0, .ref h), (1, .ref a)]) S d_H_keep_4 rfl (by decide) rfl ?_
  refine z_aload_n S d_H_keep_5 1 rfl ?_
  refine z_get S hK la_H 0 rfl rfl 1 (by decide) k_H_15 rfl d_H_keep_6 ?_
  refine z_iload_n S d_H_keep_9 0 rfl ?_
  refine z_aload_n S d_H_keep_10 2 rfl ?_
  refine z_getN S hK la_F 3 rfl rfl 0 (by decide) (hg.1 _ kn_H_22) rfl d_H_keep_11 ?_
  refine z_iast (f' := sgA (uz sg n an)) (ws' := [oH h hl hs (n : Int), aI cI hl 1200 (shA nn), aI cI hs 100 (sgA (uz sg n an)), oF a an au al, oW au aua ((us ax : Nat) : Int), aI cI aua 12 (wa ax), oW al ala ((us az : Nat) : Int), aI cI ala 12 (wa az)]) S hK 2 0 rfl rfl n rfl (by omega) (by decide) (sgA_u rfl) rfl d_H_keep_14 ?_
  refine z_aload_n S d_H_keep_15 1 rfl ?_
  refine z_aload_n S d_H_keep_16 2 rfl ?_
  refine z_getN S hK la_F 3 rfl rfl 1 (by decide) (hg.1 _ kn_H_27) rfl d_H_keep_17 ?_
  refine z_iconst S d_H_keep_20 ?_
  refine z_iload_n S d_H_keep_21 0 rfl ?_
  refine z_imul S d_H_keep_22 ?_
  refine z_bipush S d_H_keep_23 rfl ?_
  refine z_imul S d_H_keep_25 ?_
  refine z_topi (fun x1 ex1 => ?_)
  refine z_callVv (As := [.ref au, .int (zI x1)]) (st := []) (wc := [oH h hl hs (n : Int), aI cI hl 1200 (shA nn), oW au aua ((us ax : Nat) : Int), aI cI aua 12 (wa ax)]) (wr := [aI cI hs 100 (sgA (uz sg n an)), oF a an au al, oW al ala ((us az : Nat) : Int), aI cI ala 12 (wa az)]) S hGok hK hg hA (s_H_keepNumber l dC dI cI cL qT h hl hs nn n (2 * n) x1 au aua ax (by omega) (by omega)) (zcwV S (List.mem_cons_of_mem _ k_H_38) mV_H_keepNumber k_H_38 hd_H_keepNumber rfl rfl ⟨Nat.le_of_ble_eq_true rfl, Nat.le_of_ble_eq_true rfl⟩) rfl (Nat.le_of_ble_eq_true rfl) d_H_keep_26 ⟨Nat.le_of_ble_eq_true rfl, Nat.le_of_ble_eq_true rfl⟩ rfl [0, 1, 4, 5] [2, 3, 6, 7] 0 rfl rfl rfl (by decide) rfl rfl rfl (by decide) (by decide) (fun w hp => ?_)
  subst hp
  show ZZ _ _ _ _ _ _ _ _ _ _ _ _ _ _ _ _ _ _ 29 [(2, .int (zI (n : Int))), (0, .ref h), (1, .ref a)] [] [aI cI hs 100 (sgA (uz sg n an)), oF a an au al, oW al ala ((us az : Nat) : Int), aI cI ala 12 (wa az), oH h hl hs (n : Int), aI cI hl 1200 (shA (un nn (2 * n) ax)), oW au aua ((us ax : Nat) : Int), aI cI aua 12 (wa ax)]
  refine z_aload_n S d_H_keep_29 1 rfl ?_
  refine z_aload_n S d_H_keep_30 2 rfl ?_
  refine z_getN S hK la_F 1 rfl rfl 2 (by decide) (hg.1 _ kn_H_35) rfl d_H_keep_31 ?_
  refine z_iconst S d_H_keep_34 ?_
  refine z_iload_n S d_H_keep_35 0 rfl ?_
  refine z_imul S d_H_keep_36 ?_
  refine z_iconst S d_H_keep_37 ?_
  refine z_iadd S d_H_keep_38 ?_
  refine z_bipush S d_H_keep_39 rfl ?_
  refine z_imul S d_H_keep_41 ?_
  refine z_topi (fun x2 ex2 => ?_)
  refine z_callVv (As := [.ref al, .int (zI x2)]) (st := []) (wc := [oH h hl hs (n : Int), aI cI hl 1200 (shA (un nn (2 * n) ax)), oW al ala ((us az : Nat) : Int), aI cI ala 12 (wa az)]) (wr := [aI cI hs 100 (sgA (uz sg n an)), oF a an au al, oW au aua ((us ax : Nat) : Int), aI cI aua 12 (wa ax)]) S hGok hK hg hA (s_H_keepNumber l dC dI cI cL qT h hl hs (un nn (2 * n) ax) n (2 * n + 1) x2 al ala az (by omega) (by omega)) (zcwV S (List.mem_cons_of_mem _ k_H_38) mV_H_keepNumber k_H_38 hd_H_keepNumber rfl rfl ⟨Nat.le_of_ble_eq_true rfl, Nat.le_of_ble_eq_true rfl⟩) rfl (Nat.le_of_ble_eq_true rfl) d_H_keep_42 ⟨Nat.le_of_ble_eq_true rfl, Nat.le_of_ble_eq_true rfl⟩ rfl [4, 5, 2, 3] [0, 1, 6, 7] 4 rfl rfl rfl (by decide) rfl rfl rfl (by decide) (by decide) (fun w hp => ?_)
  subst hp
  show ZZ _ _ _ _ _ _ _ _ _ _ _ _ _ _ _ _ _ _ 45 [(2, .int (zI (n : Int))), (0, .ref h), (1, .ref a)] [] [aI cI hs 100 (sgA (uz sg n an)), oF a an au al, oW au aua ((us ax : Nat) : Int), aI cI aua 12 (wa ax), oH h hl hs (n : Int), aI cI hl 1200 (shA (un (un nn (2 * n) ax) (2 * n + 1) az)), oW al ala ((us az : Nat) : Int), aI cI ala 12 (wa az)]
  refine z_aload_n S d_H_keep_45 1 rfl ?_
  refine z_dup S d_H_keep_46 rfl ?_
  refine z_get S hK la_H 4 rfl rfl 2 (by decide) k_H_18 rfl d_H_keep_47 ?_
  refine z_iconst S d_H_keep_50 ?_
  refine z_iadd S d_H_keep_51 ?_
  refine z_put (ws' := [aI cI hs 100 (sgA (uz sg n an)), oF a an au al, oW au aua ((us ax : Nat) : Int), aI cI aua 12 (wa ax), oH h hl hs ((n : Int) + 1), aI cI hl 1200 (shA (un (un nn (2 * n) ax) (2 * n + 1) az)), oW al ala ((us az : Nat) : Int), aI cI ala 12 (wa az)]) S hK la_H ty_H tyok_H nm_H 4 rfl rfl 2 (by decide) k_H_18 rfl (ty := .int) (by decide +kernel) rfl rfl (Nat.le_of_ble_eq_true rfl) rfl d_H_keep_52 ?_
  refine z_wq (ws' := [aI cI hs 100 (sgA (uz sg n an)), oF a an au al, oW au aua ((us ax : Nat) : Int), aI cI aua 12 (wa ax), oH h hl hs ((n + 1 : Nat) : Int), aI cI hl 1200 (shA (un (un nn (2 * n) ax) (2 * n + 1) az)), oW al ala ((us az : Nat) : Int), aI cI ala 12 (wa az)]) (by rw [show (n : Int) + 1 = ((n + 1 : Nat) : Int) by omega]) ?_
  refine z_iload_n S d_H_keep_55 0 rfl ?_
  exact z_iret (w := [oH h hl hs ((n + 1 : Nat) : Int), aI cI hl 1200 (shA (un (un nn (2 * n) ax) (2 * n + 1) az)), aI cI hs 100 (sgA (uz sg n an)), oF a an au al, oW au aua ((us ax : Nat) : Int), aI cI aua 12 (wa ax), oW al ala ((us az : Nat) : Int), aI cI ala 12 (wa az)]) S hr hlo hAe d_H_keep_56 [4, 5, 0, 1, 2, 3, 6, 7] (by decide) rfl rfl ⟨Nat.le_refl _, Nat.le_refl _⟩ (⟨rfl, rfl⟩)
