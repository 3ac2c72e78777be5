theorem df_P : ∀ j, j < 4 → defaultValue (ft_P j) = vp_V [.null, .null, .null, .int 0] j := fun j hj => match j, hj with
  | 0, _ => rfl
  | 1, _ => rfl
  | 2, _ => rfl
  | 3, _ => rfl
  | (n + 4), h => absurd h (by omega)
theorem df_J : ∀ j, j < 5 → defaultValue (ft_J j) = vp_V [.null, .int 0, .int 0, .int 0, .int 0] j := fun j hj => match j, hj with
  | 0, _ => rfl
  | 1, _ => rfl
  | 2, _ => rfl
  | 3, _ => rfl
  | 4, _ => rfl
  | (n + 5), h => absurd h (by omega)
theorem df_R : ∀ j, j < 6 → defaultValue (ft_R j) = vp_V [.null, .null, .int 0, .int 0, .int 0, .int 0] j := fun j hj => match j, hj with
  | 0, _ => rfl
  | 1, _ => rfl
  | 2, _ => rfl
  | 3, _ => rfl
  | 4, _ => rfl
  | 5, _ => rfl
  | (n + 6), h => absurd h (by omega)
theorem df_T : ∀ j, j < 2 → defaultValue (ft_T j) = vp_V [.null, .int 0] j := fun j hj => match j, hj with
  | 0, _ => rfl
  | 1, _ => rfl
  | (n + 2), h => absurd h (by omega)
theorem df_D : ∀ j, j < 7 → defaultValue (ft_D j) = vp_V [.null, .int 0, .int 0, .int 0, .long 0, .int 0, .int 0] j := fun j hj => match j, hj with
  | 0, _ => rfl
  | 1, _ => rfl
  | 2, _ => rfl
  | 3, _ => rfl
  | 4, _ => rfl
  | 5, _ => rfl
  | 6, _ => rfl
  | (n + 7), h => absurd h (by omega)
theorem df_M : ∀ j, j < 10 → defaultValue (ft_M j) = vp_V [.null, .null, .int 0, .int 0, .int 0, .int 0, .int 0, .int 0, .int 0, .int 0] j := fun j hj => match j, hj with
  | 0, _ => rfl
  | 1, _ => rfl
  | 2, _ => rfl
  | 3, _ => rfl
  | 4, _ => rfl
  | 5, _ => rfl
  | 6, _ => rfl
  | 7, _ => rfl
  | 8, _ => rfl
  | 9, _ => rfl
  | (n + 10), h => absurd h (by omega)
theorem df_X : ∀ j, j < 8 → defaultValue (ft_X j) = vp_V [.int 0, .null, .null, .null, .null, .null, .null, .int 0] j := fun j hj => match j, hj with
  | 0, _ => rfl
  | 1, _ => rfl
  | 2, _ => rfl
  | 3, _ => rfl
  | 4, _ => rfl
  | 5, _ => rfl
  | 6, _ => rfl
  | 7, _ => rfl
  | (n + 8), h => absurd h (by omega)
theorem df_Y : ∀ j, j < 21 → defaultValue (ft_Y j) = vp_V [.int 0, .int 0, .null, .null, .null, .int 0, .null, .int 0, .int 0, .null, .int 0, .int 0, .null, .int 0, .int 0, .int 0, .int 0, .int 0, .null, .null, .null] j := fun j hj => match j, hj with
  | 0, _ => rfl
  | 1, _ => rfl
  | 2, _ => rfl
  | 3, _ => rfl
  | 4, _ => rfl
  | 5, _ => rfl
  | 6, _ => rfl
  | 7, _ => rfl
  | 8, _ => rfl
  | 9, _ => rfl
  | 10, _ => rfl
  | 11, _ => rfl
  | 12, _ => rfl
  | 13, _ => rfl
  | 14, _ => rfl
  | 15, _ => rfl
  | 16, _ => rfl
  | 17, _ => rfl
  | 18, _ => rfl
  | 19, _ => rfl
  | 20, _ => rfl
  | (n + 21), h => absurd h (by omega)
abbrev rm_O_init : Room := { frames := 1, cells := 0, slots := 0, locals := 12 }
set_option maxHeartbeats 4000000 in
set_option maxRecDepth 100000 in
theorem c_O_init (l : Launch) (dC : Nat → ClassId) (dI : Nat → Nat → Nat) (h : Nat) : zk_Cn l y_O_init w_O_init rm_O_init (dC, dI) vwCl [.ref h] [] [] 0 0 (fun (_ : Unit) => True) (fun _ => []) (fun _ => []) := by
  refine zk_entern (cc := b_O_init) (maxL := 1) (ret := none) (by decide) rfl (Nat.le_of_ble_eq_true rfl) ?_
  intro p e s m args below meth c A Q hQ X hRt hLk hNm
  refine zk_lv (lv' := [(0, .ref h)]) [0] rfl ?_
  refine zk_aload_n (pc := 0) X d_O_init_0 rfl (q := 0) rfl ?_
  refine zk_objInit (pc := 1) X (zk_m tw_65) (zk_m tw_18) (zk_m tw_19) d_O_init_1 (Nat.le_of_ble_eq_true rfl) (Nat.le_of_ble_eq_true rfl) ?_
  exact zk_nret (pc := 4) X hQ hRt hLk () trivial [] rfl (by decide) [] rfl (Nat.le_of_ble_eq_true rfl) (Nat.le_of_ble_eq_true rfl) d_O_init_4
abbrev rm_P_init : Room := { frames := 1, cells := 3, slots := 72, locals := 12 }
set_option maxHeartbeats 4000000 in
set_option maxRecDepth 100000 in
theorem c_P_init (l : Launch) (dC : Nat → ClassId) (dI : Nat → Nat → Nat) (h : Nat) : zk_Cn l y_P_init w_P_init rm_P_init (dC, dI) vwCl [.ref h] [(h, .inr (0, [.null, .null, .null, .int 0]))] [] 3 72 (fun (_ : Nat × ClassId × Nat × ClassId × Nat × ClassId) => True) (fun u => [(h, .inr (0, [.ref u.1, .ref u.2.2.1, .ref u.2.2.2.2.1, .int 0])), (u.1, .inl (u.2.1, 24, .inl (fun _ => 0))), (u.2.2.1, .inl (u.2.2.2.1, 24, .inl (fun _ => 0))), (u.2.2.2.2.1, .inl (u.2.2.2.2.2, 24, .inl (fun _ => 0)))]) (fun u => [(u.2.1, .int), (u.2.2.2.1, .int), (u.2.2.2.2.2, .int)]) := by
  refine zk_entern (cc := b_P_init) (maxL := 1) (ret := none) (by decide) rfl (Nat.le_of_ble_eq_true rfl) ?_
  intro p e s m args below meth c A Q hQ X hRt hLk hNm
  refine zk_lv (lv' := [(0, .ref h)]) [0] rfl ?_
  refine zk_aload_n (pc := 0) X d_P_init_0 rfl (q := 0) rfl ?_
  refine zk_objInit (pc := 1) X (zk_m tw_24) (zk_m tw_18) (zk_m tw_19) d_P_init_1 (Nat.le_of_ble_eq_true rfl) (Nat.le_of_ble_eq_true rfl) ?_
  refine zk_aload_n (pc := 4) X d_P_init_4 rfl (q := 0) rfl ?_
  refine zk_bipush (pc := 5) X (v := 24) d_P_init_5 (by decide) ?_
  refine zk_newa (pc := 7) X (atype := .int) (ty := .int) (N' := 24) (a0 := (24, .inl (fun _ => 0))) (zk_m tw_37) rfl (fun _ => rfl) (by decide) (by decide) (by decide) (Nat.le_of_ble_eq_true rfl) (Nat.le_of_ble_eq_true rfl) d_P_init_7 (fun po cPo X => ?_)
  refine zk_ws (ws' := [(h, .inr (0, [.null, .null, .null, .int 0])), (po, .inl (cPo, 24, .inl (fun _ => 0)))]) rfl ?_
  refine zk_putF (pc := 9) X (ty := (.array .int)) (v := .ref po) (ws' := [(h, .inr (0, [.ref po, .null, .null, .int 0])), (po, .inl (cPo, 24, .inl (fun _ => 0)))]) in_P tok_P nok_P 0 rfl rfl 0 (by decide) (zk_m tw_25) rfl (hNm.trans rfl) rfl rfl rfl rfl (Nat.le_of_ble_eq_true rfl) d_P_init_9 rfl ?_
  refine zk_aload_n (pc := 12) X d_P_init_12 rfl (q := 0) rfl ?_
  refine zk_bipush (pc := 13) X (v := 24) d_P_init_13 (by decide) ?_
  refine zk_newa (pc := 15) X (atype := .int) (ty := .int) (N' := 24) (a0 := (24, .inl (fun _ => 0))) (zk_m tw_37) rfl (fun _ => rfl) (by decide) (by decide) (by decide) (Nat.le_of_ble_eq_true rfl) (Nat.le_of_ble_eq_true rfl) d_P_init_15 (fun pf cPf X => ?_)
  refine zk_ws (ws' := [(h, .inr (0, [.ref po, .null, .null, .int 0])), (po, .inl (cPo, 24, .inl (fun _ => 0))), (pf, .inl (cPf, 24, .inl (fun _ => 0)))]) rfl ?_
  refine zk_putF (pc := 17) X (ty := (.array .int)) (v := .ref pf) (ws' := [(h, .inr (0, [.ref po, .ref pf, .null, .int 0])), (po, .inl (cPo, 24, .inl (fun _ => 0))), (pf, .inl (cPf, 24, .inl (fun _ => 0)))]) in_P tok_P nok_P 0 rfl rfl 1 (by decide) (zk_m tw_27) rfl (hNm.trans rfl) rfl rfl rfl rfl (Nat.le_of_ble_eq_true rfl) d_P_init_17 rfl ?_
  refine zk_aload_n (pc := 20) X d_P_init_20 rfl (q := 0) rfl ?_
  refine zk_bipush (pc := 21) X (v := 24) d_P_init_21 (by decide) ?_
  refine zk_newa (pc := 23) X (atype := .int) (ty := .int) (N' := 24) (a0 := (24, .inl (fun _ => 0))) (zk_m tw_37) rfl (fun _ => rfl) (by decide) (by decide) (by decide) (Nat.le_of_ble_eq_true rfl) (Nat.le_of_ble_eq_true rfl) d_P_init_23 (fun ps cPs X => ?_)
  refine zk_ws (ws' := [(h, .inr (0, [.ref po, .ref pf, .null, .int 0])), (po, .inl (cPo, 24, .inl (fun _ => 0))), (pf, .inl (cPf, 24, .inl (fun _ => 0))), (ps, .inl (cPs, 24, .inl (fun _ => 0)))]) rfl ?_
  refine zk_putF (pc := 25) X (ty := (.array .int)) (v := .ref ps) (ws' := [(h, .inr (0, [.ref po, .ref pf, .ref ps, .int 0])), (po, .inl (cPo, 24, .inl (fun _ => 0))), (pf, .inl (cPf, 24, .inl (fun _ => 0))), (ps, .inl (cPs, 24, .inl (fun _ => 0)))]) in_P tok_P nok_P 0 rfl rfl 2 (by decide) (zk_m tw_29) rfl (hNm.trans rfl) rfl rfl rfl rfl (Nat.le_of_ble_eq_true rfl) d_P_init_25 rfl ?_
  exact zk_nret (pc := 28) X hQ hRt hLk (po, cPo, pf, cPf, ps, cPs) trivial [0, 1, 2, 3] rfl (by decide) [0, 1, 2] rfl (Nat.le_of_ble_eq_true rfl) (Nat.le_of_ble_eq_true rfl) d_P_init_28
abbrev rm_J_init : Room := { frames := 1, cells := 1, slots := 300, locals := 12 }
set_option maxHeartbeats 4000000 in
set_option maxRecDepth 100000 in
theorem c_J_init (l : Launch) (dC : Nat → ClassId) (dI : Nat → Nat → Nat) (h : Nat) : zk_Cn l y_J_init w_J_init rm_J_init (dC, dI) vwCl [.ref h] [(h, .inr (1, [.null, .int 0, .int 0, .int 0, .int 0]))] [] 1 300 (fun (_ : Nat × ClassId) => True) (fun u => [(h, .inr (1, [.ref u.1, .int 0, .int 0, .int 1, .int 0])), (u.1, .inl (u.2, 300, .inl (fun _ => 0)))]) (fun u => [(u.2, .int)]) := by
  refine zk_entern (cc := b_J_init) (maxL := 1) (ret := none) (by decide) rfl (Nat.le_of_ble_eq_true rfl) ?_
  intro p e s m args below meth c A Q hQ X hRt hLk hNm
  refine zk_lv (lv' := [(0, .ref h)]) [0] rfl ?_
  refine zk_aload_n (pc := 0) X d_J_init_0 rfl (q := 0) rfl ?_
  refine zk_objInit (pc := 1) X (zk_m tw_42) (zk_m tw_18) (zk_m tw_19) d_J_init_1 (Nat.le_of_ble_eq_true rfl) (Nat.le_of_ble_eq_true rfl) ?_
  refine zk_aload_n (pc := 4) X d_J_init_4 rfl (q := 0) rfl ?_
  refine zk_sipush (pc := 5) X (v := 300) d_J_init_5 (by decide) ?_
  refine zk_newa (pc := 8) X (atype := .int) (ty := .int) (N' := 300) (a0 := (300, .inl (fun _ => 0))) (zk_m tw_37) rfl (fun _ => rfl) (by decide) (by decide) (by decide) (Nat.le_of_ble_eq_true rfl) (Nat.le_of_ble_eq_true rfl) d_J_init_8 (fun jb cJ X => ?_)
  refine zk_ws (ws' := [(h, .inr (1, [.null, .int 0, .int 0, .int 0, .int 0])), (jb, .inl (cJ, 300, .inl (fun _ => 0)))]) rfl ?_
  refine zk_putF (pc := 10) X (ty := (.array .int)) (v := .ref jb) (ws' := [(h, .inr (1, [.ref jb, .int 0, .int 0, .int 0, .int 0])), (jb, .inl (cJ, 300, .inl (fun _ => 0)))]) in_J tok_J nok_J 0 rfl rfl 0 (by decide) (zk_m tw_43) rfl (hNm.trans rfl) rfl rfl rfl rfl (Nat.le_of_ble_eq_true rfl) d_J_init_10 rfl ?_
  refine zk_aload_n (pc := 13) X d_J_init_13 rfl (q := 0) rfl ?_
  refine zk_iconst (pc := 14) X (v := 1) d_J_init_14 rfl ?_
  refine zk_put (pc := 15) X (ty := .int) (v := .int 1) (ws' := [(h, .inr (1, [.ref jb, .int 0, .int 0, .int 1, .int 0])), (jb, .inl (cJ, 300, .inl (fun _ => 0)))]) in_J tok_J nok_J 0 rfl rfl 3 (by decide) (zk_m tw_50) rfl rfl rfl rfl (Nat.le_of_ble_eq_true rfl) d_J_init_15 rfl ?_
  exact zk_nret (pc := 18) X hQ hRt hLk (jb, cJ) trivial [0, 1] rfl (by decide) [0] rfl (Nat.le_of_ble_eq_true rfl) (Nat.le_of_ble_eq_true rfl) d_J_init_18
abbrev rm_R_init : Room := { frames := 2, cells := 1, slots := 16, locals := 32 }
set_option maxHeartbeats 4000000 in
set_option maxRecDepth 100000 in
theorem c_R_init (l : Launch) (dC : Nat → ClassId) (dI : Nat → Nat → Nat) (h hj : Nat) : zk_Cn l y_R_init w_R_init rm_R_init (dC, dI) vwCl [.ref h, .ref hj] [(h, .inr (2, [.null, .null, .int 0, .int 0, .int 0, .int 0]))] [] 1 16 (fun (_ : Nat × ClassId) => True) (fun u => [(h, .inr (2, [.ref hj, .ref u.1, .int 0, .int 0, .int 0, .int 0])), (u.1, .inl (u.2, 16, .inl (fun _ => 0)))]) (fun u => [(u.2, .int)]) := by
  refine zk_entern (cc := b_R_init) (maxL := 2) (ret := none) (by decide) rfl (Nat.le_of_ble_eq_true rfl) ?_
  intro p e s m args below meth c A Q hQ X hRt hLk hNm
  refine zk_lv (lv' := [(0, .ref h), (1, .ref hj)]) [0, 1] rfl ?_
  refine zk_aload_n (pc := 0) X d_R_init_0 rfl (q := 0) rfl ?_
  refine zk_calln (pc := 1) X (wc := []) (wr := [(h, .inr (2, [.null, .null, .int 0, .int 0, .int 0, .int 0]))]) (tysC := []) (As := []) (rest := []) (b := h) (c_O_init l dC dI h) [] rfl [] [0] rfl rfl (by decide) (by decide) (by decide) (fun H_ lo_ ls_ hl_ hp_ => va_runIN X.1 (c_O_init l dC dI h H_.size) ⟨va_cnB 0 X.1.2.2.2.2 (zk_goodT tw_64) rfl rfl rfl X.2.2.2.2.2.1 (X.1.2.2.2.2 _ (zk_m tw_4)) (by decide +kernel) ⟨Nat.le_of_ble_eq_true rfl, Nat.le_of_ble_eq_true rfl⟩, rfl, X.1.2.2.2.2 _ (zk_m tw_63)⟩ hp_ rfl rfl hl_.1 rfl (lv_room (Nat.le_of_ble_eq_true rfl)) d_R_init_1 ⟨Nat.le_of_ble_eq_true rfl, Nat.le_of_ble_eq_true rfl⟩) ?_
  rintro ⟨⟩ _ X
  refine zk_ws (ws' := [(h, .inr (2, [.null, .null, .int 0, .int 0, .int 0, .int 0]))]) rfl ?_
  refine zk_aload_n (pc := 4) X d_R_init_4 rfl (q := 0) rfl ?_
  refine zk_bipush (pc := 5) X (v := 16) d_R_init_5 (by decide) ?_
  refine zk_newa (pc := 7) X (atype := .int) (ty := .int) (N' := 16) (a0 := (16, .inl (fun _ => 0))) (zk_m tw_37) rfl (fun _ => rfl) (by decide) (by decide) (by decide) (Nat.le_of_ble_eq_true rfl) (Nat.le_of_ble_eq_true rfl) d_R_init_7 (fun ri cR X => ?_)
  refine zk_ws (ws' := [(h, .inr (2, [.null, .null, .int 0, .int 0, .int 0, .int 0])), (ri, .inl (cR, 16, .inl (fun _ => 0)))]) rfl ?_
  refine zk_putF (pc := 9) X (ty := (.array .int)) (v := .ref ri) (ws' := [(h, .inr (2, [.null, .ref ri, .int 0, .int 0, .int 0, .int 0])), (ri, .inl (cR, 16, .inl (fun _ => 0)))]) in_R tok_R nok_R 0 rfl rfl 1 (by decide) (zk_m tw_67) rfl (hNm.trans rfl) rfl rfl rfl rfl (Nat.le_of_ble_eq_true rfl) d_R_init_9 rfl ?_
  refine zk_aload_n (pc := 12) X d_R_init_12 rfl (q := 0) rfl ?_
  refine zk_aload_n (pc := 13) X d_R_init_13 rfl (q := 1) rfl ?_
  refine zk_putF (pc := 14) X (ty := (.object "RetoldRun$Journal")) (v := .ref hj) (ws' := [(h, .inr (2, [.ref hj, .ref ri, .int 0, .int 0, .int 0, .int 0])), (ri, .inl (cR, 16, .inl (fun _ => 0)))]) in_R tok_R nok_R 0 rfl rfl 0 (by decide) (zk_m tw_66) rfl (hNm.trans rfl) rfl rfl rfl rfl (Nat.le_of_ble_eq_true rfl) d_R_init_14 rfl ?_
  exact zk_nret (pc := 17) X hQ hRt hLk (ri, cR) trivial [0, 1] rfl (by decide) [0] rfl (Nat.le_of_ble_eq_true rfl) (Nat.le_of_ble_eq_true rfl) d_R_init_17
abbrev rm_D_init : Room := { frames := 1, cells := 0, slots := 0, locals := 12 }
set_option maxHeartbeats 4000000 in
set_option maxRecDepth 100000 in
theorem c_D_init (l : Launch) (dC : Nat → ClassId) (dI : Nat → Nat → Nat) (h hj : Nat) : zk_Cn l y_D_init w_D_init rm_D_init (dC, dI) vwCl [.ref h, .ref hj] [(h, .inr (4, [.null, .int 0, .int 0, .int 0, .long 0, .int 0, .int 0]))] [] 0 0 (fun (_ : Unit) => True) (fun _ => [(h, .inr (4, [.ref hj, .int 0, .int 0, .int 0, .long 0, .int 0, .int 0]))]) (fun _ => []) := by
  refine zk_entern (cc := b_D_init) (maxL := 2) (ret := none) (by decide) rfl (Nat.le_of_ble_eq_true rfl) ?_
  intro p e s m args below meth c A Q hQ X hRt hLk hNm
  refine zk_lv (lv' := [(0, .ref h), (1, .ref hj)]) [0, 1] rfl ?_
  refine zk_aload_n (pc := 0) X d_D_init_0 rfl (q := 0) rfl ?_
  refine zk_objInit (pc := 1) X (zk_m tw_87) (zk_m tw_18) (zk_m tw_19) d_D_init_1 (Nat.le_of_ble_eq_true rfl) (Nat.le_of_ble_eq_true rfl) ?_
  refine zk_aload_n (pc := 4) X d_D_init_4 rfl (q := 0) rfl ?_
  refine zk_aload_n (pc := 5) X d_D_init_5 rfl (q := 1) rfl ?_
  refine zk_putF (pc := 6) X (ty := (.object "RetoldRun$Journal")) (v := .ref hj) (ws' := [(h, .inr (4, [.ref hj, .int 0, .int 0, .int 0, .long 0, .int 0, .int 0]))]) in_D tok_D nok_D 0 rfl rfl 0 (by decide) (zk_m tw_88) rfl (hNm.trans rfl) rfl rfl rfl rfl (Nat.le_of_ble_eq_true rfl) d_D_init_6 rfl ?_
  exact zk_nret (pc := 9) X hQ hRt hLk () trivial [0] rfl (by decide) [] rfl (Nat.le_of_ble_eq_true rfl) (Nat.le_of_ble_eq_true rfl) d_D_init_9
abbrev rm_T_init : Room := { frames := 2, cells := 0, slots := 0, locals := 32 }
set_option maxHeartbeats 4000000 in
set_option maxRecDepth 100000 in
theorem c_T_init (l : Launch) (dC : Nat → ClassId) (dI : Nat → Nat → Nat) (h hd : Nat) : zk_Cn l y_T_init w_T_init rm_T_init (dC, dI) vwCl [.ref h, .ref hd] [(h, .inr (3, [.null, .int 0]))] [] 0 0 (fun (_ : Unit) => True) (fun _ => [(h, .inr (3, [.ref hd, .int 0]))]) (fun _ => []) := by
  refine zk_entern (cc := b_T_init) (maxL := 2) (ret := none) (by decide) rfl (Nat.le_of_ble_eq_true rfl) ?_
  intro p e s m args below meth c A Q hQ X hRt hLk hNm
  refine zk_lv (lv' := [(0, .ref h), (1, .ref hd)]) [0, 1] rfl ?_
  refine zk_aload_n (pc := 0) X d_T_init_0 rfl (q := 0) rfl ?_
  refine zk_calln (pc := 1) X (wc := []) (wr := [(h, .inr (3, [.null, .int 0]))]) (tysC := []) (As := []) (rest := []) (b := h) (c_O_init l dC dI h) [] rfl [] [0] rfl rfl (by decide) (by decide) (by decide) (fun H_ lo_ ls_ hl_ hp_ => va_runIN X.1 (c_O_init l dC dI h H_.size) ⟨va_cnB 0 X.1.2.2.2.2 (zk_goodT tw_64) rfl rfl rfl X.2.2.2.2.2.2.1 (X.1.2.2.2.2 _ (zk_m tw_4)) (by decide +kernel) ⟨Nat.le_of_ble_eq_true rfl, Nat.le_of_ble_eq_true rfl⟩, rfl, X.1.2.2.2.2 _ (zk_m tw_63)⟩ hp_ rfl rfl hl_.1 rfl (lv_room (Nat.le_of_ble_eq_true rfl)) d_T_init_1 ⟨Nat.le_of_ble_eq_true rfl, Nat.le_of_ble_eq_true rfl⟩) ?_
  rintro ⟨⟩ _ X
  refine zk_ws (ws' := [(h, .inr (3, [.null, .int 0]))]) rfl ?_
  refine zk_aload_n (pc := 4) X d_T_init_4 rfl (q := 0) rfl ?_
  refine zk_aload_n (pc := 5) X d_T_init_5 rfl (q := 1) rfl ?_
  refine zk_putF (pc := 6) X (ty := (.object "RetoldRun$JournalReader")) (v := .ref hd) (ws' := [(h, .inr (3, [.ref hd, .int 0]))]) in_T tok_T nok_T 0 rfl rfl 0 (by decide) (zk_m tw_110) rfl (hNm.trans rfl) rfl rfl rfl rfl (Nat.le_of_ble_eq_true rfl) d_T_init_6 rfl ?_
  exact zk_nret (pc := 9) X hQ hRt hLk () trivial [0] rfl (by decide) [] rfl (Nat.le_of_ble_eq_true rfl) (Nat.le_of_ble_eq_true rfl) d_T_init_9
abbrev rm_M_init : Room := { frames := 1, cells := 2, slots := 36, locals := 12 }
set_option maxHeartbeats 4000000 in
set_option maxRecDepth 100000 in
theorem c_M_init (l : Launch) (dC : Nat → ClassId) (dI : Nat → Nat → Nat) (h : Nat) (xs : Int32) : zk_Cn l y_M_init w_M_init rm_M_init (dC, dI) vwCl [.ref h, .int xs] [(h, .inr (5, [.null, .null, .int 0, .int 0, .int 0, .int 0, .int 0, .int 0, .int 0, .int 0]))] [] 2 36 (fun (_ : Nat × ClassId × Nat × ClassId) => True) (fun u => [(h, .inr (5, [.ref u.1, .ref u.2.2.1, .int 0, .int 0, .int 0, .int 0, .int xs, .int 0, .int 0, .int 0])), (u.1, .inl (u.2.1, 4, .inl (fun _ => 0))), (u.2.2.1, .inl (u.2.2.2, 32, .inl (fun _ => 0)))]) (fun u => [(u.2.1, .int), (u.2.2.2, .int)]) := by
  refine zk_entern (cc := b_M_init) (maxL := 2) (ret := none) (by decide) rfl (Nat.le_of_ble_eq_true rfl) ?_
  intro p e s m args below meth c A Q hQ X hRt hLk hNm
  refine zk_lv (lv' := [(0, .ref h), (1, .int xs)]) [0, 1] rfl ?_
  refine zk_aload_n (pc := 0) X d_M_init_0 rfl (q := 0) rfl ?_
  refine zk_objInit (pc := 1) X (zk_m tw_119) (zk_m tw_18) (zk_m tw_19) d_M_init_1 (Nat.le_of_ble_eq_true rfl) (Nat.le_of_ble_eq_true rfl) ?_
  refine zk_aload_n (pc := 4) X d_M_init_4 rfl (q := 0) rfl ?_
  refine zk_iconst (pc := 5) X (v := 4) d_M_init_5 rfl ?_
  refine zk_newa (pc := 6) X (atype := .int) (ty := .int) (N' := 4) (a0 := (4, .inl (fun _ => 0))) (zk_m tw_37) rfl (fun _ => rfl) (by decide) (by decide) (by decide) (Nat.le_of_ble_eq_true rfl) (Nat.le_of_ble_eq_true rfl) d_M_init_6 (fun mr cmr X => ?_)
  refine zk_ws (ws' := [(h, .inr (5, [.null, .null, .int 0, .int 0, .int 0, .int 0, .int 0, .int 0, .int 0, .int 0])), (mr, .inl (cmr, 4, .inl (fun _ => 0)))]) rfl ?_
  refine zk_putF (pc := 8) X (ty := (.array .int)) (v := .ref mr) (ws' := [(h, .inr (5, [.ref mr, .null, .int 0, .int 0, .int 0, .int 0, .int 0, .int 0, .int 0, .int 0])), (mr, .inl (cmr, 4, .inl (fun _ => 0)))]) in_M tok_M nok_M 0 rfl rfl 0 (by decide) (zk_m tw_120) rfl (hNm.trans rfl) rfl rfl rfl rfl (Nat.le_of_ble_eq_true rfl) d_M_init_8 rfl ?_
  refine zk_aload_n (pc := 11) X d_M_init_11 rfl (q := 0) rfl ?_
  refine zk_bipush (pc := 12) X (v := 32) d_M_init_12 (by decide) ?_
  refine zk_newa (pc := 14) X (atype := .int) (ty := .int) (N' := 32) (a0 := (32, .inl (fun _ => 0))) (zk_m tw_37) rfl (fun _ => rfl) (by decide) (by decide) (by decide) (Nat.le_of_ble_eq_true rfl) (Nat.le_of_ble_eq_true rfl) d_M_init_14 (fun mc cmc X => ?_)
  refine zk_ws (ws' := [(h, .inr (5, [.ref mr, .null, .int 0, .int 0, .int 0, .int 0, .int 0, .int 0, .int 0, .int 0])), (mr, .inl (cmr, 4, .inl (fun _ => 0))), (mc, .inl (cmc, 32, .inl (fun _ => 0)))]) rfl ?_
  refine zk_putF (pc := 16) X (ty := (.array .int)) (v := .ref mc) (ws' := [(h, .inr (5, [.ref mr, .ref mc, .int 0, .int 0, .int 0, .int 0, .int 0, .int 0, .int 0, .int 0])), (mr, .inl (cmr, 4, .inl (fun _ => 0))), (mc, .inl (cmc, 32, .inl (fun _ => 0)))]) in_M tok_M nok_M 0 rfl rfl 1 (by decide) (zk_m tw_121) rfl (hNm.trans rfl) rfl rfl rfl rfl (Nat.le_of_ble_eq_true rfl) d_M_init_16 rfl ?_
  refine zk_aload_n (pc := 19) X d_M_init_19 rfl (q := 0) rfl ?_
  refine zk_iload_n (pc := 20) X d_M_init_20 rfl (q := 1) rfl ?_
  refine zk_put (pc := 21) X (ty := .int) (v := .int xs) (ws' := [(h, .inr (5, [.ref mr, .ref mc, .int 0, .int 0, .int 0, .int 0, .int xs, .int 0, .int 0, .int 0])), (mr, .inl (cmr, 4, .inl (fun _ => 0))), (mc, .inl (cmc, 32, .inl (fun _ => 0)))]) in_M tok_M nok_M 0 rfl rfl 6 (by decide) (zk_m tw_126) rfl rfl rfl rfl (Nat.le_of_ble_eq_true rfl) d_M_init_21 rfl ?_
  exact zk_nret (pc := 24) X hQ hRt hLk (mr, cmr, mc, cmc) trivial [0, 1, 2] rfl (by decide) [0, 1] rfl (Nat.le_of_ble_eq_true rfl) (Nat.le_of_ble_eq_true rfl) d_M_init_24
abbrev rm_X_init : Room := { frames := 3, cells := 16, slots := 504, locals := 53 }
set_option maxHeartbeats 4000000 in
set_option maxRecDepth 100000 in
theorem c_X_init (l : Launch) (dC : Nat → ClassId) (dI : Nat → Nat → Nat) (h : Nat) (xs : Int32) : zk_Cn l y_X_init w_X_init rm_X_init (dC, dI) vwCl [.ref h, .int xs] [(h, .inr (6, [.int 0, .null, .null, .null, .null, .null, .null, .int 0]))] [] 16 504 (fun (_ : Nat × Nat × ClassId × Nat × ClassId × Nat × ClassId × Nat × Nat × ClassId × Nat × Nat × ClassId × Nat × Nat × Nat × Nat × ClassId × Nat × ClassId × Nat × Nat × ClassId × Nat × ClassId) => True) (fun u => [(h, .inr (6, [.int xs, .ref u.1, .ref u.2.2.2.2.2.2.2.1, .ref u.2.2.2.2.2.2.2.2.2.2.1, .ref u.2.2.2.2.2.2.2.2.2.2.2.2.2.1, .ref u.2.2.2.2.2.2.2.2.2.2.2.2.2.2.2.1, .ref u.2.2.2.2.2.2.2.2.2.2.2.2.2.2.2.2.2.2.2.2.1, .int 0])), (u.1, .inr (0, [.ref u.2.1, .ref u.2.2.2.1, .ref u.2.2.2.2.2.1, .int 0])), (u.2.1, .inl (u.2.2.1, 24, .inl (fun _ => 0))), (u.2.2.2.1, .inl (u.2.2.2.2.1, 24, .inl (fun _ => 0))), (u.2.2.2.2.2.1, .inl (u.2.2.2.2.2.2.1, 24, .inl (fun _ => 0))), (u.2.2.2.2.2.2.2.1, .inr (1, [.ref u.2.2.2.2.2.2.2.2.1, .int 0, .int 0, .int 1, .int 0])), (u.2.2.2.2.2.2.2.2.1, .inl (u.2.2.2.2.2.2.2.2.2.1, 300, .inl (fun _ => 0))), (u.2.2.2.2.2.2.2.2.2.2.1, .inr (2, [.ref u.2.2.2.2.2.2.2.1, .ref u.2.2.2.2.2.2.2.2.2.2.2.1, .int 0, .int 0, .int 0, .int 0])), (u.2.2.2.2.2.2.2.2.2.2.2.1, .inl (u.2.2.2.2.2.2.2.2.2.2.2.2.1, 16, .inl (fun _ => 0))), (u.2.2.2.2.2.2.2.2.2.2.2.2.2.2.1, .inr (4, [.ref u.2.2.2.2.2.2.2.1, .int 0, .int 0, .int 0, .long 0, .int 0, .int 0])), (u.2.2.2.2.2.2.2.2.2.2.2.2.2.1, .inr (3, [.ref u.2.2.2.2.2.2.2.2.2.2.2.2.2.2.1, .int 0])), (u.2.2.2.2.2.2.2.2.2.2.2.2.2.2.2.1, .inr (5, [.ref u.2.2.2.2.2.2.2.2.2.2.2.2.2.2.2.2.1, .ref u.2.2.2.2.2.2.2.2.2.2.2.2.2.2.2.2.2.2.1, .int 0, .int 0, .int 0, .int 0, .int xs, .int 0, .int 0, .int 0])), (u.2.2.2.2.2.2.2.2.2.2.2.2.2.2.2.2.1, .inl (u.2.2.2.2.2.2.2.2.2.2.2.2.2.2.2.2.2.1, 4, .inl (fun _ => 0))), (u.2.2.2.2.2.2.2.2.2.2.2.2.2.2.2.2.2.2.1, .inl (u.2.2.2.2.2.2.2.2.2.2.2.2.2.2.2.2.2.2.2.1, 32, .inl (fun _ => 0))), (u.2.2.2.2.2.2.2.2.2.2.2.2.2.2.2.2.2.2.2.2.1, .inr (5, [.ref u.2.2.2.2.2.2.2.2.2.2.2.2.2.2.2.2.2.2.2.2.2.1, .ref u.2.2.2.2.2.2.2.2.2.2.2.2.2.2.2.2.2.2.2.2.2.2.2.1, .int 0, .int 0, .int 0, .int 0, .int xs, .int 0, .int 0, .int 0])), (u.2.2.2.2.2.2.2.2.2.2.2.2.2.2.2.2.2.2.2.2.2.1, .inl (u.2.2.2.2.2.2.2.2.2.2.2.2.2.2.2.2.2.2.2.2.2.2.1, 4, .inl (fun _ => 0))), (u.2.2.2.2.2.2.2.2.2.2.2.2.2.2.2.2.2.2.2.2.2.2.2.1, .inl (u.2.2.2.2.2.2.2.2.2.2.2.2.2.2.2.2.2.2.2.2.2.2.2.2, 32, .inl (fun _ => 0)))]) (fun u => [(u.2.2.1, .int), (u.2.2.2.2.1, .int), (u.2.2.2.2.2.2.1, .int), (u.2.2.2.2.2.2.2.2.2.1, .int), (u.2.2.2.2.2.2.2.2.2.2.2.2.1, .int), (u.2.2.2.2.2.2.2.2.2.2.2.2.2.2.2.2.2.1, .int), (u.2.2.2.2.2.2.2.2.2.2.2.2.2.2.2.2.2.2.2.1, .int), (u.2.2.2.2.2.2.2.2.2.2.2.2.2.2.2.2.2.2.2.2.2.2.1, .int), (u.2.2.2.2.2.2.2.2.2.2.2.2.2.2.2.2.2.2.2.2.2.2.2.2, .int)]) := by
  refine zk_entern (cc := b_X_init) (maxL := 2) (ret := none) (by decide) rfl (Nat.le_of_ble_eq_true rfl) ?_
  intro p e s m args below meth c A Q hQ X hRt hLk hNm
  refine zk_lv (lv' := [(0, .ref h), (1, .int xs)]) [0, 1] rfl ?_
  refine zk_aload_n (pc := 0) X d_X_init_0 rfl (q := 0) rfl ?_
  refine zk_objInit (pc := 1) X (zk_m tw_17) (zk_m tw_18) (zk_m tw_19) d_X_init_1 (Nat.le_of_ble_eq_true rfl) (Nat.le_of_ble_eq_true rfl) ?_
  refine zk_aload_n (pc := 4) X d_X_init_4 rfl (q := 0) rfl ?_
  refine zk_iload_n (pc := 5) X d_X_init_5 rfl (q := 1) rfl ?_
  refine zk_putF (pc := 6) X (ty := .int) (v := .int xs) (ws' := [(h, .inr (6, [.int xs, .null, .null, .null, .null, .null, .null, .int 0]))]) in_X tok_X nok_X 0 rfl rfl 0 (by decide) (zk_m tw_141) rfl (hNm.trans rfl) rfl rfl rfl rfl (Nat.le_of_ble_eq_true rfl) d_X_init_6 rfl ?_
  refine zk_aload_n (pc := 9) X d_X_init_9 rfl (q := 0) rfl ?_
  refine zk_new (pc := 10) X (ci := 0) (fs := [.null, .null, .null, .int 0]) in_P tok_P (zk_m tw_20) (zk_m tw_21) (zk_m tw_2) rfl df_P (Nat.le_of_ble_eq_true rfl) (Nat.le_of_ble_eq_true rfl) d_X_init_10 (fun hp => ?_)
  refine zk_ws (ws' := [(h, .inr (6, [.int xs, .null, .null, .null, .null, .null, .null, .int 0])), (hp, .inr (0, [.null, .null, .null, .int 0]))]) rfl ?_
  refine zk_dup (pc := 13) X d_X_init_13 rfl ?_
  refine zk_calln (pc := 14) X (wc := [(hp, .inr (0, [.null, .null, .null, .int 0]))]) (wr := [(h, .inr (6, [.int xs, .null, .null, .null, .null, .null, .null, .int 0]))]) (tysC := []) (As := []) (rest := [.ref hp, .ref h]) (b := hp) (c_P_init l dC dI hp) [] rfl [1] [0] rfl rfl (by decide) (by decide) (by decide) (fun H_ lo_ ls_ hl_ hp_ => va_runIN X.1 (c_P_init l dC dI hp H_.size) ⟨va_cnB 0 X.1.2.2.2.2 (zk_goodT tw_23) rfl rfl rfl X.2.2.2.1 (X.1.2.2.2.2 _ (zk_m tw_2)) (by decide +kernel) ⟨Nat.le_of_ble_eq_true rfl, Nat.le_of_ble_eq_true rfl⟩, rfl, X.1.2.2.2.2 _ (zk_m tw_22)⟩ hp_ rfl rfl hl_.1 rfl (lv_room (Nat.le_of_ble_eq_true rfl)) d_X_init_14 ⟨Nat.le_of_ble_eq_true rfl, Nat.le_of_ble_eq_true rfl⟩) ?_
  rintro ⟨po, cPo, pf, cPf, ps, cPs⟩ _ X
  refine zk_ws (ws' := [(h, .inr (6, [.int xs, .null, .null, .null, .null, .null, .null, .int 0])), (hp, .inr (0, [.ref po, .ref pf, .ref ps, .int 0])), (po, .inl (cPo, 24, .inl (fun _ => 0))), (pf, .inl (cPf, 24, .inl (fun _ => 0))), (ps, .inl (cPs, 24, .inl (fun _ => 0)))]) rfl ?_
  refine zk_putF (pc := 17) X (ty := (.object "RetoldRun$Program")) (v := .ref hp) (ws' := [(h, .inr (6, [.int xs, .ref hp, .null, .null, .null, .null, .null, .int 0])), (hp, .inr (0, [.ref po, .ref pf, .ref ps, .int 0])), (po, .inl (cPo, 24, .inl (fun _ => 0))), (pf, .inl (cPf, 24, .inl (fun _ => 0))), (ps, .inl (cPs, 24, .inl (fun _ => 0)))]) in_X tok_X nok_X 0 rfl rfl 1 (by decide) (zk_m tw_142) rfl (hNm.trans rfl) rfl rfl rfl rfl (Nat.le_of_ble_eq_true rfl) d_X_init_17 rfl ?_
  refine zk_aload_n (pc := 20) X d_X_init_20 rfl (q := 0) rfl ?_
  refine zk_new (pc := 21) X (ci := 1) (fs := [.null, .int 0, .int 0, .int 0, .int 0]) in_J tok_J (zk_m tw_38) (zk_m tw_39) (zk_m tw_3) rfl df_J (Nat.le_of_ble_eq_true rfl) (Nat.le_of_ble_eq_true rfl) d_X_init_21 (fun hj => ?_)
  refine zk_ws (ws' := [(h, .inr (6, [.int xs, .ref hp, .null, .null, .null, .null, .null, .int 0])), (hp, .inr (0, [.ref po, .ref pf, .ref ps, .int 0])), (po, .inl (cPo, 24, .inl (fun _ => 0))), (pf, .inl (cPf, 24, .inl (fun _ => 0))), (ps, .inl (cPs, 24, .inl (fun _ => 0))), (hj, .inr (1, [.null, .int 0, .int 0, .int 0, .int 0]))]) rfl ?_
  refine zk_dup (pc := 24) X d_X_init_24 rfl ?_
  refine zk_calln (pc := 25) X (wc := [(hj, .inr (1, [.null, .int 0, .int 0, .int 0, .int 0]))]) (wr := [(h, .inr (6, [.int xs, .ref hp, .null, .null, .null, .null, .null, .int 0])), (hp, .inr (0, [.ref po, .ref pf, .ref ps, .int 0])), (po, .inl (cPo, 24, .inl (fun _ => 0))), (pf, .inl (cPf, 24, .inl (fun _ => 0))), (ps, .inl (cPs, 24, .inl (fun _ => 0)))]) (tysC := []) (As := []) (rest := [.ref hj, .ref h]) (b := hj) (c_J_init l dC dI hj) [] rfl [5] [0, 1, 2, 3, 4] rfl rfl (by decide) (by decide) (by decide) (fun H_ lo_ ls_ hl_ hp_ => va_runIN X.1 (c_J_init l dC dI hj H_.size) ⟨va_cnB 0 X.1.2.2.2.2 (zk_goodT tw_41) rfl rfl rfl X.2.2.2.2.1 (X.1.2.2.2.2 _ (zk_m tw_3)) (by decide +kernel) ⟨Nat.le_of_ble_eq_true rfl, Nat.le_of_ble_eq_true rfl⟩, rfl, X.1.2.2.2.2 _ (zk_m tw_40)⟩ hp_ rfl rfl hl_.1 rfl (lv_room (Nat.le_of_ble_eq_true rfl)) d_X_init_25 ⟨Nat.le_of_ble_eq_true rfl, Nat.le_of_ble_eq_true rfl⟩) ?_
  rintro ⟨jb, cJ⟩ _ X
  refine zk_ws (ws' := [(h, .inr (6, [.int xs, .ref hp, .null, .null, .null, .null, .null, .int 0])), (hp, .inr (0, [.ref po, .ref pf, .ref ps, .int 0])), (po, .inl (cPo, 24, .inl (fun _ => 0))), (pf, .inl (cPf, 24, .inl (fun _ => 0))), (ps, .inl (cPs, 24, .inl (fun _ => 0))), (hj, .inr (1, [.ref jb, .int 0, .int 0, .int 1, .int 0])), (jb, .inl (cJ, 300, .inl (fun _ => 0)))]) rfl ?_
  refine zk_putF (pc := 28) X (ty := (.object "RetoldRun$Journal")) (v := .ref hj) (ws' := [(h, .inr (6, [.int xs, .ref hp, .ref hj, .null, .null, .null, .null, .int 0])), (hp, .inr (0, [.ref po, .ref pf, .ref ps, .int 0])), (po, .inl (cPo, 24, .inl (fun _ => 0))), (pf, .inl (cPf, 24, .inl (fun _ => 0))), (ps, .inl (cPs, 24, .inl (fun _ => 0))), (hj, .inr (1, [.ref jb, .int 0, .int 0, .int 1, .int 0])), (jb, .inl (cJ, 300, .inl (fun _ => 0)))]) in_X tok_X nok_X 0 rfl rfl 2 (by decide) (zk_m tw_143) rfl (hNm.trans rfl) rfl rfl rfl rfl (Nat.le_of_ble_eq_true rfl) d_X_init_28 rfl ?_
  refine zk_aload_n (pc := 31) X d_X_init_31 rfl (q := 0) rfl ?_
  refine zk_new (pc := 32) X (ci := 2) (fs := [.null, .null, .int 0, .int 0, .int 0, .int 0]) in_R tok_R (zk_m tw_58) (zk_m tw_59) (zk_m tw_5) rfl df_R (Nat.le_of_ble_eq_true rfl) (Nat.le_of_ble_eq_true rfl) d_X_init_32 (fun hr => ?_)
  refine zk_ws (ws' := [(h, .inr (6, [.int xs, .ref hp, .ref hj, .null, .null, .null, .null, .int 0])), (hp, .inr (0, [.ref po, .ref pf, .ref ps, .int 0])), (po, .inl (cPo, 24, .inl (fun _ => 0))), (pf, .inl (cPf, 24, .inl (fun _ => 0))), (ps, .inl (cPs, 24, .inl (fun _ => 0))), (hj, .inr (1, [.ref jb, .int 0, .int 0, .int 1, .int 0])), (jb, .inl (cJ, 300, .inl (fun _ => 0))), (hr, .inr (2, [.null, .null, .int 0, .int 0, .int 0, .int 0]))]) rfl ?_
  refine zk_dup (pc := 35) X d_X_init_35 rfl ?_
  refine zk_aload_n (pc := 36) X d_X_init_36 rfl (q := 0) rfl ?_
  refine zk_get (pc := 37) X (ci := 6) (v := .ref hj) in_X 0 rfl rfl 2 (by decide) (zk_m tw_143) rfl d_X_init_37 ?_
  refine zk_calln (pc := 40) X (wc := [(hr, .inr (2, [.null, .null, .int 0, .int 0, .int 0, .int 0]))]) (wr := [(h, .inr (6, [.int xs, .ref hp, .ref hj, .null, .null, .null, .null, .int 0])), (hp, .inr (0, [.ref po, .ref pf, .ref ps, .int 0])), (po, .inl (cPo, 24, .inl (fun _ => 0))), (pf, .inl (cPf, 24, .inl (fun _ => 0))), (ps, .inl (cPs, 24, .inl (fun _ => 0))), (hj, .inr (1, [.ref jb, .int 0, .int 0, .int 1, .int 0])), (jb, .inl (cJ, 300, .inl (fun _ => 0)))]) (tysC := []) (As := [.ref hj]) (rest := [.ref hr, .ref h]) (b := hr) (c_R_init l dC dI hr hj) [] rfl [7] [0, 1, 2, 3, 4, 5, 6] rfl rfl (by decide) (by decide) (by decide) (fun H_ lo_ ls_ hl_ hp_ => va_runI X.1 (c_R_init l dC dI hr hj H_.size) ⟨callB_of 1 X.1.2.2.2.2 (zk_goodT tw_62) rfl rfl rfl (X.1.2.2.2.2 _ (zk_m tw_5)) (X.1.2.2.2.2 _ (zk_m tw_60)) (by decide +kernel) ⟨Nat.le_of_ble_eq_true rfl, Nat.le_of_ble_eq_true rfl⟩, rfl, X.1.2.2.2.2 _ (zk_m tw_61)⟩ hp_ rfl rfl hl_.1 rfl (lv_room (Nat.le_of_ble_eq_true rfl)) d_X_init_40 ⟨Nat.le_of_ble_eq_true rfl, Nat.le_of_ble_eq_true rfl⟩) ?_
  rintro ⟨ri, cR⟩ _ X
  refine zk_ws (ws' := [(h, .inr (6, [.int xs, .ref hp, .ref hj, .null, .null, .null, .null, .int 0])), (hp, .inr (0, [.ref po, .ref pf, .ref ps, .int 0])), (po, .inl (cPo, 24, .inl (fun _ => 0))), (pf, .inl (cPf, 24, .inl (fun _ => 0))), (ps, .inl (cPs, 24, .inl (fun _ => 0))), (hj, .inr (1, [.ref jb, .int 0, .int 0, .int 1, .int 0])), (jb, .inl (cJ, 300, .inl (fun _ => 0))), (hr, .inr (2, [.ref hj, .ref ri, .int 0, .int 0, .int 0, .int 0])), (ri, .inl (cR, 16, .inl (fun _ => 0)))]) rfl ?_
  refine zk_putF (pc := 43) X (ty := (.object "RetoldRun$Recording")) (v := .ref hr) (ws' := [(h, .inr (6, [.int xs, .ref hp, .ref hj, .ref hr, .null, .null, .null, .int 0])), (hp, .inr (0, [.ref po, .ref pf, .ref ps, .int 0])), (po, .inl (cPo, 24, .inl (fun _ => 0))), (pf, .inl (cPf, 24, .inl (fun _ => 0))), (ps, .inl (cPs, 24, .inl (fun _ => 0))), (hj, .inr (1, [.ref jb, .int 0, .int 0, .int 1, .int 0])), (jb, .inl (cJ, 300, .inl (fun _ => 0))), (hr, .inr (2, [.ref hj, .ref ri, .int 0, .int 0, .int 0, .int 0])), (ri, .inl (cR, 16, .inl (fun _ => 0)))]) in_X tok_X nok_X 0 rfl rfl 3 (by decide) (zk_m tw_144) rfl (hNm.trans rfl) rfl rfl rfl rfl (Nat.le_of_ble_eq_true rfl) d_X_init_43 rfl ?_
  refine zk_aload_n (pc := 46) X d_X_init_46 rfl (q := 0) rfl ?_
  refine zk_new (pc := 47) X (ci := 3) (fs := [.null, .int 0]) in_T tok_T (zk_m tw_80) (zk_m tw_81) (zk_m tw_6) rfl df_T (Nat.le_of_ble_eq_true rfl) (Nat.le_of_ble_eq_true rfl) d_X_init_47 (fun ht => ?_)
  refine zk_ws (ws' := [(h, .inr (6, [.int xs, .ref hp, .ref hj, .ref hr, .null, .null, .null, .int 0])), (hp, .inr (0, [.ref po, .ref pf, .ref ps, .int 0])), (po, .inl (cPo, 24, .inl (fun _ => 0))), (pf, .inl (cPf, 24, .inl (fun _ => 0))), (ps, .inl (cPs, 24, .inl (fun _ => 0))), (hj, .inr (1, [.ref jb, .int 0, .int 0, .int 1, .int 0])), (jb, .inl (cJ, 300, .inl (fun _ => 0))), (hr, .inr (2, [.ref hj, .ref ri, .int 0, .int 0, .int 0, .int 0])), (ri, .inl (cR, 16, .inl (fun _ => 0))), (ht, .inr (3, [.null, .int 0]))]) rfl ?_
  refine zk_dup (pc := 50) X d_X_init_50 rfl ?_
  refine zk_new (pc := 51) X (ci := 4) (fs := [.null, .int 0, .int 0, .int 0, .long 0, .int 0, .int 0]) in_D tok_D (zk_m tw_82) (zk_m tw_83) (zk_m tw_7) rfl df_D (Nat.le_of_ble_eq_true rfl) (Nat.le_of_ble_eq_true rfl) d_X_init_51 (fun hd => ?_)
  refine zk_ws (ws' := [(h, .inr (6, [.int xs, .ref hp, .ref hj, .ref hr, .null, .null, .null, .int 0])), (hp, .inr (0, [.ref po, .ref pf, .ref ps, .int 0])), (po, .inl (cPo, 24, .inl (fun _ => 0))), (pf, .inl (cPf, 24, .inl (fun _ => 0))), (ps, .inl (cPs, 24, .inl (fun _ => 0))), (hj, .inr (1, [.ref jb, .int 0, .int 0, .int 1, .int 0])), (jb, .inl (cJ, 300, .inl (fun _ => 0))), (hr, .inr (2, [.ref hj, .ref ri, .int 0, .int 0, .int 0, .int 0])), (ri, .inl (cR, 16, .inl (fun _ => 0))), (ht, .inr (3, [.null, .int 0])), (hd, .inr (4, [.null, .int 0, .int 0, .int 0, .long 0, .int 0, .int 0]))]) rfl ?_
  refine zk_dup (pc := 54) X d_X_init_54 rfl ?_
  refine zk_aload_n (pc := 55) X d_X_init_55 rfl (q := 0) rfl ?_
  refine zk_get (pc := 56) X (ci := 6) (v := .ref hj) in_X 0 rfl rfl 2 (by decide) (zk_m tw_143) rfl d_X_init_56 ?_
  refine zk_calln (pc := 59) X (wc := [(hd, .inr (4, [.null, .int 0, .int 0, .int 0, .long 0, .int 0, .int 0]))]) (wr := [(h, .inr (6, [.int xs, .ref hp, .ref hj, .ref hr, .null, .null, .null, .int 0])), (hp, .inr (0, [.ref po, .ref pf, .ref ps, .int 0])), (po, .inl (cPo, 24, .inl (fun _ => 0))), (pf, .inl (cPf, 24, .inl (fun _ => 0))), (ps, .inl (cPs, 24, .inl (fun _ => 0))), (hj, .inr (1, [.ref jb, .int 0, .int 0, .int 1, .int 0])), (jb, .inl (cJ, 300, .inl (fun _ => 0))), (hr, .inr (2, [.ref hj, .ref ri, .int 0, .int 0, .int 0, .int 0])), (ri, .inl (cR, 16, .inl (fun _ => 0))), (ht, .inr (3, [.null, .int 0]))]) (tysC := []) (As := [.ref hj]) (rest := [.ref hd, .ref ht, .ref ht, .ref h]) (b := hd) (c_D_init l dC dI hd hj) [] rfl [10] [0, 1, 2, 3, 4, 5, 6, 7, 8, 9] rfl rfl (by decide) (by decide) (by decide) (fun H_ lo_ ls_ hl_ hp_ => va_runI X.1 (c_D_init l dC dI hd hj H_.size) ⟨callB_of 1 X.1.2.2.2.2 (zk_goodT tw_86) rfl rfl rfl (X.1.2.2.2.2 _ (zk_m tw_7)) (X.1.2.2.2.2 _ (zk_m tw_84)) (by decide +kernel) ⟨Nat.le_of_ble_eq_true rfl, Nat.le_of_ble_eq_true rfl⟩, rfl, X.1.2.2.2.2 _ (zk_m tw_85)⟩ hp_ rfl rfl hl_.1 rfl (lv_room (Nat.le_of_ble_eq_true rfl)) d_X_init_59 ⟨Nat.le_of_ble_eq_true rfl, Nat.le_of_ble_eq_true rfl⟩) ?_
  rintro ⟨⟩ _ X
  refine zk_ws (ws' := [(h, .inr (6, [.int xs, .ref hp, .ref hj, .ref hr, .null, .null, .null, .int 0])), (hp, .inr (0, [.ref po, .ref pf, .ref ps, .int 0])), (po, .inl (cPo, 24, .inl (fun _ => 0))), (pf, .inl (cPf, 24, .inl (fun _ => 0))), (ps, .inl (cPs, 24, .inl (fun _ => 0))), (hj, .inr (1, [.ref jb, .int 0, .int 0, .int 1, .int 0])), (jb, .inl (cJ, 300, .inl (fun _ => 0))), (hr, .inr (2, [.ref hj, .ref ri, .int 0, .int 0, .int 0, .int 0])), (ri, .inl (cR, 16, .inl (fun _ => 0))), (ht, .inr (3, [.null, .int 0])), (hd, .inr (4, [.ref hj, .int 0, .int 0, .int 0, .long 0, .int 0, .int 0]))]) rfl ?_
  refine zk_calln (pc := 62) X (wc := [(ht, .inr (3, [.null, .int 0]))]) (wr := [(h, .inr (6, [.int xs, .ref hp, .ref hj, .ref hr, .null, .null, .null, .int 0])), (hp, .inr (0, [.ref po, .ref pf, .ref ps, .int 0])), (po, .inl (cPo, 24, .inl (fun _ => 0))), (pf, .inl (cPf, 24, .inl (fun _ => 0))), (ps, .inl (cPs, 24, .inl (fun _ => 0))), (hj, .inr (1, [.ref jb, .int 0, .int 0, .int 1, .int 0])), (jb, .inl (cJ, 300, .inl (fun _ => 0))), (hr, .inr (2, [.ref hj, .ref ri, .int 0, .int 0, .int 0, .int 0])), (ri, .inl (cR, 16, .inl (fun _ => 0))), (hd, .inr (4, [.ref hj, .int 0, .int 0, .int 0, .long 0, .int 0, .int 0]))]) (tysC := []) (As := [.ref hd]) (rest := [.ref ht, .ref h]) (b := ht) (c_T_init l dC dI ht hd) [] rfl [9] [0, 1, 2, 3, 4, 5, 6, 7, 8, 10] rfl rfl (by decide) (by decide) (by decide) (fun H_ lo_ ls_ hl_ hp_ => va_runI X.1 (c_T_init l dC dI ht hd H_.size) ⟨callB_of 1 X.1.2.2.2.2 (zk_goodT tw_109) rfl rfl rfl (X.1.2.2.2.2 _ (zk_m tw_6)) (X.1.2.2.2.2 _ (zk_m tw_107)) (by decide +kernel) ⟨Nat.le_of_ble_eq_true rfl, Nat.le_of_ble_eq_true rfl⟩, rfl, X.1.2.2.2.2 _ (zk_m tw_108)⟩ hp_ rfl rfl hl_.1 rfl (lv_room (Nat.le_of_ble_eq_true rfl)) d_X_init_62 ⟨Nat.le_of_ble_eq_true rfl, Nat.le_of_ble_eq_true rfl⟩) ?_
  rintro ⟨⟩ _ X
  refine zk_ws (ws' := [(h, .inr (6, [.int xs, .ref hp, .ref hj, .ref hr, .null, .null, .null, .int 0])), (hp, .inr (0, [.ref po, .ref pf, .ref ps, .int 0])), (po, .inl (cPo, 24, .inl (fun _ => 0))), (pf, .inl (cPf, 24, .inl (fun _ => 0))), (ps, .inl (cPs, 24, .inl (fun _ => 0))), (hj, .inr (1, [.ref jb, .int 0, .int 0, .int 1, .int 0])), (jb, .inl (cJ, 300, .inl (fun _ => 0))), (hr, .inr (2, [.ref hj, .ref ri, .int 0, .int 0, .int 0, .int 0])), (ri, .inl (cR, 16, .inl (fun _ => 0))), (hd, .inr (4, [.ref hj, .int 0, .int 0, .int 0, .long 0, .int 0, .int 0])), (ht, .inr (3, [.ref hd, .int 0]))]) rfl ?_
  refine zk_putF (pc := 65) X (ty := (.object "RetoldRun$Retelling")) (v := .ref ht) (ws' := [(h, .inr (6, [.int xs, .ref hp, .ref hj, .ref hr, .ref ht, .null, .null, .int 0])), (hp, .inr (0, [.ref po, .ref pf, .ref ps, .int 0])), (po, .inl (cPo, 24, .inl (fun _ => 0))), (pf, .inl (cPf, 24, .inl (fun _ => 0))), (ps, .inl (cPs, 24, .inl (fun _ => 0))), (hj, .inr (1, [.ref jb, .int 0, .int 0, .int 1, .int 0])), (jb, .inl (cJ, 300, .inl (fun _ => 0))), (hr, .inr (2, [.ref hj, .ref ri, .int 0, .int 0, .int 0, .int 0])), (ri, .inl (cR, 16, .inl (fun _ => 0))), (hd, .inr (4, [.ref hj, .int 0, .int 0, .int 0, .long 0, .int 0, .int 0])), (ht, .inr (3, [.ref hd, .int 0]))]) in_X tok_X nok_X 0 rfl rfl 4 (by decide) (zk_m tw_145) rfl (hNm.trans rfl) rfl rfl rfl rfl (Nat.le_of_ble_eq_true rfl) d_X_init_65 rfl ?_
  refine zk_aload_n (pc := 68) X d_X_init_68 rfl (q := 0) rfl ?_
  refine zk_new (pc := 69) X (ci := 5) (fs := [.null, .null, .int 0, .int 0, .int 0, .int 0, .int 0, .int 0, .int 0, .int 0]) in_M tok_M (zk_m tw_114) (zk_m tw_115) (zk_m tw_8) rfl df_M (Nat.le_of_ble_eq_true rfl) (Nat.le_of_ble_eq_true rfl) d_X_init_69 (fun hm => ?_)
  refine zk_ws (ws' := [(h, .inr (6, [.int xs, .ref hp, .ref hj, .ref hr, .ref ht, .null, .null, .int 0])), (hp, .inr (0, [.ref po, .ref pf, .ref ps, .int 0])), (po, .inl (cPo, 24, .inl (fun _ => 0))), (pf, .inl (cPf, 24, .inl (fun _ => 0))), (ps, .inl (cPs, 24, .inl (fun _ => 0))), (hj, .inr (1, [.ref jb, .int 0, .int 0, .int 1, .int 0])), (jb, .inl (cJ, 300, .inl (fun _ => 0))), (hr, .inr (2, [.ref hj, .ref ri, .int 0, .int 0, .int 0, .int 0])), (ri, .inl (cR, 16, .inl (fun _ => 0))), (hd, .inr (4, [.ref hj, .int 0, .int 0, .int 0, .long 0, .int 0, .int 0])), (ht, .inr (3, [.ref hd, .int 0])), (hm, .inr (5, [.null, .null, .int 0, .int 0, .int 0, .int 0, .int 0, .int 0, .int 0, .int 0]))]) rfl ?_
  refine zk_dup (pc := 72) X d_X_init_72 rfl ?_
  refine zk_iload_n (pc := 73) X d_X_init_73 rfl (q := 1) rfl ?_
  refine zk_calln (pc := 74) X (wc := [(hm, .inr (5, [.null, .null, .int 0, .int 0, .int 0, .int 0, .int 0, .int 0, .int 0, .int 0]))]) (wr := [(h, .inr (6, [.int xs, .ref hp, .ref hj, .ref hr, .ref ht, .null, .null, .int 0])), (hp, .inr (0, [.ref po, .ref pf, .ref ps, .int 0])), (po, .inl (cPo, 24, .inl (fun _ => 0))), (pf, .inl (cPf, 24, .inl (fun _ => 0))), (ps, .inl (cPs, 24, .inl (fun _ => 0))), (hj, .inr (1, [.ref jb, .int 0, .int 0, .int 1, .int 0])), (jb, .inl (cJ, 300, .inl (fun _ => 0))), (hr, .inr (2, [.ref hj, .ref ri, .int 0, .int 0, .int 0, .int 0])), (ri, .inl (cR, 16, .inl (fun _ => 0))), (hd, .inr (4, [.ref hj, .int 0, .int 0, .int 0, .long 0, .int 0, .int 0])), (ht, .inr (3, [.ref hd, .int 0]))]) (tysC := []) (As := [.int xs]) (rest := [.ref hm, .ref h]) (b := hm) (c_M_init l dC dI hm xs) [] rfl [11] [0, 1, 2, 3, 4, 5, 6, 7, 8, 9, 10] rfl rfl (by decide) (by decide) (by decide) (fun H_ lo_ ls_ hl_ hp_ => va_runI X.1 (c_M_init l dC dI hm xs H_.size) ⟨callB_of 1 X.1.2.2.2.2 (zk_goodT tw_118) rfl rfl rfl (X.1.2.2.2.2 _ (zk_m tw_8)) (X.1.2.2.2.2 _ (zk_m tw_116)) (by decide +kernel) ⟨Nat.le_of_ble_eq_true rfl, Nat.le_of_ble_eq_true rfl⟩, rfl, X.1.2.2.2.2 _ (zk_m tw_117)⟩ hp_ rfl rfl hl_.1 rfl (lv_room (Nat.le_of_ble_eq_true rfl)) d_X_init_74 ⟨Nat.le_of_ble_eq_true rfl, Nat.le_of_ble_eq_true rfl⟩) ?_
  rintro ⟨mr, cmr, mc, cmc⟩ _ X
  refine zk_ws (ws' := [(h, .inr (6, [.int xs, .ref hp, .ref hj, .ref hr, .ref ht, .null, .null, .int 0])), (hp, .inr (0, [.ref po, .ref pf, .ref ps, .int 0])), (po, .inl (cPo, 24, .inl (fun _ => 0))), (pf, .inl (cPf, 24, .inl (fun _ => 0))), (ps, .inl (cPs, 24, .inl (fun _ => 0))), (hj, .inr (1, [.ref jb, .int 0, .int 0, .int 1, .int 0])), (jb, .inl (cJ, 300, .inl (fun _ => 0))), (hr, .inr (2, [.ref hj, .ref ri, .int 0, .int 0, .int 0, .int 0])), (ri, .inl (cR, 16, .inl (fun _ => 0))), (hd, .inr (4, [.ref hj, .int 0, .int 0, .int 0, .long 0, .int 0, .int 0])), (ht, .inr (3, [.ref hd, .int 0])), (hm, .inr (5, [.ref mr, .ref mc, .int 0, .int 0, .int 0, .int 0, .int xs, .int 0, .int 0, .int 0])), (mr, .inl (cmr, 4, .inl (fun _ => 0))), (mc, .inl (cmc, 32, .inl (fun _ => 0)))]) rfl ?_
  refine zk_putF (pc := 77) X (ty := (.object "RetoldRun$Machine")) (v := .ref hm) (ws' := [(h, .inr (6, [.int xs, .ref hp, .ref hj, .ref hr, .ref ht, .ref hm, .null, .int 0])), (hp, .inr (0, [.ref po, .ref pf, .ref ps, .int 0])), (po, .inl (cPo, 24, .inl (fun _ => 0))), (pf, .inl (cPf, 24, .inl (fun _ => 0))), (ps, .inl (cPs, 24, .inl (fun _ => 0))), (hj, .inr (1, [.ref jb, .int 0, .int 0, .int 1, .int 0])), (jb, .inl (cJ, 300, .inl (fun _ => 0))), (hr, .inr (2, [.ref hj, .ref ri, .int 0, .int 0, .int 0, .int 0])), (ri, .inl (cR, 16, .inl (fun _ => 0))), (hd, .inr (4, [.ref hj, .int 0, .int 0, .int 0, .long 0, .int 0, .int 0])), (ht, .inr (3, [.ref hd, .int 0])), (hm, .inr (5, [.ref mr, .ref mc, .int 0, .int 0, .int 0, .int 0, .int xs, .int 0, .int 0, .int 0])), (mr, .inl (cmr, 4, .inl (fun _ => 0))), (mc, .inl (cmc, 32, .inl (fun _ => 0)))]) in_X tok_X nok_X 0 rfl rfl 5 (by decide) (zk_m tw_146) rfl (hNm.trans rfl) rfl rfl rfl rfl (Nat.le_of_ble_eq_true rfl) d_X_init_77 rfl ?_
  refine zk_aload_n (pc := 80) X d_X_init_80 rfl (q := 0) rfl ?_
  refine zk_new (pc := 81) X (ci := 5) (fs := [.null, .null, .int 0, .int 0, .int 0, .int 0, .int 0, .int 0, .int 0, .int 0]) in_M tok_M (zk_m tw_114) (zk_m tw_115) (zk_m tw_8) rfl df_M (Nat.le_of_ble_eq_true rfl) (Nat.le_of_ble_eq_true rfl) d_X_init_81 (fun hk => ?_)
  refine zk_ws (ws' := [(h, .inr (6, [.int xs, .ref hp, .ref hj, .ref hr, .ref ht, .ref hm, .null, .int 0])), (hp, .inr (0, [.ref po, .ref pf, .ref ps, .int 0])), (po, .inl (cPo, 24, .inl (fun _ => 0))), (pf, .inl (cPf, 24, .inl (fun _ => 0))), (ps, .inl (cPs, 24, .inl (fun _ => 0))), (hj, .inr (1, [.ref jb, .int 0, .int 0, .int 1, .int 0])), (jb, .inl (cJ, 300, .inl (fun _ => 0))), (hr, .inr (2, [.ref hj, .ref ri, .int 0, .int 0, .int 0, .int 0])), (ri, .inl (cR, 16, .inl (fun _ => 0))), (hd, .inr (4, [.ref hj, .int 0, .int 0, .int 0, .long 0, .int 0, .int 0])), (ht, .inr (3, [.ref hd, .int 0])), (hm, .inr (5, [.ref mr, .ref mc, .int 0, .int 0, .int 0, .int 0, .int xs, .int 0, .int 0, .int 0])), (mr, .inl (cmr, 4, .inl (fun _ => 0))), (mc, .inl (cmc, 32, .inl (fun _ => 0))), (hk, .inr (5, [.null, .null, .int 0, .int 0, .int 0, .int 0, .int 0, .int 0, .int 0, .int 0]))]) rfl ?_
  refine zk_dup (pc := 84) X d_X_init_84 rfl ?_
  refine zk_iload_n (pc := 85) X d_X_init_85 rfl (q := 1) rfl ?_
  refine zk_calln (pc := 86) X (wc := [(hk, .inr (5, [.null, .null, .int 0, .int 0, .int 0, .int 0, .int 0, .int 0, .int 0, .int 0]))]) (wr := [(h, .inr (6, [.int xs, .ref hp, .ref hj, .ref hr, .ref ht, .ref hm, .null, .int 0])), (hp, .inr (0, [.ref po, .ref pf, .ref ps, .int 0])), (po, .inl (cPo, 24, .inl (fun _ => 0))), (pf, .inl (cPf, 24, .inl (fun _ => 0))), (ps, .inl (cPs, 24, .inl (fun _ => 0))), (hj, .inr (1, [.ref jb, .int 0, .int 0, .int 1, .int 0])), (jb, .inl (cJ, 300, .inl (fun _ => 0))), (hr, .inr (2, [.ref hj, .ref ri, .int 0, .int 0, .int 0, .int 0])), (ri, .inl (cR, 16, .inl (fun _ => 0))), (hd, .inr (4, [.ref hj, .int 0, .int 0, .int 0, .long 0, .int 0, .int 0])), (ht, .inr (3, [.ref hd, .int 0])), (hm, .inr (5, [.ref mr, .ref mc, .int 0, .int 0, .int 0, .int 0, .int xs, .int 0, .int 0, .int 0])), (mr, .inl (cmr, 4, .inl (fun _ => 0))), (mc, .inl (cmc, 32, .inl (fun _ => 0)))]) (tysC := []) (As := [.int xs]) (rest := [.ref hk, .ref h]) (b := hk) (c_M_init l dC dI hk xs) [] rfl [14] [0, 1, 2, 3, 4, 5, 6, 7, 8, 9, 10, 11, 12, 13] rfl rfl (by decide) (by decide) (by decide) (fun H_ lo_ ls_ hl_ hp_ => va_runI X.1 (c_M_init l dC dI hk xs H_.size) ⟨callB_of 1 X.1.2.2.2.2 (zk_goodT tw_118) rfl rfl rfl (X.1.2.2.2.2 _ (zk_m tw_8)) (X.1.2.2.2.2 _ (zk_m tw_116)) (by decide +kernel) ⟨Nat.le_of_ble_eq_true rfl, Nat.le_of_ble_eq_true rfl⟩, rfl, X.1.2.2.2.2 _ (zk_m tw_117)⟩ hp_ rfl rfl hl_.1 rfl (lv_room (Nat.le_of_ble_eq_true rfl)) d_X_init_86 ⟨Nat.le_of_ble_eq_true rfl, Nat.le_of_ble_eq_true rfl⟩) ?_
  rintro ⟨kr, ckr, kc, ckc⟩ _ X
  refine zk_ws (ws' := [(h, .inr (6, [.int xs, .ref hp, .ref hj, .ref hr, .ref ht, .ref hm, .null, .int 0])), (hp, .inr (0, [.ref po, .ref pf, .ref ps, .int 0])), (po, .inl (cPo, 24, .inl (fun _ => 0))), (pf, .inl (cPf, 24, .inl (fun _ => 0))), (ps, .inl (cPs, 24, .inl (fun _ => 0))), (hj, .inr (1, [.ref jb, .int 0, .int 0, .int 1, .int 0])), (jb, .inl (cJ, 300, .inl (fun _ => 0))), (hr, .inr (2, [.ref hj, .ref ri, .int 0, .int 0, .int 0, .int 0])), (ri, .inl (cR, 16, .inl (fun _ => 0))), (hd, .inr (4, [.ref hj, .int 0, .int 0, .int 0, .long 0, .int 0, .int 0])), (ht, .inr (3, [.ref hd, .int 0])), (hm, .inr (5, [.ref mr, .ref mc, .int 0, .int 0, .int 0, .int 0, .int xs, .int 0, .int 0, .int 0])), (mr, .inl (cmr, 4, .inl (fun _ => 0))), (mc, .inl (cmc, 32, .inl (fun _ => 0))), (hk, .inr (5, [.ref kr, .ref kc, .int 0, .int 0, .int 0, .int 0, .int xs, .int 0, .int 0, .int 0])), (kr, .inl (ckr, 4, .inl (fun _ => 0))), (kc, .inl (ckc, 32, .inl (fun _ => 0)))]) rfl ?_
  refine zk_putF (pc := 89) X (ty := (.object "RetoldRun$Machine")) (v := .ref hk) (ws' := [(h, .inr (6, [.int xs, .ref hp, .ref hj, .ref hr, .ref ht, .ref hm, .ref hk, .int 0])), (hp, .inr (0, [.ref po, .ref pf, .ref ps, .int 0])), (po, .inl (cPo, 24, .inl (fun _ => 0))), (pf, .inl (cPf, 24, .inl (fun _ => 0))), (ps, .inl (cPs, 24, .inl (fun _ => 0))), (hj, .inr (1, [.ref jb, .int 0, .int 0, .int 1, .int 0])), (jb, .inl (cJ, 300, .inl (fun _ => 0))), (hr, .inr (2, [.ref hj, .ref ri, .int 0, .int 0, .int 0, .int 0])), (ri, .inl (cR, 16, .inl (fun _ => 0))), (hd, .inr (4, [.ref hj, .int 0, .int 0, .int 0, .long 0, .int 0, .int 0])), (ht, .inr (3, [.ref hd, .int 0])), (hm, .inr (5, [.ref mr, .ref mc, .int 0, .int 0, .int 0, .int 0, .int xs, .int 0, .int 0, .int 0])), (mr, .inl (cmr, 4, .inl (fun _ => 0))), (mc, .inl (cmc, 32, .inl (fun _ => 0))), (hk, .inr (5, [.ref kr, .ref kc, .int 0, .int 0, .int 0, .int 0, .int xs, .int 0, .int 0, .int 0])), (kr, .inl (ckr, 4, .inl (fun _ => 0))), (kc, .inl (ckc, 32, .inl (fun _ => 0)))]) in_X tok_X nok_X 0 rfl rfl 6 (by decide) (zk_m tw_147) rfl (hNm.trans rfl) rfl rfl rfl rfl (Nat.le_of_ble_eq_true rfl) d_X_init_89 rfl ?_
  refine zk_aload_n (pc := 92) X d_X_init_92 rfl (q := 0) rfl ?_
  refine zk_iconst (pc := 93) X (v := 0) d_X_init_93 rfl ?_
  refine zk_put (pc := 94) X (ty := .boolean) (v := .int 0) (ws' := [(h, .inr (6, [.int xs, .ref hp, .ref hj, .ref hr, .ref ht, .ref hm, .ref hk, .int 0])), (hp, .inr (0, [.ref po, .ref pf, .ref ps, .int 0])), (po, .inl (cPo, 24, .inl (fun _ => 0))), (pf, .inl (cPf, 24, .inl (fun _ => 0))), (ps, .inl (cPs, 24, .inl (fun _ => 0))), (hj, .inr (1, [.ref jb, .int 0, .int 0, .int 1, .int 0])), (jb, .inl (cJ, 300, .inl (fun _ => 0))), (hr, .inr (2, [.ref hj, .ref ri, .int 0, .int 0, .int 0, .int 0])), (ri, .inl (cR, 16, .inl (fun _ => 0))), (hd, .inr (4, [.ref hj, .int 0, .int 0, .int 0, .long 0, .int 0, .int 0])), (ht, .inr (3, [.ref hd, .int 0])), (hm, .inr (5, [.ref mr, .ref mc, .int 0, .int 0, .int 0, .int 0, .int xs, .int 0, .int 0, .int 0])), (mr, .inl (cmr, 4, .inl (fun _ => 0))), (mc, .inl (cmc, 32, .inl (fun _ => 0))), (hk, .inr (5, [.ref kr, .ref kc, .int 0, .int 0, .int 0, .int 0, .int xs, .int 0, .int 0, .int 0])), (kr, .inl (ckr, 4, .inl (fun _ => 0))), (kc, .inl (ckc, 32, .inl (fun _ => 0)))]) in_X tok_X nok_X 0 rfl rfl 7 (by decide) (zk_m tw_148) rfl rfl rfl rfl (Nat.le_of_ble_eq_true rfl) d_X_init_94 rfl ?_
  exact zk_nret (pc := 97) X hQ hRt hLk (hp, po, cPo, pf, cPf, ps, cPs, hj, jb, cJ, hr, ri, cR, ht, hd, hm, mr, cmr, mc, cmc, hk, kr, ckr, kc, ckc) trivial [0, 1, 2, 3, 4, 5, 6, 7, 8, 9, 10, 11, 12, 13, 14, 15, 16] rfl (by decide) [0, 1, 2, 3, 4, 5, 6, 7, 8] rfl (Nat.le_of_ble_eq_true rfl) (Nat.le_of_ble_eq_true rfl) d_X_init_97
abbrev rm_Y_init : Room := { frames := 1, cells := 9, slots := 1464, locals := 12 }
set_option maxHeartbeats 4000000 in
set_option maxRecDepth 100000 in
theorem c_Y_init (l : Launch) (dC : Nat → ClassId) (dI : Nat → Nat → Nat) (h : Nat) (xs : Int32) : zk_Cn l y_Y_init w_Y_init rm_Y_init (dC, dI) vwCl [.ref h, .int xs] [(h, .inr (7, [.int 0, .int 0, .null, .null, .null, .int 0, .null, .int 0, .int 0, .null, .int 0, .int 0, .null, .int 0, .int 0, .int 0, .int 0, .int 0, .null, .null, .null]))] [] 9 1464 (fun (_ : Nat × ClassId × Nat × ClassId × Nat × ClassId × Nat × ClassId × Nat × ClassId × Nat × ClassId × Nat × ClassId × Nat × ClassId × Nat × ClassId) => True) (fun u => [(h, .inr (7, [.int xs, .int 0, .ref u.1, .ref u.2.2.1, .ref u.2.2.2.2.1, .int 0, .ref u.2.2.2.2.2.2.1, .int 0, .int 0, .ref u.2.2.2.2.2.2.2.2.1, .int 0, .int 0, .ref u.2.2.2.2.2.2.2.2.2.2.1, .int 0, .int 0, .int 1, .int 0, .int 0, .ref u.2.2.2.2.2.2.2.2.2.2.2.2.1, .ref u.2.2.2.2.2.2.2.2.2.2.2.2.2.2.1, .ref u.2.2.2.2.2.2.2.2.2.2.2.2.2.2.2.2.1])), (u.1, .inl (u.2.1, 24, .inl (fun _ => 0))), (u.2.2.1, .inl (u.2.2.2.1, 24, .inl (fun _ => 0))), (u.2.2.2.2.1, .inl (u.2.2.2.2.2.1, 24, .inl (fun _ => 0))), (u.2.2.2.2.2.2.1, .inl (u.2.2.2.2.2.2.2.1, 96, .inl (upd (fun _ => 0) 11 xs))), (u.2.2.2.2.2.2.2.2.1, .inl (u.2.2.2.2.2.2.2.2.2.1, 16, .inl (fun _ => 0))), (u.2.2.2.2.2.2.2.2.2.2.1, .inl (u.2.2.2.2.2.2.2.2.2.2.2.1, 320, .inl (fun _ => 0))), (u.2.2.2.2.2.2.2.2.2.2.2.2.1, .inl (u.2.2.2.2.2.2.2.2.2.2.2.2.2.1, 320, .inr (.inl (fun _ => 0)))), (u.2.2.2.2.2.2.2.2.2.2.2.2.2.2.1, .inl (u.2.2.2.2.2.2.2.2.2.2.2.2.2.2.2.1, 320, .inl (fun _ => 0))), (u.2.2.2.2.2.2.2.2.2.2.2.2.2.2.2.2.1, .inl (u.2.2.2.2.2.2.2.2.2.2.2.2.2.2.2.2.2, 320, .inl (fun _ => 0)))]) (fun u => [(u.2.1, .int), (u.2.2.2.1, .int), (u.2.2.2.2.2.1, .int), (u.2.2.2.2.2.2.2.1, .int), (u.2.2.2.2.2.2.2.2.2.1, .int), (u.2.2.2.2.2.2.2.2.2.2.2.1, .int), (u.2.2.2.2.2.2.2.2.2.2.2.2.2.1, .long), (u.2.2.2.2.2.2.2.2.2.2.2.2.2.2.2.1, .int), (u.2.2.2.2.2.2.2.2.2.2.2.2.2.2.2.2.2, .int)]) := by
  refine zk_entern (cc := b_Y_init) (maxL := 2) (ret := none) (by decide) rfl (Nat.le_of_ble_eq_true rfl) ?_
  intro p e s m args below meth c A Q hQ X hRt hLk hNm
  refine zk_lv (lv' := [(0, .ref h), (1, .int xs)]) [0, 1] rfl ?_
  refine zk_aload_n (pc := 0) X d_Y_init_0 rfl (q := 0) rfl ?_
  refine zk_objInit (pc := 1) X (zk_m tw_361) (zk_m tw_18) (zk_m tw_19) d_Y_init_1 (Nat.le_of_ble_eq_true rfl) (Nat.le_of_ble_eq_true rfl) ?_
  refine zk_aload_n (pc := 4) X d_Y_init_4 rfl (q := 0) rfl ?_
  refine zk_bipush (pc := 5) X (v := 24) d_Y_init_5 (by decide) ?_
  refine zk_newa (pc := 7) X (atype := .int) (ty := .int) (N' := 24) (a0 := (24, .inl (fun _ => 0))) (zk_m tw_37) rfl (fun _ => rfl) (by decide) (by decide) (by decide) (Nat.le_of_ble_eq_true rfl) (Nat.le_of_ble_eq_true rfl) d_Y_init_7 (fun yo cYo X => ?_)
  refine zk_ws (ws' := [(h, .inr (7, [.int 0, .int 0, .null, .null, .null, .int 0, .null, .int 0, .int 0, .null, .int 0, .int 0, .null, .int 0, .int 0, .int 0, .int 0, .int 0, .null, .null, .null])), (yo, .inl (cYo, 24, .inl (fun _ => 0)))]) rfl ?_
  refine zk_putF (pc := 9) X (ty := (.array .int)) (v := .ref yo) (ws' := [(h, .inr (7, [.int 0, .int 0, .ref yo, .null, .null, .int 0, .null, .int 0, .int 0, .null, .int 0, .int 0, .null, .int 0, .int 0, .int 0, .int 0, .int 0, .null, .null, .null])), (yo, .inl (cYo, 24, .inl (fun _ => 0)))]) in_Y tok_Y nok_Y 0 rfl rfl 2 (by decide) (zk_m tw_364) rfl (hNm.trans rfl) rfl rfl rfl rfl (Nat.le_of_ble_eq_true rfl) d_Y_init_9 rfl ?_
  refine zk_aload_n (pc := 12) X d_Y_init_12 rfl (q := 0) rfl ?_
  refine zk_bipush (pc := 13) X (v := 24) d_Y_init_13 (by decide) ?_
  refine zk_newa (pc := 15) X (atype := .int) (ty := .int) (N' := 24) (a0 := (24, .inl (fun _ => 0))) (zk_m tw_37) rfl (fun _ => rfl) (by decide) (by decide) (by decide) (Nat.le_of_ble_eq_true rfl) (Nat.le_of_ble_eq_true rfl) d_Y_init_15 (fun yf cYf X => ?_)
  refine zk_ws (ws' := [(h, .inr (7, [.int 0, .int 0, .ref yo, .null, .null, .int 0, .null, .int 0, .int 0, .null, .int 0, .int 0, .null, .int 0, .int 0, .int 0, .int 0, .int 0, .null, .null, .null])), (yo, .inl (cYo, 24, .inl (fun _ => 0))), (yf, .inl (cYf, 24, .inl (fun _ => 0)))]) rfl ?_
  refine zk_putF (pc := 17) X (ty := (.array .int)) (v := .ref yf) (ws' := [(h, .inr (7, [.int 0, .int 0, .ref yo, .ref yf, .null, .int 0, .null, .int 0, .int 0, .null, .int 0, .int 0, .null, .int 0, .int 0, .int 0, .int 0, .int 0, .null, .null, .null])), (yo, .inl (cYo, 24, .inl (fun _ => 0))), (yf, .inl (cYf, 24, .inl (fun _ => 0)))]) in_Y tok_Y nok_Y 0 rfl rfl 3 (by decide) (zk_m tw_365) rfl (hNm.trans rfl) rfl rfl rfl rfl (Nat.le_of_ble_eq_true rfl) d_Y_init_17 rfl ?_
  refine zk_aload_n (pc := 20) X d_Y_init_20 rfl (q := 0) rfl ?_
  refine zk_bipush (pc := 21) X (v := 24) d_Y_init_21 (by decide) ?_
  refine zk_newa (pc := 23) X (atype := .int) (ty := .int) (N' := 24) (a0 := (24, .inl (fun _ => 0))) (zk_m tw_37) rfl (fun _ => rfl) (by decide) (by decide) (by decide) (Nat.le_of_ble_eq_true rfl) (Nat.le_of_ble_eq_true rfl) d_Y_init_23 (fun yb cYb X => ?_)
  refine zk_ws (ws' := [(h, .inr (7, [.int 0, .int 0, .ref yo, .ref yf, .null, .int 0, .null, .int 0, .int 0, .null, .int 0, .int 0, .null, .int 0, .int 0, .int 0, .int 0, .int 0, .null, .null, .null])), (yo, .inl (cYo, 24, .inl (fun _ => 0))), (yf, .inl (cYf, 24, .inl (fun _ => 0))), (yb, .inl (cYb, 24, .inl (fun _ => 0)))]) rfl ?_
  refine zk_putF (pc := 25) X (ty := (.array .int)) (v := .ref yb) (ws' := [(h, .inr (7, [.int 0, .int 0, .ref yo, .ref yf, .ref yb, .int 0, .null, .int 0, .int 0, .null, .int 0, .int 0, .null, .int 0, .int 0, .int 0, .int 0, .int 0, .null, .null, .null])), (yo, .inl (cYo, 24, .inl (fun _ => 0))), (yf, .inl (cYf, 24, .inl (fun _ => 0))), (yb, .inl (cYb, 24, .inl (fun _ => 0)))]) in_Y tok_Y nok_Y 0 rfl rfl 4 (by decide) (zk_m tw_366) rfl (hNm.trans rfl) rfl rfl rfl rfl (Nat.le_of_ble_eq_true rfl) d_Y_init_25 rfl ?_
  refine zk_aload_n (pc := 28) X d_Y_init_28 rfl (q := 0) rfl ?_
  refine zk_bipush (pc := 29) X (v := 96) d_Y_init_29 (by decide) ?_
  refine zk_newa (pc := 31) X (atype := .int) (ty := .int) (N' := 96) (a0 := (96, .inl (fun _ => 0))) (zk_m tw_37) rfl (fun _ => rfl) (by decide) (by decide) (by decide) (Nat.le_of_ble_eq_true rfl) (Nat.le_of_ble_eq_true rfl) d_Y_init_31 (fun ym cYm X => ?_)
  refine zk_ws (ws' := [(h, .inr (7, [.int 0, .int 0, .ref yo, .ref yf, .ref yb, .int 0, .null, .int 0, .int 0, .null, .int 0, .int 0, .null, .int 0, .int 0, .int 0, .int 0, .int 0, .null, .null, .null])), (yo, .inl (cYo, 24, .inl (fun _ => 0))), (yf, .inl (cYf, 24, .inl (fun _ => 0))), (yb, .inl (cYb, 24, .inl (fun _ => 0))), (ym, .inl (cYm, 96, .inl (fun _ => 0)))]) rfl ?_
  refine zk_putF (pc := 33) X (ty := (.array .int)) (v := .ref ym) (ws' := [(h, .inr (7, [.int 0, .int 0, .ref yo, .ref yf, .ref yb, .int 0, .ref ym, .int 0, .int 0, .null, .int 0, .int 0, .null, .int 0, .int 0, .int 0, .int 0, .int 0, .null, .null, .null])), (yo, .inl (cYo, 24, .inl (fun _ => 0))), (yf, .inl (cYf, 24, .inl (fun _ => 0))), (yb, .inl (cYb, 24, .inl (fun _ => 0))), (ym, .inl (cYm, 96, .inl (fun _ => 0)))]) in_Y tok_Y nok_Y 0 rfl rfl 6 (by decide) (zk_m tw_368) rfl (hNm.trans rfl) rfl rfl rfl rfl (Nat.le_of_ble_eq_true rfl) d_Y_init_33 rfl ?_
  refine zk_aload_n (pc := 36) X d_Y_init_36 rfl (q := 0) rfl ?_
  refine zk_bipush (pc := 37) X (v := 16) d_Y_init_37 (by decide) ?_
  refine zk_newa (pc := 39) X (atype := .int) (ty := .int) (N' := 16) (a0 := (16, .inl (fun _ => 0))) (zk_m tw_37) rfl (fun _ => rfl) (by decide) (by decide) (by decide) (Nat.le_of_ble_eq_true rfl) (Nat.le_of_ble_eq_true rfl) d_Y_init_39 (fun yi cYi X => ?_)
  refine zk_ws (ws' := [(h, .inr (7, [.int 0, .int 0, .ref yo, .ref yf, .ref yb, .int 0, .ref ym, .int 0, .int 0, .null, .int 0, .int 0, .null, .int 0, .int 0, .int 0, .int 0, .int 0, .null, .null, .null])), (yo, .inl (cYo, 24, .inl (fun _ => 0))), (yf, .inl (cYf, 24, .inl (fun _ => 0))), (yb, .inl (cYb, 24, .inl (fun _ => 0))), (ym, .inl (cYm, 96, .inl (fun _ => 0))), (yi, .inl (cYi, 16, .inl (fun _ => 0)))]) rfl ?_
  refine zk_putF (pc := 41) X (ty := (.array .int)) (v := .ref yi) (ws' := [(h, .inr (7, [.int 0, .int 0, .ref yo, .ref yf, .ref yb, .int 0, .ref ym, .int 0, .int 0, .ref yi, .int 0, .int 0, .null, .int 0, .int 0, .int 0, .int 0, .int 0, .null, .null, .null])), (yo, .inl (cYo, 24, .inl (fun _ => 0))), (yf, .inl (cYf, 24, .inl (fun _ => 0))), (yb, .inl (cYb, 24, .inl (fun _ => 0))), (ym, .inl (cYm, 96, .inl (fun _ => 0))), (yi, .inl (cYi, 16, .inl (fun _ => 0)))]) in_Y tok_Y nok_Y 0 rfl rfl 9 (by decide) (zk_m tw_371) rfl (hNm.trans rfl) rfl rfl rfl rfl (Nat.le_of_ble_eq_true rfl) d_Y_init_41 rfl ?_
  refine zk_aload_n (pc := 44) X d_Y_init_44 rfl (q := 0) rfl ?_
  refine zk_sipush (pc := 45) X (v := 320) d_Y_init_45 (by decide) ?_
  refine zk_newa (pc := 48) X (atype := .int) (ty := .int) (N' := 320) (a0 := (320, .inl (fun _ => 0))) (zk_m tw_37) rfl (fun _ => rfl) (by decide) (by decide) (by decide) (Nat.le_of_ble_eq_true rfl) (Nat.le_of_ble_eq_true rfl) d_Y_init_48 (fun yL cYL X => ?_)
  refine zk_ws (ws' := [(h, .inr (7, [.int 0, .int 0, .ref yo, .ref yf, .ref yb, .int 0, .ref ym, .int 0, .int 0, .ref yi, .int 0, .int 0, .null, .int 0, .int 0, .int 0, .int 0, .int 0, .null, .null, .null])), (yo, .inl (cYo, 24, .inl (fun _ => 0))), (yf, .inl (cYf, 24, .inl (fun _ => 0))), (yb, .inl (cYb, 24, .inl (fun _ => 0))), (ym, .inl (cYm, 96, .inl (fun _ => 0))), (yi, .inl (cYi, 16, .inl (fun _ => 0))), (yL, .inl (cYL, 320, .inl (fun _ => 0)))]) rfl ?_
  refine zk_putF (pc := 50) X (ty := (.array .int)) (v := .ref yL) (ws' := [(h, .inr (7, [.int 0, .int 0, .ref yo, .ref yf, .ref yb, .int 0, .ref ym, .int 0, .int 0, .ref yi, .int 0, .int 0, .ref yL, .int 0, .int 0, .int 0, .int 0, .int 0, .null, .null, .null])), (yo, .inl (cYo, 24, .inl (fun _ => 0))), (yf, .inl (cYf, 24, .inl (fun _ => 0))), (yb, .inl (cYb, 24, .inl (fun _ => 0))), (ym, .inl (cYm, 96, .inl (fun _ => 0))), (yi, .inl (cYi, 16, .inl (fun _ => 0))), (yL, .inl (cYL, 320, .inl (fun _ => 0)))]) in_Y tok_Y nok_Y 0 rfl rfl 12 (by decide) (zk_m tw_374) rfl (hNm.trans rfl) rfl rfl rfl rfl (Nat.le_of_ble_eq_true rfl) d_Y_init_50 rfl ?_
  refine zk_aload_n (pc := 53) X d_Y_init_53 rfl (q := 0) rfl ?_
  refine zk_iconst (pc := 54) X (v := 1) d_Y_init_54 rfl ?_
  refine zk_put (pc := 55) X (ty := .int) (v := .int 1) (ws' := [(h, .inr (7, [.int 0, .int 0, .ref yo, .ref yf, .ref yb, .int 0, .ref ym, .int 0, .int 0, .ref yi, .int 0, .int 0, .ref yL, .int 0, .int 0, .int 1, .int 0, .int 0, .null, .null, .null])), (yo, .inl (cYo, 24, .inl (fun _ => 0))), (yf, .inl (cYf, 24, .inl (fun _ => 0))), (yb, .inl (cYb, 24, .inl (fun _ => 0))), (ym, .inl (cYm, 96, .inl (fun _ => 0))), (yi, .inl (cYi, 16, .inl (fun _ => 0))), (yL, .inl (cYL, 320, .inl (fun _ => 0)))]) in_Y tok_Y nok_Y 0 rfl rfl 15 (by decide) (zk_m tw_377) rfl rfl rfl rfl (Nat.le_of_ble_eq_true rfl) d_Y_init_55 rfl ?_
  refine zk_aload_n (pc := 58) X d_Y_init_58 rfl (q := 0) rfl ?_
  refine zk_sipush (pc := 59) X (v := 320) d_Y_init_59 (by decide) ?_
  refine zk_newa (pc := 62) X (atype := .long) (ty := .long) (N' := 320) (a0 := (320, .inr (.inl (fun _ => 0)))) (zk_m tw_404) rfl (fun _ => rfl) (by decide) (by decide) (by decide) (Nat.le_of_ble_eq_true rfl) (Nat.le_of_ble_eq_true rfl) d_Y_init_62 (fun yT cYT X => ?_)
  refine zk_ws (ws' := [(h, .inr (7, [.int 0, .int 0, .ref yo, .ref yf, .ref yb, .int 0, .ref ym, .int 0, .int 0, .ref yi, .int 0, .int 0, .ref yL, .int 0, .int 0, .int 1, .int 0, .int 0, .null, .null, .null])), (yo, .inl (cYo, 24, .inl (fun _ => 0))), (yf, .inl (cYf, 24, .inl (fun _ => 0))), (yb, .inl (cYb, 24, .inl (fun _ => 0))), (ym, .inl (cYm, 96, .inl (fun _ => 0))), (yi, .inl (cYi, 16, .inl (fun _ => 0))), (yL, .inl (cYL, 320, .inl (fun _ => 0))), (yT, .inl (cYT, 320, .inr (.inl (fun _ => 0))))]) rfl ?_
  refine zk_putF (pc := 64) X (ty := (.array .long)) (v := .ref yT) (ws' := [(h, .inr (7, [.int 0, .int 0, .ref yo, .ref yf, .ref yb, .int 0, .ref ym, .int 0, .int 0, .ref yi, .int 0, .int 0, .ref yL, .int 0, .int 0, .int 1, .int 0, .int 0, .ref yT, .null, .null])), (yo, .inl (cYo, 24, .inl (fun _ => 0))), (yf, .inl (cYf, 24, .inl (fun _ => 0))), (yb, .inl (cYb, 24, .inl (fun _ => 0))), (ym, .inl (cYm, 96, .inl (fun _ => 0))), (yi, .inl (cYi, 16, .inl (fun _ => 0))), (yL, .inl (cYL, 320, .inl (fun _ => 0))), (yT, .inl (cYT, 320, .inr (.inl (fun _ => 0))))]) in_Y tok_Y nok_Y 0 rfl rfl 18 (by decide) (zk_m tw_380) rfl (hNm.trans rfl) rfl rfl rfl rfl (Nat.le_of_ble_eq_true rfl) d_Y_init_64 rfl ?_
  refine zk_aload_n (pc := 67) X d_Y_init_67 rfl (q := 0) rfl ?_
  refine zk_sipush (pc := 68) X (v := 320) d_Y_init_68 (by decide) ?_
  refine zk_newa (pc := 71) X (atype := .int) (ty := .int) (N' := 320) (a0 := (320, .inl (fun _ => 0))) (zk_m tw_37) rfl (fun _ => rfl) (by decide) (by decide) (by decide) (Nat.le_of_ble_eq_true rfl) (Nat.le_of_ble_eq_true rfl) d_Y_init_71 (fun yK cYK X => ?_)
  refine zk_ws (ws' := [(h, .inr (7, [.int 0, .int 0, .ref yo, .ref yf, .ref yb, .int 0, .ref ym, .int 0, .int 0, .ref yi, .int 0, .int 0, .ref yL, .int 0, .int 0, .int 1, .int 0, .int 0, .ref yT, .null, .null])), (yo, .inl (cYo, 24, .inl (fun _ => 0))), (yf, .inl (cYf, 24, .inl (fun _ => 0))), (yb, .inl (cYb, 24, .inl (fun _ => 0))), (ym, .inl (cYm, 96, .inl (fun _ => 0))), (yi, .inl (cYi, 16, .inl (fun _ => 0))), (yL, .inl (cYL, 320, .inl (fun _ => 0))), (yT, .inl (cYT, 320, .inr (.inl (fun _ => 0)))), (yK, .inl (cYK, 320, .inl (fun _ => 0)))]) rfl ?_
  refine zk_putF (pc := 73) X (ty := (.array .int)) (v := .ref yK) (ws' := [(h, .inr (7, [.int 0, .int 0, .ref yo, .ref yf, .ref yb, .int 0, .ref ym, .int 0, .int 0, .ref yi, .int 0, .int 0, .ref yL, .int 0, .int 0, .int 1, .int 0, .int 0, .ref yT, .ref yK, .null])), (yo, .inl (cYo, 24, .inl (fun _ => 0))), (yf, .inl (cYf, 24, .inl (fun _ => 0))), (yb, .inl (cYb, 24, .inl (fun _ => 0))), (ym, .inl (cYm, 96, .inl (fun _ => 0))), (yi, .inl (cYi, 16, .inl (fun _ => 0))), (yL, .inl (cYL, 320, .inl (fun _ => 0))), (yT, .inl (cYT, 320, .inr (.inl (fun _ => 0)))), (yK, .inl (cYK, 320, .inl (fun _ => 0)))]) in_Y tok_Y nok_Y 0 rfl rfl 19 (by decide) (zk_m tw_381) rfl (hNm.trans rfl) rfl rfl rfl rfl (Nat.le_of_ble_eq_true rfl) d_Y_init_73 rfl ?_
  refine zk_aload_n (pc := 76) X d_Y_init_76 rfl (q := 0) rfl ?_
  refine zk_sipush (pc := 77) X (v := 320) d_Y_init_77 (by decide) ?_
  refine zk_newa (pc := 80) X (atype := .int) (ty := .int) (N' := 320) (a0 := (320, .inl (fun _ => 0))) (zk_m tw_37) rfl (fun _ => rfl) (by decide) (by decide) (by decide) (Nat.le_of_ble_eq_true rfl) (Nat.le_of_ble_eq_true rfl) d_Y_init_80 (fun yV cYV X => ?_)
  refine zk_ws (ws' := [(h, .inr (7, [.int 0, .int 0, .ref yo, .ref yf, .ref yb, .int 0, .ref ym, .int 0, .int 0, .ref yi, .int 0, .int 0, .ref yL, .int 0, .int 0, .int 1, .int 0, .int 0, .ref yT, .ref yK, .null])), (yo, .inl (cYo, 24, .inl (fun _ => 0))), (yf, .inl (cYf, 24, .inl (fun _ => 0))), (yb, .inl (cYb, 24, .inl (fun _ => 0))), (ym, .inl (cYm, 96, .inl (fun _ => 0))), (yi, .inl (cYi, 16, .inl (fun _ => 0))), (yL, .inl (cYL, 320, .inl (fun _ => 0))), (yT, .inl (cYT, 320, .inr (.inl (fun _ => 0)))), (yK, .inl (cYK, 320, .inl (fun _ => 0))), (yV, .inl (cYV, 320, .inl (fun _ => 0)))]) rfl ?_
  refine zk_putF (pc := 82) X (ty := (.array .int)) (v := .ref yV) (ws' := [(h, .inr (7, [.int 0, .int 0, .ref yo, .ref yf, .ref yb, .int 0, .ref ym, .int 0, .int 0, .ref yi, .int 0, .int 0, .ref yL, .int 0, .int 0, .int 1, .int 0, .int 0, .ref yT, .ref yK, .ref yV])), (yo, .inl (cYo, 24, .inl (fun _ => 0))), (yf, .inl (cYf, 24, .inl (fun _ => 0))), (yb, .inl (cYb, 24, .inl (fun _ => 0))), (ym, .inl (cYm, 96, .inl (fun _ => 0))), (yi, .inl (cYi, 16, .inl (fun _ => 0))), (yL, .inl (cYL, 320, .inl (fun _ => 0))), (yT, .inl (cYT, 320, .inr (.inl (fun _ => 0)))), (yK, .inl (cYK, 320, .inl (fun _ => 0))), (yV, .inl (cYV, 320, .inl (fun _ => 0)))]) in_Y tok_Y nok_Y 0 rfl rfl 20 (by decide) (zk_m tw_382) rfl (hNm.trans rfl) rfl rfl rfl rfl (Nat.le_of_ble_eq_true rfl) d_Y_init_82 rfl ?_
  refine zk_aload_n (pc := 85) X d_Y_init_85 rfl (q := 0) rfl ?_
  refine zk_iload_n (pc := 86) X d_Y_init_86 rfl (q := 1) rfl ?_
  refine zk_putF (pc := 87) X (ty := .int) (v := .int xs) (ws' := [(h, .inr (7, [.int xs, .int 0, .ref yo, .ref yf, .ref yb, .int 0, .ref ym, .int 0, .int 0, .ref yi, .int 0, .int 0, .ref yL, .int 0, .int 0, .int 1, .int 0, .int 0, .ref yT, .ref yK, .ref yV])), (yo, .inl (cYo, 24, .inl (fun _ => 0))), (yf, .inl (cYf, 24, .inl (fun _ => 0))), (yb, .inl (cYb, 24, .inl (fun _ => 0))), (ym, .inl (cYm, 96, .inl (fun _ => 0))), (yi, .inl (cYi, 16, .inl (fun _ => 0))), (yL, .inl (cYL, 320, .inl (fun _ => 0))), (yT, .inl (cYT, 320, .inr (.inl (fun _ => 0)))), (yK, .inl (cYK, 320, .inl (fun _ => 0))), (yV, .inl (cYV, 320, .inl (fun _ => 0)))]) in_Y tok_Y nok_Y 0 rfl rfl 0 (by decide) (zk_m tw_362) rfl (hNm.trans rfl) rfl rfl rfl rfl (Nat.le_of_ble_eq_true rfl) d_Y_init_87 rfl ?_
  refine zk_aload_n (pc := 90) X d_Y_init_90 rfl (q := 0) rfl ?_
  refine zk_get (pc := 91) X (ci := 7) (v := .ref ym) in_Y 0 rfl rfl 6 (by decide) (zk_m tw_368) rfl d_Y_init_91 ?_
  refine zk_bipush (pc := 94) X (v := 11) d_Y_init_94 (by decide) ?_
  refine zk_iload_n (pc := 96) X d_Y_init_96 rfl (q := 1) rfl ?_
  refine zk_iast (pc := 97) X 4 3 (ws' := [(h, .inr (7, [.int xs, .int 0, .ref yo, .ref yf, .ref yb, .int 0, .ref ym, .int 0, .int 0, .ref yi, .int 0, .int 0, .ref yL, .int 0, .int 0, .int 1, .int 0, .int 0, .ref yT, .ref yK, .ref yV])), (yo, .inl (cYo, 24, .inl (fun _ => 0))), (yf, .inl (cYf, 24, .inl (fun _ => 0))), (yb, .inl (cYb, 24, .inl (fun _ => 0))), (ym, .inl (cYm, 96, .inl (upd (fun _ => 0) 11 xs))), (yi, .inl (cYi, 16, .inl (fun _ => 0))), (yL, .inl (cYL, 320, .inl (fun _ => 0))), (yT, .inl (cYT, 320, .inr (.inl (fun _ => 0)))), (yK, .inl (cYK, 320, .inl (fun _ => 0))), (yV, .inl (cYV, 320, .inl (fun _ => 0)))]) (11) rfl rfl rfl (by decide) (by decide) d_Y_init_97 rfl ?_
  exact zk_nret (pc := 98) X hQ hRt hLk (yo, cYo, yf, cYf, yb, cYb, ym, cYm, yi, cYi, yL, cYL, yT, cYT, yK, cYK, yV, cYV) trivial [0, 1, 2, 3, 4, 5, 6, 7, 8, 9] rfl (by decide) [0, 1, 2, 3, 4, 5, 6, 7, 8] rfl (Nat.le_of_ble_eq_true rfl) (Nat.le_of_ble_eq_true rfl) d_Y_init_98
