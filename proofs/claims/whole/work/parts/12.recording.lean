def sp_R_restart : Nat × Int32 × Int32 × Int32 :=
  (0, 0, 0, 0)
abbrev rm_R_restart : Room := { frames := 0, cells := 0, slots := 0, locals := 0 }
set_option maxHeartbeats 4000000 in
set_option maxRecDepth 100000 in
theorem c_R_restart (l : Launch) (dC : Nat → ClassId) (dI : Nat → Nat → Nat) (hr hj ri : Nat) (cR : ClassId) (fi : Nat → Int32) (rw : Nat) (rt : Int32) (rq : Int32) (rc : Int32) : zk_Cv l y_R_restart w_R_restart rm_R_restart (dC, dI) vwCl [.ref hr] [(hr, .inr (2, [.ref hj, .ref ri, .int (nI rw), .int rt, .int rq, .int rc])), (ri, .inl (cR, 16, .inl fi))] [(cR, .int)] (fun (u : Nat × Int32 × Int32 × Int32) => u = sp_R_restart) (fun u => [(hr, .inr (2, [.ref hj, .ref ri, .int (nI u.1), .int u.2.1, .int u.2.2.1, .int u.2.2.2])), (ri, .inl (cR, 16, .inl fi))]) := by
  refine zk_enterv (cc := b_R_restart) (maxL := 1) (ret := none) (by decide) rfl (Nat.le_of_ble_eq_true rfl) ?_
  intro p e s m args below meth c A Q hQ X hRt hLk
  have hq := sp_R_restart.eq_1
  refine zk_lv (lv' := [(0, .ref hr)]) [0] rfl ?_
  refine zk_aload_n (pc := 0) X d_R_restart_0 rfl (q := 0) rfl ?_
  refine zk_iconst (pc := 1) X (v := 0) d_R_restart_1 rfl ?_
  refine zk_put (pc := 2) X (ty := .int) (v := .int 0) (ws' := [(hr, .inr (2, [.ref hj, .ref ri, .int 0, .int rt, .int rq, .int rc])), (ri, .inl (cR, 16, .inl fi))]) in_R tok_R nok_R 0 rfl rfl 2 (by decide) (zk_m tw_68) rfl rfl rfl rfl (Nat.le_of_ble_eq_true rfl) d_R_restart_2 rfl ?_
  refine zk_aload_n (pc := 5) X d_R_restart_5 rfl (q := 0) rfl ?_
  refine zk_iconst (pc := 6) X (v := 0) d_R_restart_6 rfl ?_
  refine zk_put (pc := 7) X (ty := .int) (v := .int 0) (ws' := [(hr, .inr (2, [.ref hj, .ref ri, .int 0, .int 0, .int rq, .int rc])), (ri, .inl (cR, 16, .inl fi))]) in_R tok_R nok_R 0 rfl rfl 3 (by decide) (zk_m tw_69) rfl rfl rfl rfl (Nat.le_of_ble_eq_true rfl) d_R_restart_7 rfl ?_
  refine zk_aload_n (pc := 10) X d_R_restart_10 rfl (q := 0) rfl ?_
  refine zk_iconst (pc := 11) X (v := 0) d_R_restart_11 rfl ?_
  refine zk_put (pc := 12) X (ty := .boolean) (v := .int 0) (ws' := [(hr, .inr (2, [.ref hj, .ref ri, .int 0, .int 0, .int 0, .int rc])), (ri, .inl (cR, 16, .inl fi))]) in_R tok_R nok_R 0 rfl rfl 4 (by decide) (zk_m tw_70) rfl rfl rfl rfl (Nat.le_of_ble_eq_true rfl) d_R_restart_12 rfl ?_
  refine zk_aload_n (pc := 15) X d_R_restart_15 rfl (q := 0) rfl ?_
  refine zk_iconst (pc := 16) X (v := 0) d_R_restart_16 rfl ?_
  refine zk_put (pc := 17) X (ty := .int) (v := .int 0) (ws' := [(hr, .inr (2, [.ref hj, .ref ri, .int 0, .int 0, .int 0, .int 0])), (ri, .inl (cR, 16, .inl fi))]) in_R tok_R nok_R 0 rfl rfl 5 (by decide) (zk_m tw_72) rfl rfl rfl rfl (Nat.le_of_ble_eq_true rfl) d_R_restart_17 rfl ?_
  exact zk_vret (pc := 20) X hQ hRt hLk (0, 0, 0, 0) hq.symm [0, 1] rfl (by decide) d_R_restart_20
def sp_R_addInput (v : Int32) (fi : Nat → Int32) (rw : Nat) : Int32 × (Nat → Int32) × Nat :=
  if rw < 16 then
    (nI (rw + 1), (upd fi rw v), rw + 1)
  else
    ((-1), fi, rw)
abbrev rm_R_addInput : Room := { frames := 0, cells := 0, slots := 0, locals := 0 }
set_option maxHeartbeats 4000000 in
set_option maxRecDepth 100000 in
theorem c_R_addInput (l : Launch) (dC : Nat → ClassId) (dI : Nat → Nat → Nat) (hr hj ri : Nat) (cR : ClassId) (v : Int32) (fi : Nat → Int32) (rw : Nat) (rt : Int32) (rq : Int32) (rc : Int32) (hrw : rw ≤ 16) : zk_Ci l y_R_addInput w_R_addInput rm_R_addInput (dC, dI) vwCl [.ref hr, .int v] [(hr, .inr (2, [.ref hj, .ref ri, .int (nI rw), .int rt, .int rq, .int rc])), (ri, .inl (cR, 16, .inl fi))] [(cR, .int)] (fun (r : Int32) (u : (Nat → Int32) × Nat) => (r, u) = sp_R_addInput v fi rw ∧ (u.2 ≤ 16)) (fun u => [(hr, .inr (2, [.ref hj, .ref ri, .int (nI u.2), .int rt, .int rq, .int rc])), (ri, .inl (cR, 16, .inl u.1))]) := by
  refine zk_enteri (cc := b_R_addInput) (maxL := 2) (ret := some .int) (by decide) rfl (Nat.le_of_ble_eq_true rfl) ?_
  intro p e s m args below meth c A Q hQ X hRt hLk
  have hq := sp_R_addInput.eq_1 v fi rw
  refine zk_lv (lv' := [(0, .ref hr), (1, .int v)]) [0, 1] rfl ?_
  refine zk_aload_n (pc := 0) X d_R_addInput_0 rfl (q := 0) rfl ?_
  refine zk_get (pc := 1) X (ci := 2) (v := .int (nI rw)) in_R 0 rfl rfl 2 (by decide) (zk_m tw_68) rfl d_R_addInput_1 ?_
  refine zk_bipush (pc := 4) X (v := 16) d_R_addInput_4 (by decide) ?_
  refine zk_icmpN_lt (pc := 6) X (tgt := 11) (rw) (16) rfl rfl (by omega) (by omega) d_R_addInput_6 (by decide) (fun h6 => ?_) (fun h6 => ?_)
  · have hq := hq.trans (if_pos h6)
    refine zk_aload_n (pc := 11) X d_R_addInput_11 rfl (q := 0) rfl ?_
    refine zk_get (pc := 12) X (ci := 2) (v := .ref ri) in_R 0 rfl rfl 1 (by decide) (zk_m tw_67) rfl d_R_addInput_12 ?_
    refine zk_aload_n (pc := 15) X d_R_addInput_15 rfl (q := 0) rfl ?_
    refine zk_get (pc := 16) X (ci := 2) (v := .int (nI rw)) in_R 0 rfl rfl 2 (by decide) (zk_m tw_68) rfl d_R_addInput_16 ?_
    refine zk_iload_n (pc := 19) X d_R_addInput_19 rfl (q := 1) rfl ?_
    refine zk_iast (pc := 20) X 1 0 (ws' := [(hr, .inr (2, [.ref hj, .ref ri, .int (nI rw), .int rt, .int rq, .int rc])), (ri, .inl (cR, 16, .inl (upd fi rw v)))]) (rw) rfl rfl rfl (by omega) (by decide) d_R_addInput_20 rfl ?_
    refine zk_aload_n (pc := 21) X d_R_addInput_21 rfl (q := 0) rfl ?_
    refine zk_dup (pc := 22) X d_R_addInput_22 rfl ?_
    refine zk_get (pc := 23) X (ci := 2) (v := .int (nI rw)) in_R 0 rfl rfl 2 (by decide) (zk_m tw_68) rfl d_R_addInput_23 ?_
    refine zk_iconst (pc := 26) X (v := 1) d_R_addInput_26 rfl ?_
    refine zk_iadd (pc := 27) X (v := nI (rw + 1)) d_R_addInput_27 (nI_add (rw) (1)) ?_
    refine zk_put (pc := 28) X (ty := .int) (v := .int (nI (rw + 1))) (ws' := [(hr, .inr (2, [.ref hj, .ref ri, .int (nI (rw + 1)), .int rt, .int rq, .int rc])), (ri, .inl (cR, 16, .inl (upd fi rw v)))]) in_R tok_R nok_R 0 rfl rfl 2 (by decide) (zk_m tw_68) rfl rfl rfl rfl (Nat.le_of_ble_eq_true rfl) d_R_addInput_28 rfl ?_
    refine zk_aload_n (pc := 31) X d_R_addInput_31 rfl (q := 0) rfl ?_
    refine zk_get (pc := 32) X (ci := 2) (v := .int (nI (rw + 1))) in_R 0 rfl rfl 2 (by decide) (zk_m tw_68) rfl d_R_addInput_32 ?_
    exact zk_iret (pc := 35) X hQ hRt hLk ((upd fi rw v), rw + 1) ⟨hq.symm, (show (rw + 1) ≤ 16 by omega)⟩ [0, 1] rfl (by decide) d_R_addInput_35
  · have hq := hq.trans (if_neg h6)
    refine zk_iconst (pc := 9) X (v := (-1)) d_R_addInput_9 rfl ?_
    exact zk_iret (pc := 10) X hQ hRt hLk (fi, rw) ⟨hq.symm, (show rw ≤ 16 by omega)⟩ [0, 1] rfl (by decide) d_R_addInput_10
def sp_R_takeInterrupt (step : Int32) (rq : Int32) (fb : Nat → Int32) (jn : Nat) (jm : Int32) (jS : Int32) (jl : Int32) : Int32 × Int32 × (Nat → Int32) × Nat × Int32 × Int32 × Int32 :=
  if rq = 0 then
    (0, rq, fb, jn, jm, jS, jl)
  else
    (match sp_J_beginEntry step 3 fb jn jm jS jl with
    | (fb_20, jn_20, jm_20, jS_20, jl_20) =>
      (1, 0, fb_20, jn_20, jm_20, jS_20, jl_20))
abbrev rm_R_takeInterrupt : Room := { frames := 4, cells := 0, slots := 0, locals := 90 }
set_option maxHeartbeats 4000000 in
set_option maxRecDepth 100000 in
theorem c_R_takeInterrupt (l : Launch) (dC : Nat → ClassId) (dI : Nat → Nat → Nat) (hr hj ri jb : Nat) (cR cJ : ClassId) (step : Int32) (fi : Nat → Int32) (rw : Nat) (rt : Int32) (rq : Int32) (rc : Int32) (fb : Nat → Int32) (jn : Nat) (jm : Int32) (jS : Int32) (jl : Int32) (hjn : jn ≤ 300) : zk_Ci l y_R_takeInterrupt w_R_takeInterrupt rm_R_takeInterrupt (dC, dI) vwCl [.ref hr, .int step] [(hr, .inr (2, [.ref hj, .ref ri, .int (nI rw), .int rt, .int rq, .int rc])), (ri, .inl (cR, 16, .inl fi)), (hj, .inr (1, [.ref jb, .int (nI jn), .int jm, .int jS, .int jl])), (jb, .inl (cJ, 300, .inl fb))] [(cR, .int), (cJ, .int)] (fun (r : Int32) (u : Int32 × (Nat → Int32) × Nat × Int32 × Int32 × Int32) => (r, u) = sp_R_takeInterrupt step rq fb jn jm jS jl ∧ (u.2.2.1 ≤ 300)) (fun u => [(hr, .inr (2, [.ref hj, .ref ri, .int (nI rw), .int rt, .int u.1, .int rc])), (ri, .inl (cR, 16, .inl fi)), (hj, .inr (1, [.ref jb, .int (nI u.2.2.1), .int u.2.2.2.1, .int u.2.2.2.2.1, .int u.2.2.2.2.2])), (jb, .inl (cJ, 300, .inl u.2.1))]) := by
  refine zk_enteri (cc := b_R_takeInterrupt) (maxL := 2) (ret := some .boolean) (by decide) rfl (Nat.le_of_ble_eq_true rfl) ?_
  intro p e s m args below meth c A Q hQ X hRt hLk
  have hq := sp_R_takeInterrupt.eq_1 step rq fb jn jm jS jl
  refine zk_lv (lv' := [(0, .ref hr), (1, .int step)]) [0, 1] rfl ?_
  refine zk_aload_n (pc := 0) X d_R_takeInterrupt_0 rfl (q := 0) rfl ?_
  refine zk_get (pc := 1) X (ci := 2) (v := .int rq) in_R 0 rfl rfl 4 (by decide) (zk_m tw_70) rfl d_R_takeInterrupt_1 ?_
  refine zk_if_ne (pc := 4) X (tgt := 9) d_R_takeInterrupt_4 (by decide) (fun h4 => ?_) (fun h4 => ?_)
  · have hq := hq.trans (if_neg h4)
    refine zk_aload_n (pc := 9) X d_R_takeInterrupt_9 rfl (q := 0) rfl ?_
    refine zk_iconst (pc := 10) X (v := 0) d_R_takeInterrupt_10 rfl ?_
    refine zk_put (pc := 11) X (ty := .boolean) (v := .int 0) (ws' := [(hr, .inr (2, [.ref hj, .ref ri, .int (nI rw), .int rt, .int 0, .int rc])), (ri, .inl (cR, 16, .inl fi)), (hj, .inr (1, [.ref jb, .int (nI jn), .int jm, .int jS, .int jl])), (jb, .inl (cJ, 300, .inl fb))]) in_R tok_R nok_R 0 rfl rfl 4 (by decide) (zk_m tw_70) rfl rfl rfl rfl (Nat.le_of_ble_eq_true rfl) d_R_takeInterrupt_11 rfl ?_
    refine zk_aload_n (pc := 14) X d_R_takeInterrupt_14 rfl (q := 0) rfl ?_
    refine zk_get (pc := 15) X (ci := 2) (v := .ref hj) in_R 0 rfl rfl 0 (by decide) (zk_m tw_66) rfl d_R_takeInterrupt_15 ?_
    refine zk_iload_n (pc := 18) X d_R_takeInterrupt_18 rfl (q := 1) rfl ?_
    refine zk_iconst (pc := 19) X (v := 3) d_R_takeInterrupt_19 rfl ?_
    refine zk_callv (pc := 20) X (wc := [(hj, .inr (1, [.ref jb, .int (nI jn), .int jm, .int jS, .int jl])), (jb, .inl (cJ, 300, .inl fb))]) (wr := [(hr, .inr (2, [.ref hj, .ref ri, .int (nI rw), .int rt, .int 0, .int rc])), (ri, .inl (cR, 16, .inl fi))]) [2, 3] [0, 1] rfl rfl (by decide) (by decide) (by decide) (zk_runV X (C := R_J) (tysC := [(cJ, .int)]) (As := [.int step, .int 3]) (rest := []) (c_J_beginEntry l dC dI hj jb cJ step 3 fb jn jm jS jl (by omega)) [1] rfl (ci := 1) rfl 2 rfl (zk_cwV 2 X.1.2.2.2.2 (zk_goodT tw_224) rfl rfl rfl (zk_m tw_221) (zk_m tw_222) (zk_m tw_223) (zk_m tw_3) rfl (by decide +kernel) ⟨Nat.le_of_ble_eq_true rfl, Nat.le_of_ble_eq_true rfl⟩) rfl rfl (Nat.le_of_ble_eq_true rfl) ⟨Nat.zero_le _, Nat.zero_le _⟩ d_R_takeInterrupt_20) ?_
    rintro ⟨fb_20, jn_20, jm_20, jS_20, jl_20⟩ ⟨w20, f20_0⟩
    have f20_0 : jn_20 ≤ 300 := f20_0
    refine zk_ws (ws' := [(hr, .inr (2, [.ref hj, .ref ri, .int (nI rw), .int rt, .int 0, .int rc])), (ri, .inl (cR, 16, .inl fi)), (hj, .inr (1, [.ref jb, .int (nI jn_20), .int jm_20, .int jS_20, .int jl_20])), (jb, .inl (cJ, 300, .inl fb_20))]) rfl ?_
    try dsimp only at w20
    rw [← w20] at hq
    try dsimp only at hq
    refine zk_iconst (pc := 23) X (v := 1) d_R_takeInterrupt_23 rfl ?_
    exact zk_zret (pc := 24) X hQ hRt hLk rfl (0, fb_20, jn_20, jm_20, jS_20, jl_20) ⟨hq.symm, (show jn_20 ≤ 300 by omega)⟩ [0, 1, 2, 3] rfl (by decide) d_R_takeInterrupt_24
  · have hq := hq.trans (if_pos h4)
    refine zk_iconst (pc := 7) X (v := 0) d_R_takeInterrupt_7 rfl ?_
    exact zk_zret (pc := 8) X hQ hRt hLk rfl (rq, fb, jn, jm, jS, jl) ⟨hq.symm, (show jn ≤ 300 by omega)⟩ [0, 1, 2, 3] rfl (by decide) d_R_takeInterrupt_8
def sp_R_takeInput (step : Int32) (fi : Nat → Int32) (rw : Nat) (fb : Nat → Int32) (jn : Nat) (jm : Int32) (jS : Int32) (jl : Int32) : Int32 × (Nat → Int32) × Nat × (Nat → Int32) × Nat × Int32 × Int32 × Int32 :=
  if rw = 0 then
    (0, fi, rw, fb, jn, jm, jS, jl)
  else
    (match sp_J_beginEntry step 1 fb jn jm jS jl with
    | (fb_49, jn_49, jm_49, jS_49, jl_49) =>
      if (fi 0) < 0 then
        (match sp_J_writeNumber (((-2) * (fi 0)) - 1) fb_49 jn_49 jS_49 with
        | (fb_72, jn_72, jS_72) =>
          ((fi 0), (va_cpy fi fi 1 0 ((rw - 1))), (rw - 1), fb_72, jn_72, jm_49, jS_72, jl_49))
      else
        (match sp_J_writeNumber (2 * (fi 0)) fb_49 jn_49 jS_49 with
        | (fb_72, jn_72, jS_72) =>
          ((fi 0), (va_cpy fi fi 1 0 ((rw - 1))), (rw - 1), fb_72, jn_72, jm_49, jS_72, jl_49)))
abbrev rm_R_takeInput : Room := { frames := 4, cells := 0, slots := 0, locals := 90 }
set_option maxHeartbeats 4000000 in
set_option maxRecDepth 100000 in
theorem c_R_takeInput (l : Launch) (dC : Nat → ClassId) (dI : Nat → Nat → Nat) (hr hj ri jb : Nat) (cR cJ : ClassId) (step : Int32) (fi : Nat → Int32) (rw : Nat) (rt : Int32) (rq : Int32) (rc : Int32) (fb : Nat → Int32) (jn : Nat) (jm : Int32) (jS : Int32) (jl : Int32) (hrw : rw ≤ 16) (hjn : jn ≤ 300) : zk_Ci l y_R_takeInput w_R_takeInput rm_R_takeInput (dC, dI) vwCl [.ref hr, .int step] [(hr, .inr (2, [.ref hj, .ref ri, .int (nI rw), .int rt, .int rq, .int rc])), (ri, .inl (cR, 16, .inl fi)), (hj, .inr (1, [.ref jb, .int (nI jn), .int jm, .int jS, .int jl])), (jb, .inl (cJ, 300, .inl fb))] [(cR, .int), (cJ, .int)] (fun (r : Int32) (u : (Nat → Int32) × Nat × (Nat → Int32) × Nat × Int32 × Int32 × Int32) => (r, u) = sp_R_takeInput step fi rw fb jn jm jS jl ∧ (u.2.1 ≤ 16) ∧ (u.2.2.2.1 ≤ 300)) (fun u => [(hr, .inr (2, [.ref hj, .ref ri, .int (nI u.2.1), .int rt, .int rq, .int rc])), (ri, .inl (cR, 16, .inl u.1)), (hj, .inr (1, [.ref jb, .int (nI u.2.2.2.1), .int u.2.2.2.2.1, .int u.2.2.2.2.2.1, .int u.2.2.2.2.2.2])), (jb, .inl (cJ, 300, .inl u.2.2.1))]) := by
  refine zk_enteri (cc := b_R_takeInput) (maxL := 3) (ret := some .int) (by decide) rfl (Nat.le_of_ble_eq_true rfl) ?_
  intro p e s m args below meth c A Q hQ X hRt hLk
  have hq := sp_R_takeInput.eq_1 step fi rw fb jn jm jS jl
  refine zk_lv (lv' := [(0, .ref hr), (1, .int step)]) [0, 1] rfl ?_
  refine zk_aload_n (pc := 0) X d_R_takeInput_0 rfl (q := 0) rfl ?_
  refine zk_get (pc := 1) X (ci := 2) (v := .int (nI rw)) in_R 0 rfl rfl 2 (by decide) (zk_m tw_68) rfl d_R_takeInput_1 ?_
  refine zk_ifN_ne (pc := 4) X (tgt := 9) (rw) rfl (by omega) d_R_takeInput_4 (by decide) (fun h4 => ?_) (fun h4 => ?_)
  · have hq := hq.trans (if_neg h4)
    refine zk_aload_n (pc := 9) X d_R_takeInput_9 rfl (q := 0) rfl ?_
    refine zk_get (pc := 10) X (ci := 2) (v := .ref ri) in_R 0 rfl rfl 1 (by decide) (zk_m tw_67) rfl d_R_takeInput_10 ?_
    refine zk_iconst (pc := 13) X (v := 0) d_R_takeInput_13 rfl ?_
    refine zk_iald (pc := 14) X 1 0 (0) rfl rfl rfl (by decide) (by decide) d_R_takeInput_14 ?_
    refine zk_istore_n (pc := 15) X (i := 2) (lv' := [(2, .int (fi 0)), (0, .ref hr), (1, .int step)]) d_R_takeInput_15 rfl (by decide) rfl ?_
    refine zk_aload_n (pc := 16) X d_R_takeInput_16 rfl (q := 1) rfl ?_
    refine zk_dup (pc := 17) X d_R_takeInput_17 rfl ?_
    refine zk_get (pc := 18) X (ci := 2) (v := .int (nI rw)) in_R 0 rfl rfl 2 (by decide) (zk_m tw_68) rfl d_R_takeInput_18 ?_
    refine zk_iconst (pc := 21) X (v := 1) d_R_takeInput_21 rfl ?_
    refine zk_isub (pc := 22) X (v := nI ((rw - 1))) d_R_takeInput_22 (pk_sub (a := rw) (b := 1) (by omega)) ?_
    refine zk_put (pc := 23) X (ty := .int) (v := .int (nI ((rw - 1)))) (ws' := [(hr, .inr (2, [.ref hj, .ref ri, .int (nI ((rw - 1))), .int rt, .int rq, .int rc])), (ri, .inl (cR, 16, .inl fi)), (hj, .inr (1, [.ref jb, .int (nI jn), .int jm, .int jS, .int jl])), (jb, .inl (cJ, 300, .inl fb))]) in_R tok_R nok_R 0 rfl rfl 2 (by decide) (zk_m tw_68) rfl rfl rfl rfl (Nat.le_of_ble_eq_true rfl) d_R_takeInput_23 rfl ?_
    refine zk_aload_n (pc := 26) X d_R_takeInput_26 rfl (q := 1) rfl ?_
    refine zk_get (pc := 27) X (ci := 2) (v := .ref ri) in_R 0 rfl rfl 1 (by decide) (zk_m tw_67) rfl d_R_takeInput_27 ?_
    refine zk_iconst (pc := 30) X (v := 1) d_R_takeInput_30 rfl ?_
    refine zk_aload_n (pc := 31) X d_R_takeInput_31 rfl (q := 1) rfl ?_
    refine zk_get (pc := 32) X (ci := 2) (v := .ref ri) in_R 0 rfl rfl 1 (by decide) (zk_m tw_67) rfl d_R_takeInput_32 ?_
    refine zk_iconst (pc := 35) X (v := 0) d_R_takeInput_35 rfl ?_
    refine zk_aload_n (pc := 36) X d_R_takeInput_36 rfl (q := 1) rfl ?_
    refine zk_get (pc := 37) X (ci := 2) (v := .int (nI ((rw - 1)))) in_R 0 rfl rfl 2 (by decide) (zk_m tw_68) rfl d_R_takeInput_37 ?_
    refine zk_copy (pc := 40) X (ws' := [(hr, .inr (2, [.ref hj, .ref ri, .int (nI ((rw - 1))), .int rt, .int rq, .int rc])), (ri, .inl (cR, 16, .inl (va_cpy fi fi 1 0 ((rw - 1))))), (hj, .inr (1, [.ref jb, .int (nI jn), .int jm, .int jS, .int jl])), (jb, .inl (cJ, 300, .inl fb))]) (zk_m tw_260) (zk_m tw_262) (zk_m tw_261) (zk_m tw_11) 1 0 1 0 ((rw - 1)) rfl rfl rfl rfl rfl (by omega) (by omega) (by decide) (Nat.le_of_ble_eq_true rfl) (Nat.le_of_ble_eq_true rfl) d_R_takeInput_40 rfl ?_
    refine zk_aload_n (pc := 43) X d_R_takeInput_43 rfl (q := 1) rfl ?_
    refine zk_get (pc := 44) X (ci := 2) (v := .ref hj) in_R 0 rfl rfl 0 (by decide) (zk_m tw_66) rfl d_R_takeInput_44 ?_
    refine zk_iload_n (pc := 47) X d_R_takeInput_47 rfl (q := 2) rfl ?_
    refine zk_iconst (pc := 48) X (v := 1) d_R_takeInput_48 rfl ?_
    refine zk_callv (pc := 49) X (wc := [(hj, .inr (1, [.ref jb, .int (nI jn), .int jm, .int jS, .int jl])), (jb, .inl (cJ, 300, .inl fb))]) (wr := [(hr, .inr (2, [.ref hj, .ref ri, .int (nI ((rw - 1))), .int rt, .int rq, .int rc])), (ri, .inl (cR, 16, .inl (va_cpy fi fi 1 0 ((rw - 1)))))]) [2, 3] [0, 1] rfl rfl (by decide) (by decide) (by decide) (zk_runV X (C := R_J) (tysC := [(cJ, .int)]) (As := [.int step, .int 1]) (rest := []) (c_J_beginEntry l dC dI hj jb cJ step 1 fb jn jm jS jl (by omega)) [1] rfl (ci := 1) rfl 2 rfl (zk_cwV 2 X.1.2.2.2.2 (zk_goodT tw_224) rfl rfl rfl (zk_m tw_221) (zk_m tw_222) (zk_m tw_223) (zk_m tw_3) rfl (by decide +kernel) ⟨Nat.le_of_ble_eq_true rfl, Nat.le_of_ble_eq_true rfl⟩) rfl rfl (Nat.le_of_ble_eq_true rfl) ⟨Nat.zero_le _, Nat.zero_le _⟩ d_R_takeInput_49) ?_
    rintro ⟨fb_49, jn_49, jm_49, jS_49, jl_49⟩ ⟨w49, f49_0⟩
    have f49_0 : jn_49 ≤ 300 := f49_0
    refine zk_ws (ws' := [(hr, .inr (2, [.ref hj, .ref ri, .int (nI ((rw - 1))), .int rt, .int rq, .int rc])), (ri, .inl (cR, 16, .inl (va_cpy fi fi 1 0 ((rw - 1))))), (hj, .inr (1, [.ref jb, .int (nI jn_49), .int jm_49, .int jS_49, .int jl_49])), (jb, .inl (cJ, 300, .inl fb_49))]) rfl ?_
    try dsimp only at w49
    rw [← w49] at hq
    try dsimp only at hq
    refine zk_aload_n (pc := 52) X d_R_takeInput_52 rfl (q := 1) rfl ?_
    refine zk_get (pc := 53) X (ci := 2) (v := .ref hj) in_R 0 rfl rfl 0 (by decide) (zk_m tw_66) rfl d_R_takeInput_53 ?_
    refine zk_iload_n (pc := 56) X d_R_takeInput_56 rfl (q := 0) rfl ?_
    refine zk_if_lt (pc := 57) X (tgt := 66) d_R_takeInput_57 (by decide) (fun h57 => ?_) (fun h57 => ?_)
    · have hq := hq.trans (if_pos h57)
      refine zk_bipush (pc := 66) X (v := (-2)) d_R_takeInput_66 (by decide) ?_
      refine zk_iload_n (pc := 68) X d_R_takeInput_68 rfl (q := 0) rfl ?_
      refine zk_imul (pc := 69) X (v := ((-2) * (fi 0))) d_R_takeInput_69 rfl ?_
      refine zk_iconst (pc := 70) X (v := 1) d_R_takeInput_70 rfl ?_
      refine zk_isub (pc := 71) X (v := (((-2) * (fi 0)) - 1)) d_R_takeInput_71 rfl ?_
      refine zk_callv (pc := 72) X (wc := [(hj, .inr (1, [.ref jb, .int (nI jn_49), .int jm_49, .int jS_49, .int jl_49])), (jb, .inl (cJ, 300, .inl fb_49))]) (wr := [(hr, .inr (2, [.ref hj, .ref ri, .int (nI ((rw - 1))), .int rt, .int rq, .int rc])), (ri, .inl (cR, 16, .inl (va_cpy fi fi 1 0 ((rw - 1)))))]) [2, 3] [0, 1] rfl rfl (by decide) (by decide) (by decide) (zk_runV X (C := R_J) (tysC := [(cJ, .int)]) (As := [.int (((-2) * (fi 0)) - 1)]) (rest := []) (c_J_writeNumber l dC dI hj jb cJ (((-2) * (fi 0)) - 1) fb_49 jn_49 jm_49 jS_49 jl_49 (by omega)) [1] rfl (ci := 1) rfl 2 rfl (zk_cwV 1 X.1.2.2.2.2 (zk_goodT tw_228) rfl rfl rfl (zk_m tw_263) (zk_m tw_226) (zk_m tw_227) (zk_m tw_3) rfl (by decide +kernel) ⟨Nat.le_of_ble_eq_true rfl, Nat.le_of_ble_eq_true rfl⟩) rfl rfl (Nat.le_of_ble_eq_true rfl) ⟨Nat.zero_le _, Nat.zero_le _⟩ d_R_takeInput_72) ?_
      rintro ⟨fb_72, jn_72, jS_72⟩ ⟨w72, f72_0⟩
      have f72_0 : jn_72 ≤ 300 := f72_0
      refine zk_ws (ws' := [(hr, .inr (2, [.ref hj, .ref ri, .int (nI ((rw - 1))), .int rt, .int rq, .int rc])), (ri, .inl (cR, 16, .inl (va_cpy fi fi 1 0 ((rw - 1))))), (hj, .inr (1, [.ref jb, .int (nI jn_72), .int jm_49, .int jS_72, .int jl_49])), (jb, .inl (cJ, 300, .inl fb_72))]) rfl ?_
      try dsimp only at w72
      rw [← w72] at hq
      try dsimp only at hq
      refine zk_iload_n (pc := 75) X d_R_takeInput_75 rfl (q := 0) rfl ?_
      exact zk_iret (pc := 76) X hQ hRt hLk ((va_cpy fi fi 1 0 ((rw - 1))), (rw - 1), fb_72, jn_72, jm_49, jS_72, jl_49) ⟨hq.symm, (show (rw - 1) ≤ 16 by omega), (show jn_72 ≤ 300 by omega)⟩ [0, 1, 2, 3] rfl (by decide) d_R_takeInput_76
    · have hq := hq.trans (if_neg h57)
      refine zk_iconst (pc := 60) X (v := 2) d_R_takeInput_60 rfl ?_
      refine zk_iload_n (pc := 61) X d_R_takeInput_61 rfl (q := 0) rfl ?_
      refine zk_imul (pc := 62) X (v := (2 * (fi 0))) d_R_takeInput_62 rfl ?_
      refine zk_goto (pc := 63) X (tgt := 72) d_R_takeInput_63 (by decide) ?_
      refine zk_callv (pc := 72) X (wc := [(hj, .inr (1, [.ref jb, .int (nI jn_49), .int jm_49, .int jS_49, .int jl_49])), (jb, .inl (cJ, 300, .inl fb_49))]) (wr := [(hr, .inr (2, [.ref hj, .ref ri, .int (nI ((rw - 1))), .int rt, .int rq, .int rc])), (ri, .inl (cR, 16, .inl (va_cpy fi fi 1 0 ((rw - 1)))))]) [2, 3] [0, 1] rfl rfl (by decide) (by decide) (by decide) (zk_runV X (C := R_J) (tysC := [(cJ, .int)]) (As := [.int (2 * (fi 0))]) (rest := []) (c_J_writeNumber l dC dI hj jb cJ (2 * (fi 0)) fb_49 jn_49 jm_49 jS_49 jl_49 (by omega)) [1] rfl (ci := 1) rfl 2 rfl (zk_cwV 1 X.1.2.2.2.2 (zk_goodT tw_228) rfl rfl rfl (zk_m tw_263) (zk_m tw_226) (zk_m tw_227) (zk_m tw_3) rfl (by decide +kernel) ⟨Nat.le_of_ble_eq_true rfl, Nat.le_of_ble_eq_true rfl⟩) rfl rfl (Nat.le_of_ble_eq_true rfl) ⟨Nat.zero_le _, Nat.zero_le _⟩ d_R_takeInput_72) ?_
      rintro ⟨fb_72, jn_72, jS_72⟩ ⟨w72, f72_0⟩
      have f72_0 : jn_72 ≤ 300 := f72_0
      refine zk_ws (ws' := [(hr, .inr (2, [.ref hj, .ref ri, .int (nI ((rw - 1))), .int rt, .int rq, .int rc])), (ri, .inl (cR, 16, .inl (va_cpy fi fi 1 0 ((rw - 1))))), (hj, .inr (1, [.ref jb, .int (nI jn_72), .int jm_49, .int jS_72, .int jl_49])), (jb, .inl (cJ, 300, .inl fb_72))]) rfl ?_
      try dsimp only at w72
      rw [← w72] at hq
      try dsimp only at hq
      refine zk_iload_n (pc := 75) X d_R_takeInput_75 rfl (q := 0) rfl ?_
      exact zk_iret (pc := 76) X hQ hRt hLk ((va_cpy fi fi 1 0 ((rw - 1))), (rw - 1), fb_72, jn_72, jm_49, jS_72, jl_49) ⟨hq.symm, (show (rw - 1) ≤ 16 by omega), (show jn_72 ≤ 300 by omega)⟩ [0, 1, 2, 3] rfl (by decide) d_R_takeInput_76
  · have hq := hq.trans (if_pos h4)
    refine zk_iconst (pc := 7) X (v := 0) d_R_takeInput_7 rfl ?_
    exact zk_iret (pc := 8) X hQ hRt hLk (fi, rw, fb, jn, jm, jS, jl) ⟨hq.symm, (show rw ≤ 16 by omega), (show jn ≤ 300 by omega)⟩ [0, 1, 2, 3] rfl (by decide) d_R_takeInput_8
def sp_R_readClock (step : Int32) (rt : Int32) (rc : Int32) (fb : Nat → Int32) (jn : Nat) (jm : Int32) (jS : Int32) (jl : Int32) : Int32 × Int32 × (Nat → Int32) × Nat × Int32 × Int32 × Int32 :=
  if rc = rt then
    (rc, rt, fb, jn, jm, jS, jl)
  else
    (match sp_J_beginEntry step 2 fb jn jm jS jl with
    | (fb_17, jn_17, jm_17, jS_17, jl_17) =>
      (match sp_J_writeNumber (rc - rt) fb_17 jn_17 jS_17 with
      | (fb_33, jn_33, jS_33) =>
        (rc, rc, fb_33, jn_33, jm_17, jS_33, jl_17)))
abbrev rm_R_readClock : Room := { frames := 4, cells := 0, slots := 0, locals := 90 }
set_option maxHeartbeats 4000000 in
set_option maxRecDepth 100000 in
theorem c_R_readClock (l : Launch) (dC : Nat → ClassId) (dI : Nat → Nat → Nat) (hr hj ri jb : Nat) (cR cJ : ClassId) (step : Int32) (fi : Nat → Int32) (rw : Nat) (rt : Int32) (rq : Int32) (rc : Int32) (fb : Nat → Int32) (jn : Nat) (jm : Int32) (jS : Int32) (jl : Int32) (hjn : jn ≤ 300) : zk_Ci l y_R_readClock w_R_readClock rm_R_readClock (dC, dI) vwCl [.ref hr, .int step] [(hr, .inr (2, [.ref hj, .ref ri, .int (nI rw), .int rt, .int rq, .int rc])), (ri, .inl (cR, 16, .inl fi)), (hj, .inr (1, [.ref jb, .int (nI jn), .int jm, .int jS, .int jl])), (jb, .inl (cJ, 300, .inl fb))] [(cR, .int), (cJ, .int)] (fun (r : Int32) (u : Int32 × (Nat → Int32) × Nat × Int32 × Int32 × Int32) => (r, u) = sp_R_readClock step rt rc fb jn jm jS jl ∧ (u.2.2.1 ≤ 300)) (fun u => [(hr, .inr (2, [.ref hj, .ref ri, .int (nI rw), .int u.1, .int rq, .int rc])), (ri, .inl (cR, 16, .inl fi)), (hj, .inr (1, [.ref jb, .int (nI u.2.2.1), .int u.2.2.2.1, .int u.2.2.2.2.1, .int u.2.2.2.2.2])), (jb, .inl (cJ, 300, .inl u.2.1))]) := by
  refine zk_enteri (cc := b_R_readClock) (maxL := 2) (ret := some .int) (by decide) rfl (Nat.le_of_ble_eq_true rfl) ?_
  intro p e s m args below meth c A Q hQ X hRt hLk
  have hq := sp_R_readClock.eq_1 step rt rc fb jn jm jS jl
  refine zk_lv (lv' := [(0, .ref hr), (1, .int step)]) [0, 1] rfl ?_
  refine zk_aload_n (pc := 0) X d_R_readClock_0 rfl (q := 0) rfl ?_
  refine zk_get (pc := 1) X (ci := 2) (v := .int rc) in_R 0 rfl rfl 5 (by decide) (zk_m tw_72) rfl d_R_readClock_1 ?_
  refine zk_aload_n (pc := 4) X d_R_readClock_4 rfl (q := 0) rfl ?_
  refine zk_get (pc := 5) X (ci := 2) (v := .int rt) in_R 0 rfl rfl 3 (by decide) (zk_m tw_69) rfl d_R_readClock_5 ?_
  refine zk_icmp_eq (pc := 8) X (tgt := 44) d_R_readClock_8 (by decide) (fun h8 => ?_) (fun h8 => ?_)
  · have hq := hq.trans (if_pos h8)
    refine zk_aload_n (pc := 44) X d_R_readClock_44 rfl (q := 0) rfl ?_
    refine zk_get (pc := 45) X (ci := 2) (v := .int rc) in_R 0 rfl rfl 5 (by decide) (zk_m tw_72) rfl d_R_readClock_45 ?_
    exact zk_iret (pc := 48) X hQ hRt hLk (rt, fb, jn, jm, jS, jl) ⟨hq.symm, (show jn ≤ 300 by omega)⟩ [0, 1, 2, 3] rfl (by decide) d_R_readClock_48
  · have hq := hq.trans (if_neg h8)
    refine zk_aload_n (pc := 11) X d_R_readClock_11 rfl (q := 0) rfl ?_
    refine zk_get (pc := 12) X (ci := 2) (v := .ref hj) in_R 0 rfl rfl 0 (by decide) (zk_m tw_66) rfl d_R_readClock_12 ?_
    refine zk_iload_n (pc := 15) X d_R_readClock_15 rfl (q := 1) rfl ?_
    refine zk_iconst (pc := 16) X (v := 2) d_R_readClock_16 rfl ?_
    refine zk_callv (pc := 17) X (wc := [(hj, .inr (1, [.ref jb, .int (nI jn), .int jm, .int jS, .int jl])), (jb, .inl (cJ, 300, .inl fb))]) (wr := [(hr, .inr (2, [.ref hj, .ref ri, .int (nI rw), .int rt, .int rq, .int rc])), (ri, .inl (cR, 16, .inl fi))]) [2, 3] [0, 1] rfl rfl (by decide) (by decide) (by decide) (zk_runV X (C := R_J) (tysC := [(cJ, .int)]) (As := [.int step, .int 2]) (rest := []) (c_J_beginEntry l dC dI hj jb cJ step 2 fb jn jm jS jl (by omega)) [1] rfl (ci := 1) rfl 2 rfl (zk_cwV 2 X.1.2.2.2.2 (zk_goodT tw_224) rfl rfl rfl (zk_m tw_221) (zk_m tw_222) (zk_m tw_223) (zk_m tw_3) rfl (by decide +kernel) ⟨Nat.le_of_ble_eq_true rfl, Nat.le_of_ble_eq_true rfl⟩) rfl rfl (Nat.le_of_ble_eq_true rfl) ⟨Nat.zero_le _, Nat.zero_le _⟩ d_R_readClock_17) ?_
    rintro ⟨fb_17, jn_17, jm_17, jS_17, jl_17⟩ ⟨w17, f17_0⟩
    have f17_0 : jn_17 ≤ 300 := f17_0
    refine zk_ws (ws' := [(hr, .inr (2, [.ref hj, .ref ri, .int (nI rw), .int rt, .int rq, .int rc])), (ri, .inl (cR, 16, .inl fi)), (hj, .inr (1, [.ref jb, .int (nI jn_17), .int jm_17, .int jS_17, .int jl_17])), (jb, .inl (cJ, 300, .inl fb_17))]) rfl ?_
    try dsimp only at w17
    rw [← w17] at hq
    try dsimp only at hq
    refine zk_aload_n (pc := 20) X d_R_readClock_20 rfl (q := 0) rfl ?_
    refine zk_get (pc := 21) X (ci := 2) (v := .ref hj) in_R 0 rfl rfl 0 (by decide) (zk_m tw_66) rfl d_R_readClock_21 ?_
    refine zk_aload_n (pc := 24) X d_R_readClock_24 rfl (q := 0) rfl ?_
    refine zk_get (pc := 25) X (ci := 2) (v := .int rc) in_R 0 rfl rfl 5 (by decide) (zk_m tw_72) rfl d_R_readClock_25 ?_
    refine zk_aload_n (pc := 28) X d_R_readClock_28 rfl (q := 0) rfl ?_
    refine zk_get (pc := 29) X (ci := 2) (v := .int rt) in_R 0 rfl rfl 3 (by decide) (zk_m tw_69) rfl d_R_readClock_29 ?_
    refine zk_isub (pc := 32) X (v := (rc - rt)) d_R_readClock_32 rfl ?_
    refine zk_callv (pc := 33) X (wc := [(hj, .inr (1, [.ref jb, .int (nI jn_17), .int jm_17, .int jS_17, .int jl_17])), (jb, .inl (cJ, 300, .inl fb_17))]) (wr := [(hr, .inr (2, [.ref hj, .ref ri, .int (nI rw), .int rt, .int rq, .int rc])), (ri, .inl (cR, 16, .inl fi))]) [2, 3] [0, 1] rfl rfl (by decide) (by decide) (by decide) (zk_runV X (C := R_J) (tysC := [(cJ, .int)]) (As := [.int (rc - rt)]) (rest := []) (c_J_writeNumber l dC dI hj jb cJ (rc - rt) fb_17 jn_17 jm_17 jS_17 jl_17 (by omega)) [1] rfl (ci := 1) rfl 2 rfl (zk_cwV 1 X.1.2.2.2.2 (zk_goodT tw_228) rfl rfl rfl (zk_m tw_263) (zk_m tw_226) (zk_m tw_227) (zk_m tw_3) rfl (by decide +kernel) ⟨Nat.le_of_ble_eq_true rfl, Nat.le_of_ble_eq_true rfl⟩) rfl rfl (Nat.le_of_ble_eq_true rfl) ⟨Nat.zero_le _, Nat.zero_le _⟩ d_R_readClock_33) ?_
    rintro ⟨fb_33, jn_33, jS_33⟩ ⟨w33, f33_0⟩
    have f33_0 : jn_33 ≤ 300 := f33_0
    refine zk_ws (ws' := [(hr, .inr (2, [.ref hj, .ref ri, .int (nI rw), .int rt, .int rq, .int rc])), (ri, .inl (cR, 16, .inl fi)), (hj, .inr (1, [.ref jb, .int (nI jn_33), .int jm_17, .int jS_33, .int jl_17])), (jb, .inl (cJ, 300, .inl fb_33))]) rfl ?_
    try dsimp only at w33
    rw [← w33] at hq
    try dsimp only at hq
    refine zk_aload_n (pc := 36) X d_R_readClock_36 rfl (q := 0) rfl ?_
    refine zk_aload_n (pc := 37) X d_R_readClock_37 rfl (q := 0) rfl ?_
    refine zk_get (pc := 38) X (ci := 2) (v := .int rc) in_R 0 rfl rfl 5 (by decide) (zk_m tw_72) rfl d_R_readClock_38 ?_
    refine zk_put (pc := 41) X (ty := .int) (v := .int rc) (ws' := [(hr, .inr (2, [.ref hj, .ref ri, .int (nI rw), .int rc, .int rq, .int rc])), (ri, .inl (cR, 16, .inl fi)), (hj, .inr (1, [.ref jb, .int (nI jn_33), .int jm_17, .int jS_33, .int jl_17])), (jb, .inl (cJ, 300, .inl fb_33))]) in_R tok_R nok_R 0 rfl rfl 3 (by decide) (zk_m tw_69) rfl rfl rfl rfl (Nat.le_of_ble_eq_true rfl) d_R_readClock_41 rfl ?_
    refine zk_aload_n (pc := 44) X d_R_readClock_44 rfl (q := 0) rfl ?_
    refine zk_get (pc := 45) X (ci := 2) (v := .int rc) in_R 0 rfl rfl 5 (by decide) (zk_m tw_72) rfl d_R_readClock_45 ?_
    exact zk_iret (pc := 48) X hQ hRt hLk (rc, fb_33, jn_33, jm_17, jS_33, jl_17) ⟨hq.symm, (show jn_33 ≤ 300 by omega)⟩ [0, 1, 2, 3] rfl (by decide) d_R_readClock_48
