def sp_J_restart : Nat × Int32 × Int32 × Int32 :=
  (0, 0, 1, 0)
abbrev rm_J_restart : Room := { frames := 0, cells := 0, slots := 0, locals := 0 }
set_option maxHeartbeats 4000000 in
set_option maxRecDepth 100000 in
theorem c_J_restart (l : Launch) (dC : Nat → ClassId) (dI : Nat → Nat → Nat) (hj jb : Nat) (cJ : ClassId) (fb : Nat → Int32) (jn : Nat) (jm : Int32) (jS : Int32) (jl : Int32) : zk_Cv l y_J_restart w_J_restart rm_J_restart (dC, dI) vwCl [.ref hj] [(hj, .inr (1, [.ref jb, .int (nI jn), .int jm, .int jS, .int jl])), (jb, .inl (cJ, 300, .inl fb))] [(cJ, .int)] (fun (u : Nat × Int32 × Int32 × Int32) => u = sp_J_restart) (fun u => [(hj, .inr (1, [.ref jb, .int (nI u.1), .int u.2.1, .int u.2.2.1, .int u.2.2.2])), (jb, .inl (cJ, 300, .inl fb))]) := by
  refine zk_enterv (cc := b_J_restart) (maxL := 1) (ret := none) (by decide) rfl (Nat.le_of_ble_eq_true rfl) ?_
  intro p e s m args below meth c A Q hQ X hRt hLk
  have hq := sp_J_restart.eq_1
  refine zk_lv (lv' := [(0, .ref hj)]) [0] rfl ?_
  refine zk_aload_n (pc := 0) X d_J_restart_0 rfl (q := 0) rfl ?_
  refine zk_iconst (pc := 1) X (v := 0) d_J_restart_1 rfl ?_
  refine zk_put (pc := 2) X (ty := .int) (v := .int 0) (ws' := [(hj, .inr (1, [.ref jb, .int 0, .int jm, .int jS, .int jl])), (jb, .inl (cJ, 300, .inl fb))]) in_J tok_J nok_J 0 rfl rfl 1 (by decide) (zk_m tw_46) rfl rfl rfl rfl (Nat.le_of_ble_eq_true rfl) d_J_restart_2 rfl ?_
  refine zk_aload_n (pc := 5) X d_J_restart_5 rfl (q := 0) rfl ?_
  refine zk_iconst (pc := 6) X (v := 0) d_J_restart_6 rfl ?_
  refine zk_put (pc := 7) X (ty := .int) (v := .int 0) (ws' := [(hj, .inr (1, [.ref jb, .int 0, .int 0, .int jS, .int jl])), (jb, .inl (cJ, 300, .inl fb))]) in_J tok_J nok_J 0 rfl rfl 2 (by decide) (zk_m tw_48) rfl rfl rfl rfl (Nat.le_of_ble_eq_true rfl) d_J_restart_7 rfl ?_
  refine zk_aload_n (pc := 10) X d_J_restart_10 rfl (q := 0) rfl ?_
  refine zk_iconst (pc := 11) X (v := 1) d_J_restart_11 rfl ?_
  refine zk_put (pc := 12) X (ty := .int) (v := .int 1) (ws' := [(hj, .inr (1, [.ref jb, .int 0, .int 0, .int 1, .int jl])), (jb, .inl (cJ, 300, .inl fb))]) in_J tok_J nok_J 0 rfl rfl 3 (by decide) (zk_m tw_50) rfl rfl rfl rfl (Nat.le_of_ble_eq_true rfl) d_J_restart_12 rfl ?_
  refine zk_aload_n (pc := 15) X d_J_restart_15 rfl (q := 0) rfl ?_
  refine zk_iconst (pc := 16) X (v := 0) d_J_restart_16 rfl ?_
  refine zk_put (pc := 17) X (ty := .int) (v := .int 0) (ws' := [(hj, .inr (1, [.ref jb, .int 0, .int 0, .int 1, .int 0])), (jb, .inl (cJ, 300, .inl fb))]) in_J tok_J nok_J 0 rfl rfl 4 (by decide) (zk_m tw_52) rfl rfl rfl rfl (Nat.le_of_ble_eq_true rfl) d_J_restart_17 rfl ?_
  exact zk_vret (pc := 20) X hQ hRt hLk (0, 0, 1, 0) hq.symm [0, 1] rfl (by decide) d_J_restart_20
def sp_J_has (i : Int32) (jn : Nat) : Int32 :=
  if i < 0 then
    0
  else
    if (nI jn) ≤ i then
      0
    else
      1
abbrev rm_J_has : Room := { frames := 0, cells := 0, slots := 0, locals := 0 }
set_option maxHeartbeats 4000000 in
set_option maxRecDepth 100000 in
theorem c_J_has (l : Launch) (dC : Nat → ClassId) (dI : Nat → Nat → Nat) (hj jb : Nat) (cJ : ClassId) (i : Int32) (fb : Nat → Int32) (jn : Nat) (jm : Int32) (jS : Int32) (jl : Int32) : zk_Ci l y_J_has w_J_has rm_J_has (dC, dI) vwCl [.ref hj, .int i] [(hj, .inr (1, [.ref jb, .int (nI jn), .int jm, .int jS, .int jl])), (jb, .inl (cJ, 300, .inl fb))] [(cJ, .int)] (fun (r : Int32) (u : Unit) => r = sp_J_has i jn ∧ (zk_hs r i jn)) (fun _ => [(hj, .inr (1, [.ref jb, .int (nI jn), .int jm, .int jS, .int jl])), (jb, .inl (cJ, 300, .inl fb))]) := by
  refine zk_enteri (cc := b_J_has) (maxL := 2) (ret := some .boolean) (by decide) rfl (Nat.le_of_ble_eq_true rfl) ?_
  intro p e s m args below meth c A Q hQ X hRt hLk
  have hq := sp_J_has.eq_1 i jn
  refine zk_lv (lv' := [(0, .ref hj), (1, .int i)]) [0, 1] rfl ?_
  refine zk_iload_n (pc := 0) X d_J_has_0 rfl (q := 1) rfl ?_
  refine zk_if_lt (pc := 1) X (tgt := 16) d_J_has_1 (by decide) (fun h1 => ?_) (fun h1 => ?_)
  · have hq := hq.trans (if_pos h1)
    refine zk_iconst (pc := 16) X (v := 0) d_J_has_16 rfl ?_
    exact zk_zret (pc := 17) X hQ hRt hLk rfl () ⟨hq.symm, (show zk_hs 0 i jn by first | exact Or.inl rfl | exact Or.inr ⟨by assumption, by assumption⟩)⟩ [0, 1] rfl (by decide) d_J_has_17
  · have hq := hq.trans (if_neg h1)
    refine zk_iload_n (pc := 4) X d_J_has_4 rfl (q := 1) rfl ?_
    refine zk_aload_n (pc := 5) X d_J_has_5 rfl (q := 0) rfl ?_
    refine zk_get (pc := 6) X (ci := 1) (v := .int (nI jn)) in_J 0 rfl rfl 1 (by decide) (zk_m tw_46) rfl d_J_has_6 ?_
    refine zk_icmp_ge (pc := 9) X (tgt := 16) d_J_has_9 (by decide) (fun h9 => ?_) (fun h9 => ?_)
    · have hq := hq.trans (if_pos h9)
      refine zk_iconst (pc := 16) X (v := 0) d_J_has_16 rfl ?_
      exact zk_zret (pc := 17) X hQ hRt hLk rfl () ⟨hq.symm, (show zk_hs 0 i jn by first | exact Or.inl rfl | exact Or.inr ⟨by assumption, by assumption⟩)⟩ [0, 1] rfl (by decide) d_J_has_17
    · have hq := hq.trans (if_neg h9)
      refine zk_iconst (pc := 12) X (v := 1) d_J_has_12 rfl ?_
      refine zk_goto (pc := 13) X (tgt := 17) d_J_has_13 (by decide) ?_
      exact zk_zret (pc := 17) X hQ hRt hLk rfl () ⟨hq.symm, (show zk_hs 1 i jn by first | exact Or.inl rfl | exact Or.inr ⟨by assumption, by assumption⟩)⟩ [0, 1] rfl (by decide) d_J_has_17
def sp_J_writeNumber_4 : Nat → Int32 → Nat → (Nat → Int32) → Nat → Int32 → (Nat → Int32) × Nat × Int32
  | 0, rest, j, fb1, jn1, jS1 => (fb1, jn1, jS1)
  | fuel + 1, rest, j, fb1, jn1, jS1 =>
    if 5 ≤ j then
      (fb1, jn1, jS1)
    else
      if 300 ≤ jn1 then
        (fb1, jn1, jS1)
      else
        if (zf_ushr rest 7) = 0 then
          ((upd fb1 jn1 (rest &&& 127)), jn1 + 1, (sp_X_sealByte jS1 (rest &&& 127)))
        else
          sp_J_writeNumber_4 fuel (zf_ushr rest 7) (j + 1) (upd fb1 jn1 ((rest &&& 127) ||| 128)) (jn1 + 1) (sp_X_sealByte jS1 ((rest &&& 127) ||| 128))
def sp_J_writeNumber (number : Int32) (fb : Nat → Int32) (jn : Nat) (jS : Int32) : (Nat → Int32) × Nat × Int32 :=
  sp_J_writeNumber_4 6 number 0 fb jn jS
abbrev rm_J_writeNumber : Room := { frames := 2, cells := 0, slots := 0, locals := 43 }
set_option maxHeartbeats 4000000 in
set_option maxRecDepth 100000 in
theorem c_J_writeNumber (l : Launch) (dC : Nat → ClassId) (dI : Nat → Nat → Nat) (hj jb : Nat) (cJ : ClassId) (number : Int32) (fb : Nat → Int32) (jn : Nat) (jm : Int32) (jS : Int32) (jl : Int32) (hjn : jn ≤ 300) : zk_Cv l y_J_writeNumber w_J_writeNumber rm_J_writeNumber (dC, dI) vwCl [.ref hj, .int number] [(hj, .inr (1, [.ref jb, .int (nI jn), .int jm, .int jS, .int jl])), (jb, .inl (cJ, 300, .inl fb))] [(cJ, .int)] (fun (u : (Nat → Int32) × Nat × Int32) => u = sp_J_writeNumber number fb jn jS ∧ (u.2.1 ≤ 300)) (fun u => [(hj, .inr (1, [.ref jb, .int (nI u.2.1), .int jm, .int u.2.2, .int jl])), (jb, .inl (cJ, 300, .inl u.1))]) := by
  refine zk_enterv (cc := b_J_writeNumber) (maxL := 6) (ret := none) (by decide) rfl (Nat.le_of_ble_eq_true rfl) ?_
  intro p e s m args below meth c A Q hQ X hRt hLk
  have cut4 : ∀ (fuel : Nat) (rest : Int32) (j : Nat) (fb1 : Nat → Int32) (jn1 : Nat) (jS1 : Int32), (j ≤ 5) → (jn1 ≤ 300) → 5 - j < fuel → sp_J_writeNumber number fb jn jS = sp_J_writeNumber_4 fuel rest j fb1 jn1 jS1 → zk_Z p l e rm_J_writeNumber s m args below meth c Q A (dC, dI) vwCl 6 0 0 [(hj, .inr (1, [.ref jb, .int (nI jn1), .int jm, .int jS1, .int jl])), (jb, .inl (cJ, 300, .inl fb1))] [(0, .ref hj), (1, .int number), (2, .int rest), (3, .int (nI j))] [] 4 := by
    intro fuel
    induction fuel with
    | zero => intro rest j fb1 jn1 jS1 hj5 hn1 hMs; exact absurd hMs (Nat.not_lt_zero _)
    | succ fuel ih =>
      intro rest j fb1 jn1 jS1 hj5 hn1 hMs hq
      rw [sp_J_writeNumber_4] at hq
      refine zk_iload_n (pc := 4) X d_J_writeNumber_4 rfl (q := 3) rfl ?_
      refine zk_iconst (pc := 5) X (v := 5) d_J_writeNumber_5 rfl ?_
      refine zk_icmpN_ge (pc := 6) X (tgt := 94) (j) (5) rfl rfl (by omega) (by omega) d_J_writeNumber_6 (by decide) (fun h6 => ?_) (fun h6 => ?_)
      · have hq := hq.trans (if_pos h6)
        exact zk_vret (pc := 94) X hQ hRt hLk (fb1, jn1, jS1) ⟨hq.symm, (show jn1 ≤ 300 by omega)⟩ [0, 1] rfl (by decide) d_J_writeNumber_94
      · have hq := hq.trans (if_neg h6)
        refine zk_aload_n (pc := 9) X d_J_writeNumber_9 rfl (q := 0) rfl ?_
        refine zk_get (pc := 10) X (ci := 1) (v := .int (nI jn1)) in_J 0 rfl rfl 1 (by decide) (zk_m tw_46) rfl d_J_writeNumber_10 ?_
        refine zk_sipush (pc := 13) X (v := 300) d_J_writeNumber_13 (by decide) ?_
        refine zk_icmpN_ge (pc := 16) X (tgt := 94) (jn1) (300) rfl rfl (by omega) (by omega) d_J_writeNumber_16 (by decide) (fun h16 => ?_) (fun h16 => ?_)
        · have hq := hq.trans (if_pos h16)
          exact zk_vret (pc := 94) X hQ hRt hLk (fb1, jn1, jS1) ⟨hq.symm, (show jn1 ≤ 300 by omega)⟩ [0, 1] rfl (by decide) d_J_writeNumber_94
        · have hq := hq.trans (if_neg h16)
          refine zk_iload_n (pc := 19) X d_J_writeNumber_19 rfl (q := 2) rfl ?_
          refine zk_bipush (pc := 20) X (v := 127) d_J_writeNumber_20 (by decide) ?_
          refine zk_iand (pc := 22) X (v := (rest &&& 127)) d_J_writeNumber_22 rfl ?_
          refine zk_istore (pc := 23) X (i := 4) (lv' := [(4, .int (rest &&& 127)), (0, .ref hj), (1, .int number), (2, .int rest), (3, .int (nI j))]) d_J_writeNumber_23 (by decide) rfl ?_
          refine zk_iload_n (pc := 25) X d_J_writeNumber_25 rfl (q := 3) rfl ?_
          refine zk_bipush (pc := 26) X (v := 7) d_J_writeNumber_26 (by decide) ?_
          refine zk_iushr (pc := 28) X (v := (zf_ushr rest 7)) d_J_writeNumber_28 rfl ?_
          refine zk_istore_n (pc := 29) X (i := 2) (lv' := [(2, .int (zf_ushr rest 7)), (4, .int (rest &&& 127)), (0, .ref hj), (1, .int number), (3, .int (nI j))]) d_J_writeNumber_29 rfl (by decide) rfl ?_
          refine zk_iload_n (pc := 30) X d_J_writeNumber_30 rfl (q := 0) rfl ?_
          refine zk_if_ne (pc := 31) X (tgt := 39) d_J_writeNumber_31 (by decide) (fun h31 => ?_) (fun h31 => ?_)
          · have hq := hq.trans (if_neg h31)
            refine zk_iload (pc := 39) X d_J_writeNumber_39 (q := 1) rfl ?_
            refine zk_sipush (pc := 41) X (v := 128) d_J_writeNumber_41 (by decide) ?_
            refine zk_ior (pc := 44) X (v := ((rest &&& 127) ||| 128)) d_J_writeNumber_44 rfl ?_
            refine zk_istore (pc := 45) X (i := 5) (lv' := [(5, .int ((rest &&& 127) ||| 128)), (2, .int (zf_ushr rest 7)), (4, .int (rest &&& 127)), (0, .ref hj), (1, .int number), (3, .int (nI j))]) d_J_writeNumber_45 (by decide) rfl ?_
            refine zk_aload_n (pc := 47) X d_J_writeNumber_47 rfl (q := 3) rfl ?_
            refine zk_get (pc := 48) X (ci := 1) (v := .ref jb) in_J 0 rfl rfl 0 (by decide) (zk_m tw_43) rfl d_J_writeNumber_48 ?_
            refine zk_aload_n (pc := 51) X d_J_writeNumber_51 rfl (q := 3) rfl ?_
            refine zk_get (pc := 52) X (ci := 1) (v := .int (nI jn1)) in_J 0 rfl rfl 1 (by decide) (zk_m tw_46) rfl d_J_writeNumber_52 ?_
            refine zk_iload (pc := 55) X d_J_writeNumber_55 (q := 0) rfl ?_
            refine zk_iast (pc := 57) X 1 0 (ws' := [(hj, .inr (1, [.ref jb, .int (nI jn1), .int jm, .int jS1, .int jl])), (jb, .inl (cJ, 300, .inl (upd fb1 jn1 ((rest &&& 127) ||| 128))))]) (jn1) rfl rfl rfl (by omega) (by decide) d_J_writeNumber_57 rfl ?_
            refine zk_aload_n (pc := 58) X d_J_writeNumber_58 rfl (q := 3) rfl ?_
            refine zk_dup (pc := 59) X d_J_writeNumber_59 rfl ?_
            refine zk_get (pc := 60) X (ci := 1) (v := .int (nI jn1)) in_J 0 rfl rfl 1 (by decide) (zk_m tw_46) rfl d_J_writeNumber_60 ?_
            refine zk_iconst (pc := 63) X (v := 1) d_J_writeNumber_63 rfl ?_
            refine zk_iadd (pc := 64) X (v := nI (jn1 + 1)) d_J_writeNumber_64 (nI_add (jn1) (1)) ?_
            refine zk_put (pc := 65) X (ty := .int) (v := .int (nI (jn1 + 1))) (ws' := [(hj, .inr (1, [.ref jb, .int (nI (jn1 + 1)), .int jm, .int jS1, .int jl])), (jb, .inl (cJ, 300, .inl (upd fb1 jn1 ((rest &&& 127) ||| 128))))]) in_J tok_J nok_J 0 rfl rfl 1 (by decide) (zk_m tw_46) rfl rfl rfl rfl (Nat.le_of_ble_eq_true rfl) d_J_writeNumber_65 rfl ?_
            refine zk_aload_n (pc := 68) X d_J_writeNumber_68 rfl (q := 3) rfl ?_
            refine zk_aload_n (pc := 69) X d_J_writeNumber_69 rfl (q := 3) rfl ?_
            refine zk_get (pc := 70) X (ci := 1) (v := .int jS1) in_J 0 rfl rfl 3 (by decide) (zk_m tw_50) rfl d_J_writeNumber_70 ?_
            refine zk_iload (pc := 73) X d_J_writeNumber_73 (q := 0) rfl ?_
            refine zk_calli (pc := 75) X (wc := []) (wr := [(hj, .inr (1, [.ref jb, .int (nI (jn1 + 1)), .int jm, .int jS1, .int jl])), (jb, .inl (cJ, 300, .inl (upd fb1 jn1 ((rest &&& 127) ||| 128))))]) [] [0, 1] rfl rfl (by decide) (by decide) (by decide) (zk_runSN X (tysC := []) (As := [.int jS1, .int ((rest &&& 127) ||| 128)]) (rest := [.ref hj]) (c_X_sealByte l dC dI jS1 ((rest &&& 127) ||| 128)) [] rfl ⟨va_cnB 2 X.1.2.2.2.2 (zk_goodT tw_230) rfl rfl rfl X.2.2.2.2.2.2.2.2.1 (X.1.2.2.2.2 _ (zk_m tw_1)) (by decide +kernel) ⟨Nat.le_of_ble_eq_true rfl, Nat.le_of_ble_eq_true rfl⟩, X.1.2.2.2.2 _ (zk_m tw_229), trivial⟩ rfl rfl (Nat.le_of_ble_eq_true rfl) ⟨Nat.zero_le _, Nat.zero_le _⟩ d_J_writeNumber_75) ?_
            rintro r75 ⟨⟩ w75
            refine zk_ws (ws' := [(hj, .inr (1, [.ref jb, .int (nI (jn1 + 1)), .int jm, .int jS1, .int jl])), (jb, .inl (cJ, 300, .inl (upd fb1 jn1 ((rest &&& 127) ||| 128))))]) rfl ?_
            subst w75
            refine zk_put (pc := 78) X (ty := .int) (v := .int (sp_X_sealByte jS1 ((rest &&& 127) ||| 128))) (ws' := [(hj, .inr (1, [.ref jb, .int (nI (jn1 + 1)), .int jm, .int (sp_X_sealByte jS1 ((rest &&& 127) ||| 128)), .int jl])), (jb, .inl (cJ, 300, .inl (upd fb1 jn1 ((rest &&& 127) ||| 128))))]) in_J tok_J nok_J 0 rfl rfl 3 (by decide) (zk_m tw_50) rfl rfl rfl rfl (Nat.le_of_ble_eq_true rfl) d_J_writeNumber_78 rfl ?_
            refine zk_iload_n (pc := 81) X d_J_writeNumber_81 rfl (q := 1) rfl ?_
            refine zk_if_ne (pc := 82) X (tgt := 88) d_J_writeNumber_82 (by decide) (fun _ => ?_) (fun g => absurd g h31)
            refine zk_iinc (pc := 88) X (k0 := 5) (v := nI (j + 1)) (lv' := [(3, .int (nI (j + 1))), (5, .int ((rest &&& 127) ||| 128)), (2, .int (zf_ushr rest 7)), (4, .int (rest &&& 127)), (0, .ref hj), (1, .int number)]) d_J_writeNumber_88 rfl (nI_add (j) 1) (by decide) rfl ?_
            refine zk_goto (pc := 91) X (tgt := 4) d_J_writeNumber_91 (by decide) ?_
            refine zk_lv (lv' := [(0, .ref hj), (1, .int number), (2, .int (zf_ushr rest 7)), (3, .int (nI (j + 1)))]) [4, 5, 2, 0] rfl ?_
            exact ih (zf_ushr rest 7) (j + 1) (upd fb1 jn1 ((rest &&& 127) ||| 128)) (jn1 + 1) (sp_X_sealByte jS1 ((rest &&& 127) ||| 128)) (by omega) (by omega) (by omega) hq
          · have hq := hq.trans (if_pos h31)
            refine zk_iload (pc := 34) X d_J_writeNumber_34 (q := 1) rfl ?_
            refine zk_goto (pc := 36) X (tgt := 45) d_J_writeNumber_36 (by decide) ?_
            refine zk_istore (pc := 45) X (i := 5) (lv' := [(5, .int (rest &&& 127)), (2, .int (zf_ushr rest 7)), (4, .int (rest &&& 127)), (0, .ref hj), (1, .int number), (3, .int (nI j))]) d_J_writeNumber_45 (by decide) rfl ?_
            refine zk_aload_n (pc := 47) X d_J_writeNumber_47 rfl (q := 3) rfl ?_
            refine zk_get (pc := 48) X (ci := 1) (v := .ref jb) in_J 0 rfl rfl 0 (by decide) (zk_m tw_43) rfl d_J_writeNumber_48 ?_
            refine zk_aload_n (pc := 51) X d_J_writeNumber_51 rfl (q := 3) rfl ?_
            refine zk_get (pc := 52) X (ci := 1) (v := .int (nI jn1)) in_J 0 rfl rfl 1 (by decide) (zk_m tw_46) rfl d_J_writeNumber_52 ?_
            refine zk_iload (pc := 55) X d_J_writeNumber_55 (q := 0) rfl ?_
            refine zk_iast (pc := 57) X 1 0 (ws' := [(hj, .inr (1, [.ref jb, .int (nI jn1), .int jm, .int jS1, .int jl])), (jb, .inl (cJ, 300, .inl (upd fb1 jn1 (rest &&& 127))))]) (jn1) rfl rfl rfl (by omega) (by decide) d_J_writeNumber_57 rfl ?_
            refine zk_aload_n (pc := 58) X d_J_writeNumber_58 rfl (q := 3) rfl ?_
            refine zk_dup (pc := 59) X d_J_writeNumber_59 rfl ?_
            refine zk_get (pc := 60) X (ci := 1) (v := .int (nI jn1)) in_J 0 rfl rfl 1 (by decide) (zk_m tw_46) rfl d_J_writeNumber_60 ?_
            refine zk_iconst (pc := 63) X (v := 1) d_J_writeNumber_63 rfl ?_
            refine zk_iadd (pc := 64) X (v := nI (jn1 + 1)) d_J_writeNumber_64 (nI_add (jn1) (1)) ?_
            refine zk_put (pc := 65) X (ty := .int) (v := .int (nI (jn1 + 1))) (ws' := [(hj, .inr (1, [.ref jb, .int (nI (jn1 + 1)), .int jm, .int jS1, .int jl])), (jb, .inl (cJ, 300, .inl (upd fb1 jn1 (rest &&& 127))))]) in_J tok_J nok_J 0 rfl rfl 1 (by decide) (zk_m tw_46) rfl rfl rfl rfl (Nat.le_of_ble_eq_true rfl) d_J_writeNumber_65 rfl ?_
            refine zk_aload_n (pc := 68) X d_J_writeNumber_68 rfl (q := 3) rfl ?_
            refine zk_aload_n (pc := 69) X d_J_writeNumber_69 rfl (q := 3) rfl ?_
            refine zk_get (pc := 70) X (ci := 1) (v := .int jS1) in_J 0 rfl rfl 3 (by decide) (zk_m tw_50) rfl d_J_writeNumber_70 ?_
            refine zk_iload (pc := 73) X d_J_writeNumber_73 (q := 0) rfl ?_
            refine zk_calli (pc := 75) X (wc := []) (wr := [(hj, .inr (1, [.ref jb, .int (nI (jn1 + 1)), .int jm, .int jS1, .int jl])), (jb, .inl (cJ, 300, .inl (upd fb1 jn1 (rest &&& 127))))]) [] [0, 1] rfl rfl (by decide) (by decide) (by decide) (zk_runSN X (tysC := []) (As := [.int jS1, .int (rest &&& 127)]) (rest := [.ref hj]) (c_X_sealByte l dC dI jS1 (rest &&& 127)) [] rfl ⟨va_cnB 2 X.1.2.2.2.2 (zk_goodT tw_230) rfl rfl rfl X.2.2.2.2.2.2.2.2.1 (X.1.2.2.2.2 _ (zk_m tw_1)) (by decide +kernel) ⟨Nat.le_of_ble_eq_true rfl, Nat.le_of_ble_eq_true rfl⟩, X.1.2.2.2.2 _ (zk_m tw_229), trivial⟩ rfl rfl (Nat.le_of_ble_eq_true rfl) ⟨Nat.zero_le _, Nat.zero_le _⟩ d_J_writeNumber_75) ?_
            rintro r75 ⟨⟩ w75
            refine zk_ws (ws' := [(hj, .inr (1, [.ref jb, .int (nI (jn1 + 1)), .int jm, .int jS1, .int jl])), (jb, .inl (cJ, 300, .inl (upd fb1 jn1 (rest &&& 127))))]) rfl ?_
            subst w75
            refine zk_put (pc := 78) X (ty := .int) (v := .int (sp_X_sealByte jS1 (rest &&& 127))) (ws' := [(hj, .inr (1, [.ref jb, .int (nI (jn1 + 1)), .int jm, .int (sp_X_sealByte jS1 (rest &&& 127)), .int jl])), (jb, .inl (cJ, 300, .inl (upd fb1 jn1 (rest &&& 127))))]) in_J tok_J nok_J 0 rfl rfl 3 (by decide) (zk_m tw_50) rfl rfl rfl rfl (Nat.le_of_ble_eq_true rfl) d_J_writeNumber_78 rfl ?_
            refine zk_iload_n (pc := 81) X d_J_writeNumber_81 rfl (q := 1) rfl ?_
            refine zk_if_ne (pc := 82) X (tgt := 88) d_J_writeNumber_82 (by decide) (fun g => absurd h31 g) (fun _ => ?_)
            refine zk_goto (pc := 85) X (tgt := 94) d_J_writeNumber_85 (by decide) ?_
            exact zk_vret (pc := 94) X hQ hRt hLk ((upd fb1 jn1 (rest &&& 127)), jn1 + 1, (sp_X_sealByte jS1 (rest &&& 127))) ⟨hq.symm, (show (jn1 + 1) ≤ 300 by omega)⟩ [0, 1] rfl (by decide) d_J_writeNumber_94
  have hq := sp_J_writeNumber.eq_1 number fb jn jS
  refine zk_lv (lv' := [(0, .ref hj), (1, .int number)]) [0, 1] rfl ?_
  refine zk_iload_n (pc := 0) X d_J_writeNumber_0 rfl (q := 1) rfl ?_
  refine zk_istore_n (pc := 1) X (i := 2) (lv' := [(2, .int number), (0, .ref hj), (1, .int number)]) d_J_writeNumber_1 rfl (by decide) rfl ?_
  refine zk_iconst (pc := 2) X (v := 0) d_J_writeNumber_2 rfl ?_
  refine zk_istore_n (pc := 3) X (i := 3) (lv' := [(3, .int 0), (2, .int number), (0, .ref hj), (1, .int number)]) d_J_writeNumber_3 rfl (by decide) rfl ?_
  refine zk_lv (lv' := [(0, .ref hj), (1, .int number), (2, .int number), (3, .int 0)]) [2, 3, 1, 0] rfl ?_
  exact cut4 (6) number 0 fb jn jS (by omega) (by omega) (by omega) hq
def sp_J_beginEntry (step : Int32) (kind : Int32) (fb : Nat → Int32) (jn : Nat) (jm : Int32) (jS : Int32) (jl : Int32) : (Nat → Int32) × Nat × Int32 × Int32 × Int32 :=
  (match sp_J_writeNumber ((4 * (step - jl)) + kind) fb jn jS with
  | (fb_11, jn_11, jS_11) =>
    (fb_11, jn_11, (jm + 1), jS_11, step))
abbrev rm_J_beginEntry : Room := { frames := 3, cells := 0, slots := 0, locals := 68 }
set_option maxHeartbeats 4000000 in
set_option maxRecDepth 100000 in
theorem c_J_beginEntry (l : Launch) (dC : Nat → ClassId) (dI : Nat → Nat → Nat) (hj jb : Nat) (cJ : ClassId) (step : Int32) (kind : Int32) (fb : Nat → Int32) (jn : Nat) (jm : Int32) (jS : Int32) (jl : Int32) (hjn : jn ≤ 300) : zk_Cv l y_J_beginEntry w_J_beginEntry rm_J_beginEntry (dC, dI) vwCl [.ref hj, .int step, .int kind] [(hj, .inr (1, [.ref jb, .int (nI jn), .int jm, .int jS, .int jl])), (jb, .inl (cJ, 300, .inl fb))] [(cJ, .int)] (fun (u : (Nat → Int32) × Nat × Int32 × Int32 × Int32) => u = sp_J_beginEntry step kind fb jn jm jS jl ∧ (u.2.1 ≤ 300)) (fun u => [(hj, .inr (1, [.ref jb, .int (nI u.2.1), .int u.2.2.1, .int u.2.2.2.1, .int u.2.2.2.2])), (jb, .inl (cJ, 300, .inl u.1))]) := by
  refine zk_enterv (cc := b_J_beginEntry) (maxL := 3) (ret := none) (by decide) rfl (Nat.le_of_ble_eq_true rfl) ?_
  intro p e s m args below meth c A Q hQ X hRt hLk
  have hq := sp_J_beginEntry.eq_1 step kind fb jn jm jS jl
  refine zk_lv (lv' := [(0, .ref hj), (1, .int step), (2, .int kind)]) [0, 1, 2] rfl ?_
  refine zk_aload_n (pc := 0) X d_J_beginEntry_0 rfl (q := 0) rfl ?_
  refine zk_iconst (pc := 1) X (v := 4) d_J_beginEntry_1 rfl ?_
  refine zk_iload_n (pc := 2) X d_J_beginEntry_2 rfl (q := 1) rfl ?_
  refine zk_aload_n (pc := 3) X d_J_beginEntry_3 rfl (q := 0) rfl ?_
  refine zk_get (pc := 4) X (ci := 1) (v := .int jl) in_J 0 rfl rfl 4 (by decide) (zk_m tw_52) rfl d_J_beginEntry_4 ?_
  refine zk_isub (pc := 7) X (v := (step - jl)) d_J_beginEntry_7 rfl ?_
  refine zk_imul (pc := 8) X (v := (4 * (step - jl))) d_J_beginEntry_8 rfl ?_
  refine zk_iload_n (pc := 9) X d_J_beginEntry_9 rfl (q := 2) rfl ?_
  refine zk_iadd (pc := 10) X (v := ((4 * (step - jl)) + kind)) d_J_beginEntry_10 rfl ?_
  refine zk_callv (pc := 11) X (wc := [(hj, .inr (1, [.ref jb, .int (nI jn), .int jm, .int jS, .int jl])), (jb, .inl (cJ, 300, .inl fb))]) (wr := []) [0, 1] [] rfl rfl (by decide) (by decide) (by decide) (zk_runV X (C := R_J) (tysC := [(cJ, .int)]) (As := [.int ((4 * (step - jl)) + kind)]) (rest := []) (c_J_writeNumber l dC dI hj jb cJ ((4 * (step - jl)) + kind) fb jn jm jS jl (by omega)) [0] rfl (ci := 1) rfl 0 rfl (zk_cwV 1 X.1.2.2.2.2 (zk_goodT tw_228) rfl rfl rfl (zk_m tw_225) (zk_m tw_226) (zk_m tw_227) (zk_m tw_3) rfl (by decide +kernel) ⟨Nat.le_of_ble_eq_true rfl, Nat.le_of_ble_eq_true rfl⟩) rfl rfl (Nat.le_of_ble_eq_true rfl) ⟨Nat.zero_le _, Nat.zero_le _⟩ d_J_beginEntry_11) ?_
  rintro ⟨fb_11, jn_11, jS_11⟩ ⟨w11, f11_0⟩
  have f11_0 : jn_11 ≤ 300 := f11_0
  refine zk_ws (ws' := [(hj, .inr (1, [.ref jb, .int (nI jn_11), .int jm, .int jS_11, .int jl])), (jb, .inl (cJ, 300, .inl fb_11))]) rfl ?_
  try dsimp only at w11
  rw [← w11] at hq
  try dsimp only at hq
  refine zk_aload_n (pc := 14) X d_J_beginEntry_14 rfl (q := 0) rfl ?_
  refine zk_iload_n (pc := 15) X d_J_beginEntry_15 rfl (q := 1) rfl ?_
  refine zk_put (pc := 16) X (ty := .int) (v := .int step) (ws' := [(hj, .inr (1, [.ref jb, .int (nI jn_11), .int jm, .int jS_11, .int step])), (jb, .inl (cJ, 300, .inl fb_11))]) in_J tok_J nok_J 0 rfl rfl 4 (by decide) (zk_m tw_52) rfl rfl rfl rfl (Nat.le_of_ble_eq_true rfl) d_J_beginEntry_16 rfl ?_
  refine zk_aload_n (pc := 19) X d_J_beginEntry_19 rfl (q := 0) rfl ?_
  refine zk_dup (pc := 20) X d_J_beginEntry_20 rfl ?_
  refine zk_get (pc := 21) X (ci := 1) (v := .int jm) in_J 0 rfl rfl 2 (by decide) (zk_m tw_48) rfl d_J_beginEntry_21 ?_
  refine zk_iconst (pc := 24) X (v := 1) d_J_beginEntry_24 rfl ?_
  refine zk_iadd (pc := 25) X (v := (jm + 1)) d_J_beginEntry_25 rfl ?_
  refine zk_put (pc := 26) X (ty := .int) (v := .int (jm + 1)) (ws' := [(hj, .inr (1, [.ref jb, .int (nI jn_11), .int (jm + 1), .int jS_11, .int step])), (jb, .inl (cJ, 300, .inl fb_11))]) in_J tok_J nok_J 0 rfl rfl 2 (by decide) (zk_m tw_48) rfl rfl rfl rfl (Nat.le_of_ble_eq_true rfl) d_J_beginEntry_26 rfl ?_
  exact zk_vret (pc := 29) X hQ hRt hLk (fb_11, jn_11, (jm + 1), jS_11, step) ⟨hq.symm, (show jn_11 ≤ 300 by omega)⟩ [0, 1] rfl (by decide) d_J_beginEntry_29
def sp_J_sealNow_4 (fb : Nat → Int32) (jn : Nat) : Nat → Int32 → Nat → Int32
  | 0, h, j => 0
  | fuel + 1, h, j =>
    if jn ≤ j then
      h
    else
      sp_J_sealNow_4 fb jn fuel (sp_X_sealByte h (fb j)) (j + 1)
def sp_J_sealNow (fb : Nat → Int32) (jn : Nat) : Int32 :=
  sp_J_sealNow_4 fb jn (jn + 1) 1 0
abbrev rm_J_sealNow : Room := { frames := 2, cells := 0, slots := 0, locals := 43 }
set_option maxHeartbeats 4000000 in
set_option maxRecDepth 100000 in
theorem c_J_sealNow (l : Launch) (dC : Nat → ClassId) (dI : Nat → Nat → Nat) (hj jb : Nat) (cJ : ClassId) (fb : Nat → Int32) (jn : Nat) (jm : Int32) (jS : Int32) (jl : Int32) (hjn : jn ≤ 300) : zk_Ci l y_J_sealNow w_J_sealNow rm_J_sealNow (dC, dI) vwCl [.ref hj] [(hj, .inr (1, [.ref jb, .int (nI jn), .int jm, .int jS, .int jl])), (jb, .inl (cJ, 300, .inl fb))] [(cJ, .int)] (fun (r : Int32) (u : Unit) => r = sp_J_sealNow fb jn) (fun _ => [(hj, .inr (1, [.ref jb, .int (nI jn), .int jm, .int jS, .int jl])), (jb, .inl (cJ, 300, .inl fb))]) := by
  refine zk_enteri (cc := b_J_sealNow) (maxL := 3) (ret := some .int) (by decide) rfl (Nat.le_of_ble_eq_true rfl) ?_
  intro p e s m args below meth c A Q hQ X hRt hLk
  have cut4 : ∀ (fuel : Nat) (h : Int32) (j : Nat), (j ≤ jn) → jn - j < fuel → sp_J_sealNow fb jn = sp_J_sealNow_4 fb jn fuel h j → zk_Z p l e rm_J_sealNow s m args below meth c Q A (dC, dI) vwCl 3 0 0 [(hj, .inr (1, [.ref jb, .int (nI jn), .int jm, .int jS, .int jl])), (jb, .inl (cJ, 300, .inl fb))] [(0, .ref hj), (1, .int h), (2, .int (nI j))] [] 4 := by
    intro fuel
    induction fuel with
    | zero => intro h j hjj hMs; exact absurd hMs (Nat.not_lt_zero _)
    | succ fuel ih =>
      intro h j hjj hMs hq
      rw [sp_J_sealNow_4] at hq
      refine zk_iload_n (pc := 4) X d_J_sealNow_4 rfl (q := 2) rfl ?_
      refine zk_aload_n (pc := 5) X d_J_sealNow_5 rfl (q := 0) rfl ?_
      refine zk_get (pc := 6) X (ci := 1) (v := .int (nI jn)) in_J 0 rfl rfl 1 (by decide) (zk_m tw_46) rfl d_J_sealNow_6 ?_
      refine zk_icmpN_ge (pc := 9) X (tgt := 29) (j) (jn) rfl rfl (by omega) (by omega) d_J_sealNow_9 (by decide) (fun h9 => ?_) (fun h9 => ?_)
      · have hq := hq.trans (if_pos h9)
        refine zk_iload_n (pc := 29) X d_J_sealNow_29 rfl (q := 1) rfl ?_
        exact zk_iret (pc := 30) X hQ hRt hLk () hq.symm [0, 1] rfl (by decide) d_J_sealNow_30
      · have hq := hq.trans (if_neg h9)
        refine zk_iload_n (pc := 12) X d_J_sealNow_12 rfl (q := 1) rfl ?_
        refine zk_aload_n (pc := 13) X d_J_sealNow_13 rfl (q := 0) rfl ?_
        refine zk_get (pc := 14) X (ci := 1) (v := .ref jb) in_J 0 rfl rfl 0 (by decide) (zk_m tw_43) rfl d_J_sealNow_14 ?_
        refine zk_iload_n (pc := 17) X d_J_sealNow_17 rfl (q := 2) rfl ?_
        refine zk_iald (pc := 18) X 1 0 (j) rfl rfl rfl (by omega) (by decide) d_J_sealNow_18 ?_
        refine zk_calli (pc := 19) X (wc := []) (wr := [(hj, .inr (1, [.ref jb, .int (nI jn), .int jm, .int jS, .int jl])), (jb, .inl (cJ, 300, .inl fb))]) [] [0, 1] rfl rfl (by decide) (by decide) (by decide) (zk_runSN X (tysC := []) (As := [.int h, .int (fb j)]) (rest := []) (c_X_sealByte l dC dI h (fb j)) [] rfl ⟨va_cnB 2 X.1.2.2.2.2 (zk_goodT tw_230) rfl rfl rfl X.2.2.2.2.2.2.2.2.1 (X.1.2.2.2.2 _ (zk_m tw_1)) (by decide +kernel) ⟨Nat.le_of_ble_eq_true rfl, Nat.le_of_ble_eq_true rfl⟩, X.1.2.2.2.2 _ (zk_m tw_229), trivial⟩ rfl rfl (Nat.le_of_ble_eq_true rfl) ⟨Nat.zero_le _, Nat.zero_le _⟩ d_J_sealNow_19) ?_
        rintro r19 ⟨⟩ w19
        refine zk_ws (ws' := [(hj, .inr (1, [.ref jb, .int (nI jn), .int jm, .int jS, .int jl])), (jb, .inl (cJ, 300, .inl fb))]) rfl ?_
        subst w19
        refine zk_istore_n (pc := 22) X (i := 1) (lv' := [(1, .int (sp_X_sealByte h (fb j))), (0, .ref hj), (2, .int (nI j))]) d_J_sealNow_22 rfl (by decide) rfl ?_
        refine zk_iinc (pc := 23) X (k0 := 2) (v := nI (j + 1)) (lv' := [(2, .int (nI (j + 1))), (1, .int (sp_X_sealByte h (fb j))), (0, .ref hj)]) d_J_sealNow_23 rfl (nI_add (j) 1) (by decide) rfl ?_
        refine zk_goto (pc := 26) X (tgt := 4) d_J_sealNow_26 (by decide) ?_
        refine zk_lv (lv' := [(0, .ref hj), (1, .int (sp_X_sealByte h (fb j))), (2, .int (nI (j + 1)))]) [2, 1, 0] rfl ?_
        exact ih (sp_X_sealByte h (fb j)) (j + 1) (by omega) (by omega) hq
  have hq := sp_J_sealNow.eq_1 fb jn
  refine zk_lv (lv' := [(0, .ref hj)]) [0] rfl ?_
  refine zk_iconst (pc := 0) X (v := 1) d_J_sealNow_0 rfl ?_
  refine zk_istore_n (pc := 1) X (i := 1) (lv' := [(1, .int 1), (0, .ref hj)]) d_J_sealNow_1 rfl (by decide) rfl ?_
  refine zk_iconst (pc := 2) X (v := 0) d_J_sealNow_2 rfl ?_
  refine zk_istore_n (pc := 3) X (i := 2) (lv' := [(2, .int 0), (1, .int 1), (0, .ref hj)]) d_J_sealNow_3 rfl (by decide) rfl ?_
  refine zk_lv (lv' := [(0, .ref hj), (1, .int 1), (2, .int 0)]) [2, 1, 0] rfl ?_
  exact cut4 (jn + 1) 1 0 (by omega) (by omega) hq
