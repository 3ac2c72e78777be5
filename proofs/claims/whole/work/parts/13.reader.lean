def sp_D_readNumber_4 (dB : Int32) (fb : Nat → Int32) (jn : Nat) : Nat → Int32 → Nat → Nat → Int32 × Nat × Int32
  | 0, nu, j, dp1 => (0, dp1, dB)
  | fuel + 1, nu, j, dp1 =>
    if 5 ≤ j then
      (0, dp1, 1)
    else
      if (sp_J_has (nI dp1) jn) = 0 then
        (0, dp1, 1)
      else
        if (128 : Int32) ≤ (fb dp1) then
          sp_D_readNumber_4 dB fb jn fuel (nu ||| (zf_shl ((fb dp1) &&& 127) (7 * (nI j)))) (j + 1) (dp1 + 1)
        else
          ((nu ||| (zf_shl ((fb dp1) &&& 127) (7 * (nI j)))), dp1 + 1, dB)
def sp_D_readNumber (dp : Nat) (dB : Int32) (fb : Nat → Int32) (jn : Nat) : Int32 × Nat × Int32 :=
  sp_D_readNumber_4 dB fb jn 6 0 0 dp
abbrev rm_D_readNumber : Room := { frames := 1, cells := 0, slots := 0, locals := 21 }
set_option maxHeartbeats 4000000 in
set_option maxRecDepth 100000 in
theorem c_D_readNumber (l : Launch) (dC : Nat → ClassId) (dI : Nat → Nat → Nat) (hd hj jb : Nat) (cJ : ClassId) (dp : Nat) (de : Int32) (dB : Int32) (ds : Int64) (dk : Int32) (dv : Int32) (fb : Nat → Int32) (jn : Nat) (jm : Int32) (jS : Int32) (jl : Int32) (hjn : jn ≤ 300) (hdp : dp ≤ jn) : zk_Ci l y_D_readNumber w_D_readNumber rm_D_readNumber (dC, dI) vwCl [.ref hd] [(hd, .inr (4, [.ref hj, .int (nI dp), .int de, .int dB, .long ds, .int dk, .int dv])), (hj, .inr (1, [.ref jb, .int (nI jn), .int jm, .int jS, .int jl])), (jb, .inl (cJ, 300, .inl fb))] [(cJ, .int)] (fun (r : Int32) (u : Nat × Int32) => (r, u) = sp_D_readNumber dp dB fb jn ∧ (u.1 ≤ jn)) (fun u => [(hd, .inr (4, [.ref hj, .int (nI u.1), .int de, .int u.2, .long ds, .int dk, .int dv])), (hj, .inr (1, [.ref jb, .int (nI jn), .int jm, .int jS, .int jl])), (jb, .inl (cJ, 300, .inl fb))]) := by
  refine zk_enteri (cc := b_D_readNumber) (maxL := 4) (ret := some .int) (by decide) rfl (Nat.le_of_ble_eq_true rfl) ?_
  intro p e s m args below meth c A Q hQ X hRt hLk
  have cut4 : ∀ (fuel : Nat) (nu : Int32) (j : Nat) (dp1 : Nat), (j ≤ 5) → (dp1 ≤ jn) → 5 - j < fuel → sp_D_readNumber dp dB fb jn = sp_D_readNumber_4 dB fb jn fuel nu j dp1 → zk_Z p l e rm_D_readNumber s m args below meth c Q A (dC, dI) vwCl 4 0 0 [(hd, .inr (4, [.ref hj, .int (nI dp1), .int de, .int dB, .long ds, .int dk, .int dv])), (hj, .inr (1, [.ref jb, .int (nI jn), .int jm, .int jS, .int jl])), (jb, .inl (cJ, 300, .inl fb))] [(0, .ref hd), (1, .int nu), (2, .int (nI j))] [] 4 := by
    intro fuel
    induction fuel with
    | zero => intro nu j dp1 hj5 hd1 hMs; exact absurd hMs (Nat.not_lt_zero _)
    | succ fuel ih =>
      intro nu j dp1 hj5 hd1 hMs hq
      rw [sp_D_readNumber_4] at hq
      refine zk_iload_n (pc := 4) X d_D_readNumber_4 rfl (q := 2) rfl ?_
      refine zk_iconst (pc := 5) X (v := 5) d_D_readNumber_5 rfl ?_
      refine zk_icmpN_ge (pc := 6) X (tgt := 73) (j) (5) rfl rfl (by omega) (by omega) d_D_readNumber_6 (by decide) (fun h6 => ?_) (fun h6 => ?_)
      · have hq := hq.trans (if_pos h6)
        refine zk_aload_n (pc := 73) X d_D_readNumber_73 rfl (q := 0) rfl ?_
        refine zk_iconst (pc := 74) X (v := 1) d_D_readNumber_74 rfl ?_
        refine zk_put (pc := 75) X (ty := .boolean) (v := .int 1) (ws' := [(hd, .inr (4, [.ref hj, .int (nI dp1), .int de, .int 1, .long ds, .int dk, .int dv])), (hj, .inr (1, [.ref jb, .int (nI jn), .int jm, .int jS, .int jl])), (jb, .inl (cJ, 300, .inl fb))]) in_D tok_D nok_D 0 rfl rfl 3 (by decide) (zk_m tw_92) rfl rfl rfl rfl (Nat.le_of_ble_eq_true rfl) d_D_readNumber_75 rfl ?_
        refine zk_iconst (pc := 78) X (v := 0) d_D_readNumber_78 rfl ?_
        exact zk_iret (pc := 79) X hQ hRt hLk (dp1, 1) ⟨hq.symm, (show dp1 ≤ jn by omega)⟩ [0, 1, 2] rfl (by decide) d_D_readNumber_79
      · have hq := hq.trans (if_neg h6)
        refine zk_aload_n (pc := 9) X d_D_readNumber_9 rfl (q := 0) rfl ?_
        refine zk_get (pc := 10) X (ci := 4) (v := .ref hj) in_D 0 rfl rfl 0 (by decide) (zk_m tw_88) rfl d_D_readNumber_10 ?_
        refine zk_aload_n (pc := 13) X d_D_readNumber_13 rfl (q := 0) rfl ?_
        refine zk_get (pc := 14) X (ci := 4) (v := .int (nI dp1)) in_D 0 rfl rfl 1 (by decide) (zk_m tw_89) rfl d_D_readNumber_14 ?_
        refine zk_calli (pc := 17) X (wc := [(hj, .inr (1, [.ref jb, .int (nI jn), .int jm, .int jS, .int jl])), (jb, .inl (cJ, 300, .inl fb))]) (wr := [(hd, .inr (4, [.ref hj, .int (nI dp1), .int de, .int dB, .long ds, .int dk, .int dv]))]) [1, 2] [0] rfl rfl (by decide) (by decide) (by decide) (zk_runV X (C := R_J) (tysC := [(cJ, .int)]) (As := [.int (nI dp1)]) (rest := []) (c_J_has l dC dI hj jb cJ (nI dp1) fb jn jm jS jl) [0] rfl (ci := 1) rfl 1 rfl (zk_cwV 1 X.1.2.2.2.2 (zk_goodT tw_248) rfl rfl rfl (zk_m tw_245) (zk_m tw_246) (zk_m tw_247) (zk_m tw_3) rfl (by decide +kernel) ⟨Nat.le_of_ble_eq_true rfl, Nat.le_of_ble_eq_true rfl⟩) rfl rfl (Nat.le_of_ble_eq_true rfl) ⟨Nat.zero_le _, Nat.zero_le _⟩ d_D_readNumber_17) ?_
        rintro r17 ⟨⟩ ⟨w17, f17_0⟩
        have f17_0 : zk_hs r17 (nI dp1) jn := f17_0
        refine zk_ws (ws' := [(hd, .inr (4, [.ref hj, .int (nI dp1), .int de, .int dB, .long ds, .int dk, .int dv])), (hj, .inr (1, [.ref jb, .int (nI jn), .int jm, .int jS, .int jl])), (jb, .inl (cJ, 300, .inl fb))]) rfl ?_
        subst w17
        refine zk_if_eq (pc := 20) X (tgt := 73) d_D_readNumber_20 (by decide) (fun h20 => ?_) (fun h20 => ?_)
        · have hq := hq.trans (if_pos h20)
          refine zk_aload_n (pc := 73) X d_D_readNumber_73 rfl (q := 0) rfl ?_
          refine zk_iconst (pc := 74) X (v := 1) d_D_readNumber_74 rfl ?_
          refine zk_put (pc := 75) X (ty := .boolean) (v := .int 1) (ws' := [(hd, .inr (4, [.ref hj, .int (nI dp1), .int de, .int 1, .long ds, .int dk, .int dv])), (hj, .inr (1, [.ref jb, .int (nI jn), .int jm, .int jS, .int jl])), (jb, .inl (cJ, 300, .inl fb))]) in_D tok_D nok_D 0 rfl rfl 3 (by decide) (zk_m tw_92) rfl rfl rfl rfl (Nat.le_of_ble_eq_true rfl) d_D_readNumber_75 rfl ?_
          refine zk_iconst (pc := 78) X (v := 0) d_D_readNumber_78 rfl ?_
          exact zk_iret (pc := 79) X hQ hRt hLk (dp1, 1) ⟨hq.symm, (show dp1 ≤ jn by omega)⟩ [0, 1, 2] rfl (by decide) d_D_readNumber_79
        · have hq := hq.trans (if_neg h20)
          have g23 := zk_hasN f17_0 h20 (by omega) (by omega)
          refine zk_aload_n (pc := 23) X d_D_readNumber_23 rfl (q := 0) rfl ?_
          refine zk_get (pc := 24) X (ci := 4) (v := .ref hj) in_D 0 rfl rfl 0 (by decide) (zk_m tw_88) rfl d_D_readNumber_24 ?_
          refine zk_get (pc := 27) X (ci := 1) (v := .ref jb) in_J 1 rfl rfl 0 (by decide) (zk_m tw_44) rfl d_D_readNumber_27 ?_
          refine zk_aload_n (pc := 30) X d_D_readNumber_30 rfl (q := 0) rfl ?_
          refine zk_get (pc := 31) X (ci := 4) (v := .int (nI dp1)) in_D 0 rfl rfl 1 (by decide) (zk_m tw_89) rfl d_D_readNumber_31 ?_
          refine zk_iald (pc := 34) X 2 0 (dp1) rfl rfl rfl (by omega) (by decide) d_D_readNumber_34 ?_
          refine zk_istore_n (pc := 35) X (i := 3) (lv' := [(3, .int (fb dp1)), (0, .ref hd), (1, .int nu), (2, .int (nI j))]) d_D_readNumber_35 rfl (by decide) rfl ?_
          refine zk_aload_n (pc := 36) X d_D_readNumber_36 rfl (q := 1) rfl ?_
          refine zk_dup (pc := 37) X d_D_readNumber_37 rfl ?_
          refine zk_get (pc := 38) X (ci := 4) (v := .int (nI dp1)) in_D 0 rfl rfl 1 (by decide) (zk_m tw_89) rfl d_D_readNumber_38 ?_
          refine zk_iconst (pc := 41) X (v := 1) d_D_readNumber_41 rfl ?_
          refine zk_iadd (pc := 42) X (v := nI (dp1 + 1)) d_D_readNumber_42 (nI_add (dp1) (1)) ?_
          refine zk_put (pc := 43) X (ty := .int) (v := .int (nI (dp1 + 1))) (ws' := [(hd, .inr (4, [.ref hj, .int (nI (dp1 + 1)), .int de, .int dB, .long ds, .int dk, .int dv])), (hj, .inr (1, [.ref jb, .int (nI jn), .int jm, .int jS, .int jl])), (jb, .inl (cJ, 300, .inl fb))]) in_D tok_D nok_D 0 rfl rfl 1 (by decide) (zk_m tw_89) rfl rfl rfl rfl (Nat.le_of_ble_eq_true rfl) d_D_readNumber_43 rfl ?_
          refine zk_iload_n (pc := 46) X d_D_readNumber_46 rfl (q := 2) rfl ?_
          refine zk_iload_n (pc := 47) X d_D_readNumber_47 rfl (q := 0) rfl ?_
          refine zk_bipush (pc := 48) X (v := 127) d_D_readNumber_48 (by decide) ?_
          refine zk_iand (pc := 50) X (v := ((fb dp1) &&& 127)) d_D_readNumber_50 rfl ?_
          refine zk_bipush (pc := 51) X (v := 7) d_D_readNumber_51 (by decide) ?_
          refine zk_iload_n (pc := 53) X d_D_readNumber_53 rfl (q := 3) rfl ?_
          refine zk_imul (pc := 54) X (v := (7 * (nI j))) d_D_readNumber_54 rfl ?_
          refine zk_ishl (pc := 55) X (v := (zf_shl ((fb dp1) &&& 127) (7 * (nI j)))) d_D_readNumber_55 rfl ?_
          refine zk_ior (pc := 56) X (v := (nu ||| (zf_shl ((fb dp1) &&& 127) (7 * (nI j))))) d_D_readNumber_56 rfl ?_
          refine zk_istore_n (pc := 57) X (i := 1) (lv' := [(1, .int (nu ||| (zf_shl ((fb dp1) &&& 127) (7 * (nI j))))), (3, .int (fb dp1)), (0, .ref hd), (2, .int (nI j))]) d_D_readNumber_57 rfl (by decide) rfl ?_
          refine zk_iload_n (pc := 58) X d_D_readNumber_58 rfl (q := 1) rfl ?_
          refine zk_sipush (pc := 59) X (v := 128) d_D_readNumber_59 (by decide) ?_
          refine zk_icmp_ge (pc := 62) X (tgt := 67) d_D_readNumber_62 (by decide) (fun h62 => ?_) (fun h62 => ?_)
          · have hq := hq.trans (if_pos h62)
            refine zk_iinc (pc := 67) X (k0 := 3) (v := nI (j + 1)) (lv' := [(2, .int (nI (j + 1))), (1, .int (nu ||| (zf_shl ((fb dp1) &&& 127) (7 * (nI j))))), (3, .int (fb dp1)), (0, .ref hd)]) d_D_readNumber_67 rfl (nI_add (j) 1) (by decide) rfl ?_
            refine zk_goto (pc := 70) X (tgt := 4) d_D_readNumber_70 (by decide) ?_
            refine zk_lv (lv' := [(0, .ref hd), (1, .int (nu ||| (zf_shl ((fb dp1) &&& 127) (7 * (nI j))))), (2, .int (nI (j + 1)))]) [3, 1, 0] rfl ?_
            exact ih (nu ||| (zf_shl ((fb dp1) &&& 127) (7 * (nI j)))) (j + 1) (dp1 + 1) (by omega) (by omega) (by omega) hq
          · have hq := hq.trans (if_neg h62)
            refine zk_iload_n (pc := 65) X d_D_readNumber_65 rfl (q := 0) rfl ?_
            exact zk_iret (pc := 66) X hQ hRt hLk (dp1 + 1, dB) ⟨hq.symm, (show (dp1 + 1) ≤ jn by omega)⟩ [0, 1, 2] rfl (by decide) d_D_readNumber_66
  have hq := sp_D_readNumber.eq_1 dp dB fb jn
  refine zk_lv (lv' := [(0, .ref hd)]) [0] rfl ?_
  refine zk_iconst (pc := 0) X (v := 0) d_D_readNumber_0 rfl ?_
  refine zk_istore_n (pc := 1) X (i := 1) (lv' := [(1, .int 0), (0, .ref hd)]) d_D_readNumber_1 rfl (by decide) rfl ?_
  refine zk_iconst (pc := 2) X (v := 0) d_D_readNumber_2 rfl ?_
  refine zk_istore_n (pc := 3) X (i := 2) (lv' := [(2, .int 0), (1, .int 0), (0, .ref hd)]) d_D_readNumber_3 rfl (by decide) rfl ?_
  refine zk_lv (lv' := [(0, .ref hd), (1, .int 0), (2, .int 0)]) [2, 1, 0] rfl ?_
  exact cut4 (6) 0 0 dp (by omega) (by omega) (by omega) hq
def sp_D_readEntry (dp : Nat) (dB : Int32) (ds : Int64) (dk : Int32) (dv : Int32) (fb : Nat → Int32) (jn : Nat) : Nat × Int32 × Int32 × Int64 × Int32 × Int32 :=
  if dB = 0 then
    if (sp_J_has (nI dp) jn) = 0 then
      (dp, 0, dB, ds, dk, dv)
    else
      (match sp_D_readNumber dp dB fb jn with
      | (r28, dp_28, dB_28) =>
        if (r28 &&& 3) = 1 then
          (match sp_D_readNumber dp_28 dB_28 fb jn with
          | (r61, dp_61, dB_61) =>
            if (zf_ushr r28 2) = 0 then
              (dp_61, 0, 1, (ds + (Int32.toInt64 (zf_ushr r28 2))), (r28 &&& 3), r61)
            else
              if dB_61 = 0 then
                (dp_61, 1, dB_61, (ds + (Int32.toInt64 (zf_ushr r28 2))), (r28 &&& 3), r61)
              else
                (dp_61, 0, dB_61, (ds + (Int32.toInt64 (zf_ushr r28 2))), (r28 &&& 3), r61))
        else
          if (r28 &&& 3) = 2 then
            (match sp_D_readNumber dp_28 dB_28 fb jn with
            | (r61, dp_61, dB_61) =>
              if (zf_ushr r28 2) = 0 then
                (dp_61, 0, 1, (ds + (Int32.toInt64 (zf_ushr r28 2))), (r28 &&& 3), r61)
              else
                if dB_61 = 0 then
                  (dp_61, 1, dB_61, (ds + (Int32.toInt64 (zf_ushr r28 2))), (r28 &&& 3), r61)
                else
                  (dp_61, 0, dB_61, (ds + (Int32.toInt64 (zf_ushr r28 2))), (r28 &&& 3), r61))
          else
            if (r28 &&& 3) = 0 then
              (dp_28, 0, 1, (ds + (Int32.toInt64 (zf_ushr r28 2))), (r28 &&& 3), 0)
            else
              if (zf_ushr r28 2) = 0 then
                (dp_28, 0, 1, (ds + (Int32.toInt64 (zf_ushr r28 2))), (r28 &&& 3), 0)
              else
                if dB_28 = 0 then
                  (dp_28, 1, dB_28, (ds + (Int32.toInt64 (zf_ushr r28 2))), (r28 &&& 3), 0)
                else
                  (dp_28, 0, dB_28, (ds + (Int32.toInt64 (zf_ushr r28 2))), (r28 &&& 3), 0))
  else
    (dp, 0, dB, ds, dk, dv)
abbrev rm_D_readEntry : Room := { frames := 2, cells := 0, slots := 0, locals := 44 }
set_option maxHeartbeats 4000000 in
set_option maxRecDepth 100000 in
theorem c_D_readEntry (l : Launch) (dC : Nat → ClassId) (dI : Nat → Nat → Nat) (hd hj jb : Nat) (cJ : ClassId) (dp : Nat) (de : Int32) (dB : Int32) (ds : Int64) (dk : Int32) (dv : Int32) (fb : Nat → Int32) (jn : Nat) (jm : Int32) (jS : Int32) (jl : Int32) (hjn : jn ≤ 300) (hdp : dp ≤ jn) : zk_Cv l y_D_readEntry w_D_readEntry rm_D_readEntry (dC, dI) vwCl [.ref hd] [(hd, .inr (4, [.ref hj, .int (nI dp), .int de, .int dB, .long ds, .int dk, .int dv])), (hj, .inr (1, [.ref jb, .int (nI jn), .int jm, .int jS, .int jl])), (jb, .inl (cJ, 300, .inl fb))] [(cJ, .int)] (fun (u : Nat × Int32 × Int32 × Int64 × Int32 × Int32) => u = sp_D_readEntry dp dB ds dk dv fb jn ∧ (u.1 ≤ jn)) (fun u => [(hd, .inr (4, [.ref hj, .int (nI u.1), .int u.2.1, .int u.2.2.1, .long u.2.2.2.1, .int u.2.2.2.2.1, .int u.2.2.2.2.2])), (hj, .inr (1, [.ref jb, .int (nI jn), .int jm, .int jS, .int jl])), (jb, .inl (cJ, 300, .inl fb))]) := by
  refine zk_enterv (cc := b_D_readEntry) (maxL := 3) (ret := none) (by decide) rfl (Nat.le_of_ble_eq_true rfl) ?_
  intro p e s m args below meth c A Q hQ X hRt hLk
  have hq := sp_D_readEntry.eq_1 dp dB ds dk dv fb jn
  refine zk_lv (lv' := [(0, .ref hd)]) [0] rfl ?_
  refine zk_aload_n (pc := 0) X d_D_readEntry_0 rfl (q := 0) rfl ?_
  refine zk_iconst (pc := 1) X (v := 0) d_D_readEntry_1 rfl ?_
  refine zk_put (pc := 2) X (ty := .boolean) (v := .int 0) (ws' := [(hd, .inr (4, [.ref hj, .int (nI dp), .int 0, .int dB, .long ds, .int dk, .int dv])), (hj, .inr (1, [.ref jb, .int (nI jn), .int jm, .int jS, .int jl])), (jb, .inl (cJ, 300, .inl fb))]) in_D tok_D nok_D 0 rfl rfl 2 (by decide) (zk_m tw_91) rfl rfl rfl rfl (Nat.le_of_ble_eq_true rfl) d_D_readEntry_2 rfl ?_
  refine zk_aload_n (pc := 5) X d_D_readEntry_5 rfl (q := 0) rfl ?_
  refine zk_get (pc := 6) X (ci := 4) (v := .int dB) in_D 0 rfl rfl 3 (by decide) (zk_m tw_92) rfl d_D_readEntry_6 ?_
  refine zk_if_ne (pc := 9) X (tgt := 26) d_D_readEntry_9 (by decide) (fun h9 => ?_) (fun h9 => ?_)
  · have hq := hq.trans (if_neg h9)
    exact zk_vret (pc := 26) X hQ hRt hLk (dp, 0, dB, ds, dk, dv) ⟨hq.symm, (show dp ≤ jn by omega)⟩ [0, 1, 2] rfl (by decide) d_D_readEntry_26
  · have hq := hq.trans (if_pos h9)
    refine zk_aload_n (pc := 12) X d_D_readEntry_12 rfl (q := 0) rfl ?_
    refine zk_get (pc := 13) X (ci := 4) (v := .ref hj) in_D 0 rfl rfl 0 (by decide) (zk_m tw_88) rfl d_D_readEntry_13 ?_
    refine zk_aload_n (pc := 16) X d_D_readEntry_16 rfl (q := 0) rfl ?_
    refine zk_get (pc := 17) X (ci := 4) (v := .int (nI dp)) in_D 0 rfl rfl 1 (by decide) (zk_m tw_89) rfl d_D_readEntry_17 ?_
    refine zk_calli (pc := 20) X (wc := [(hj, .inr (1, [.ref jb, .int (nI jn), .int jm, .int jS, .int jl])), (jb, .inl (cJ, 300, .inl fb))]) (wr := [(hd, .inr (4, [.ref hj, .int (nI dp), .int 0, .int dB, .long ds, .int dk, .int dv]))]) [1, 2] [0] rfl rfl (by decide) (by decide) (by decide) (zk_runV X (C := R_J) (tysC := [(cJ, .int)]) (As := [.int (nI dp)]) (rest := []) (c_J_has l dC dI hj jb cJ (nI dp) fb jn jm jS jl) [0] rfl (ci := 1) rfl 1 rfl (zk_cwV 1 X.1.2.2.2.2 (zk_goodT tw_248) rfl rfl rfl (zk_m tw_245) (zk_m tw_246) (zk_m tw_247) (zk_m tw_3) rfl (by decide +kernel) ⟨Nat.le_of_ble_eq_true rfl, Nat.le_of_ble_eq_true rfl⟩) rfl rfl (Nat.le_of_ble_eq_true rfl) ⟨Nat.zero_le _, Nat.zero_le _⟩ d_D_readEntry_20) ?_
    rintro r20 ⟨⟩ ⟨w20, f20_0⟩
    have f20_0 : zk_hs r20 (nI dp) jn := f20_0
    refine zk_ws (ws' := [(hd, .inr (4, [.ref hj, .int (nI dp), .int 0, .int dB, .long ds, .int dk, .int dv])), (hj, .inr (1, [.ref jb, .int (nI jn), .int jm, .int jS, .int jl])), (jb, .inl (cJ, 300, .inl fb))]) rfl ?_
    subst w20
    refine zk_if_ne (pc := 23) X (tgt := 27) d_D_readEntry_23 (by decide) (fun h23 => ?_) (fun h23 => ?_)
    · have hq := hq.trans (if_neg h23)
      refine zk_aload_n (pc := 27) X d_D_readEntry_27 rfl (q := 0) rfl ?_
      refine zk_calli (pc := 28) X (wc := [(hd, .inr (4, [.ref hj, .int (nI dp), .int 0, .int dB, .long ds, .int dk, .int dv])), (hj, .inr (1, [.ref jb, .int (nI jn), .int jm, .int jS, .int jl])), (jb, .inl (cJ, 300, .inl fb))]) (wr := []) [0, 1, 2] [] rfl rfl (by decide) (by decide) (by decide) (zk_runV X (C := R_D) (tysC := [(cJ, .int)]) (As := []) (rest := []) (c_D_readNumber l dC dI hd hj jb cJ dp 0 dB ds dk dv fb jn jm jS jl (by omega) (by omega)) [0] rfl (ci := 4) rfl 0 rfl (zk_cwV 0 X.1.2.2.2.2 (zk_goodT tw_251) rfl rfl rfl (zk_m tw_249) (zk_m tw_250) (zk_m tw_527) (zk_m tw_7) rfl (by decide +kernel) ⟨Nat.le_of_ble_eq_true rfl, Nat.le_of_ble_eq_true rfl⟩) rfl rfl (Nat.le_of_ble_eq_true rfl) ⟨Nat.zero_le _, Nat.zero_le _⟩ d_D_readEntry_28) ?_
      rintro r28 ⟨dp_28, dB_28⟩ ⟨w28, f28_0⟩
      have f28_0 : dp_28 ≤ jn := f28_0
      refine zk_ws (ws' := [(hd, .inr (4, [.ref hj, .int (nI dp_28), .int 0, .int dB_28, .long ds, .int dk, .int dv])), (hj, .inr (1, [.ref jb, .int (nI jn), .int jm, .int jS, .int jl])), (jb, .inl (cJ, 300, .inl fb))]) rfl ?_
      try dsimp only at w28
      rw [← w28] at hq
      try dsimp only at hq
      refine zk_istore_n (pc := 31) X (i := 1) (lv' := [(1, .int r28), (0, .ref hd)]) d_D_readEntry_31 rfl (by decide) rfl ?_
      refine zk_iload_n (pc := 32) X d_D_readEntry_32 rfl (q := 0) rfl ?_
      refine zk_iconst (pc := 33) X (v := 2) d_D_readEntry_33 rfl ?_
      refine zk_iushr (pc := 34) X (v := (zf_ushr r28 2)) d_D_readEntry_34 rfl ?_
      refine zk_istore_n (pc := 35) X (i := 2) (lv' := [(2, .int (zf_ushr r28 2)), (1, .int r28), (0, .ref hd)]) d_D_readEntry_35 rfl (by decide) rfl ?_
      refine zk_aload_n (pc := 36) X d_D_readEntry_36 rfl (q := 2) rfl ?_
      refine zk_iload_n (pc := 37) X d_D_readEntry_37 rfl (q := 1) rfl ?_
      refine zk_iconst (pc := 38) X (v := 3) d_D_readEntry_38 rfl ?_
      refine zk_iand (pc := 39) X (v := (r28 &&& 3)) d_D_readEntry_39 rfl ?_
      refine zk_put (pc := 40) X (ty := .int) (v := .int (r28 &&& 3)) (ws' := [(hd, .inr (4, [.ref hj, .int (nI dp_28), .int 0, .int dB_28, .long ds, .int (r28 &&& 3), .int dv])), (hj, .inr (1, [.ref jb, .int (nI jn), .int jm, .int jS, .int jl])), (jb, .inl (cJ, 300, .inl fb))]) in_D tok_D nok_D 0 rfl rfl 5 (by decide) (zk_m tw_96) rfl rfl rfl rfl (Nat.le_of_ble_eq_true rfl) d_D_readEntry_40 rfl ?_
      refine zk_aload_n (pc := 43) X d_D_readEntry_43 rfl (q := 2) rfl ?_
      refine zk_aload_n (pc := 44) X d_D_readEntry_44 rfl (q := 2) rfl ?_
      refine zk_get (pc := 45) X (ci := 4) (v := .int (r28 &&& 3)) in_D 0 rfl rfl 5 (by decide) (zk_m tw_96) rfl d_D_readEntry_45 ?_
      refine zk_iconst (pc := 48) X (v := 1) d_D_readEntry_48 rfl ?_
      refine zk_icmp_eq (pc := 49) X (tgt := 60) d_D_readEntry_49 (by decide) (fun h49 => ?_) (fun h49 => ?_)
      · have hq := hq.trans (if_pos h49)
        refine zk_aload_n (pc := 60) X d_D_readEntry_60 rfl (q := 2) rfl ?_
        refine zk_calli (pc := 61) X (wc := [(hd, .inr (4, [.ref hj, .int (nI dp_28), .int 0, .int dB_28, .long ds, .int (r28 &&& 3), .int dv])), (hj, .inr (1, [.ref jb, .int (nI jn), .int jm, .int jS, .int jl])), (jb, .inl (cJ, 300, .inl fb))]) (wr := []) [0, 1, 2] [] rfl rfl (by decide) (by decide) (by decide) (zk_runV X (C := R_D) (tysC := [(cJ, .int)]) (As := []) (rest := [.ref hd]) (c_D_readNumber l dC dI hd hj jb cJ dp_28 0 dB_28 ds (r28 &&& 3) dv fb jn jm jS jl (by omega) (by omega)) [0] rfl (ci := 4) rfl 0 rfl (zk_cwV 0 X.1.2.2.2.2 (zk_goodT tw_251) rfl rfl rfl (zk_m tw_249) (zk_m tw_250) (zk_m tw_527) (zk_m tw_7) rfl (by decide +kernel) ⟨Nat.le_of_ble_eq_true rfl, Nat.le_of_ble_eq_true rfl⟩) rfl rfl (Nat.le_of_ble_eq_true rfl) ⟨Nat.zero_le _, Nat.zero_le _⟩ d_D_readEntry_61) ?_
        rintro r61 ⟨dp_61, dB_61⟩ ⟨w61, f61_0⟩
        have f61_0 : dp_61 ≤ jn := f61_0
        refine zk_ws (ws' := [(hd, .inr (4, [.ref hj, .int (nI dp_61), .int 0, .int dB_61, .long ds, .int (r28 &&& 3), .int dv])), (hj, .inr (1, [.ref jb, .int (nI jn), .int jm, .int jS, .int jl])), (jb, .inl (cJ, 300, .inl fb))]) rfl ?_
        try dsimp only at w61
        rw [← w61] at hq
        try dsimp only at hq
        refine zk_goto (pc := 64) X (tgt := 68) d_D_readEntry_64 (by decide) ?_
        refine zk_put (pc := 68) X (ty := .int) (v := .int r61) (ws' := [(hd, .inr (4, [.ref hj, .int (nI dp_61), .int 0, .int dB_61, .long ds, .int (r28 &&& 3), .int r61])), (hj, .inr (1, [.ref jb, .int (nI jn), .int jm, .int jS, .int jl])), (jb, .inl (cJ, 300, .inl fb))]) in_D tok_D nok_D 0 rfl rfl 6 (by decide) (zk_m tw_98) rfl rfl rfl rfl (Nat.le_of_ble_eq_true rfl) d_D_readEntry_68 rfl ?_
        refine zk_aload_n (pc := 71) X d_D_readEntry_71 rfl (q := 2) rfl ?_
        refine zk_dup (pc := 72) X d_D_readEntry_72 rfl ?_
        refine zk_get (pc := 73) X (ci := 4) (v := .long ds) in_D 0 rfl rfl 4 (by decide) (zk_m tw_94) rfl d_D_readEntry_73 ?_
        refine zk_iload_n (pc := 76) X d_D_readEntry_76 rfl (q := 0) rfl ?_
        refine zk_i2l (pc := 77) X (v := (Int32.toInt64 (zf_ushr r28 2))) d_D_readEntry_77 rfl ?_
        refine zk_ladd (pc := 78) X (v := (ds + (Int32.toInt64 (zf_ushr r28 2)))) d_D_readEntry_78 rfl ?_
        refine zk_put (pc := 79) X (ty := .long) (v := .long (ds + (Int32.toInt64 (zf_ushr r28 2)))) (ws' := [(hd, .inr (4, [.ref hj, .int (nI dp_61), .int 0, .int dB_61, .long (ds + (Int32.toInt64 (zf_ushr r28 2))), .int (r28 &&& 3), .int r61])), (hj, .inr (1, [.ref jb, .int (nI jn), .int jm, .int jS, .int jl])), (jb, .inl (cJ, 300, .inl fb))]) in_D tok_D nok_D 0 rfl rfl 4 (by decide) (zk_m tw_94) rfl rfl rfl rfl (Nat.le_of_ble_eq_true rfl) d_D_readEntry_79 rfl ?_
        refine zk_aload_n (pc := 82) X d_D_readEntry_82 rfl (q := 2) rfl ?_
        refine zk_get (pc := 83) X (ci := 4) (v := .int (r28 &&& 3)) in_D 0 rfl rfl 5 (by decide) (zk_m tw_96) rfl d_D_readEntry_83 ?_
        refine zk_if_eq (pc := 86) X (tgt := 93) d_D_readEntry_86 (by decide) (fun g => absurd g (fun g => absurd (h49.symm.trans g) (by decide))) (fun _ => ?_)
        refine zk_iload_n (pc := 89) X d_D_readEntry_89 rfl (q := 0) rfl ?_
        refine zk_if_ne (pc := 90) X (tgt := 98) d_D_readEntry_90 (by decide) (fun h90 => ?_) (fun h90 => ?_)
        · have hq := hq.trans (if_neg h90)
          refine zk_aload_n (pc := 98) X d_D_readEntry_98 rfl (q := 2) rfl ?_
          refine zk_aload_n (pc := 99) X d_D_readEntry_99 rfl (q := 2) rfl ?_
          refine zk_get (pc := 100) X (ci := 4) (v := .int dB_61) in_D 0 rfl rfl 3 (by decide) (zk_m tw_92) rfl d_D_readEntry_100 ?_
          refine zk_if_ne (pc := 103) X (tgt := 110) d_D_readEntry_103 (by decide) (fun h103 => ?_) (fun h103 => ?_)
          · have hq := hq.trans (if_neg h103)
            refine zk_iconst (pc := 110) X (v := 0) d_D_readEntry_110 rfl ?_
            refine zk_put (pc := 111) X (ty := .boolean) (v := .int 0) (ws' := [(hd, .inr (4, [.ref hj, .int (nI dp_61), .int 0, .int dB_61, .long (ds + (Int32.toInt64 (zf_ushr r28 2))), .int (r28 &&& 3), .int r61])), (hj, .inr (1, [.ref jb, .int (nI jn), .int jm, .int jS, .int jl])), (jb, .inl (cJ, 300, .inl fb))]) in_D tok_D nok_D 0 rfl rfl 2 (by decide) (zk_m tw_91) rfl rfl rfl rfl (Nat.le_of_ble_eq_true rfl) d_D_readEntry_111 rfl ?_
            exact zk_vret (pc := 114) X hQ hRt hLk (dp_61, 0, dB_61, (ds + (Int32.toInt64 (zf_ushr r28 2))), (r28 &&& 3), r61) ⟨hq.symm, (show dp_61 ≤ jn by omega)⟩ [0, 1, 2] rfl (by decide) d_D_readEntry_114
          · have hq := hq.trans (if_pos h103)
            refine zk_iconst (pc := 106) X (v := 1) d_D_readEntry_106 rfl ?_
            refine zk_goto (pc := 107) X (tgt := 111) d_D_readEntry_107 (by decide) ?_
            refine zk_put (pc := 111) X (ty := .boolean) (v := .int 1) (ws' := [(hd, .inr (4, [.ref hj, .int (nI dp_61), .int 1, .int dB_61, .long (ds + (Int32.toInt64 (zf_ushr r28 2))), .int (r28 &&& 3), .int r61])), (hj, .inr (1, [.ref jb, .int (nI jn), .int jm, .int jS, .int jl])), (jb, .inl (cJ, 300, .inl fb))]) in_D tok_D nok_D 0 rfl rfl 2 (by decide) (zk_m tw_91) rfl rfl rfl rfl (Nat.le_of_ble_eq_true rfl) d_D_readEntry_111 rfl ?_
            exact zk_vret (pc := 114) X hQ hRt hLk (dp_61, 1, dB_61, (ds + (Int32.toInt64 (zf_ushr r28 2))), (r28 &&& 3), r61) ⟨hq.symm, (show dp_61 ≤ jn by omega)⟩ [0, 1, 2] rfl (by decide) d_D_readEntry_114
        · have hq := hq.trans (if_pos h90)
          refine zk_aload_n (pc := 93) X d_D_readEntry_93 rfl (q := 2) rfl ?_
          refine zk_iconst (pc := 94) X (v := 1) d_D_readEntry_94 rfl ?_
          refine zk_put (pc := 95) X (ty := .boolean) (v := .int 1) (ws' := [(hd, .inr (4, [.ref hj, .int (nI dp_61), .int 0, .int 1, .long (ds + (Int32.toInt64 (zf_ushr r28 2))), .int (r28 &&& 3), .int r61])), (hj, .inr (1, [.ref jb, .int (nI jn), .int jm, .int jS, .int jl])), (jb, .inl (cJ, 300, .inl fb))]) in_D tok_D nok_D 0 rfl rfl 3 (by decide) (zk_m tw_92) rfl rfl rfl rfl (Nat.le_of_ble_eq_true rfl) d_D_readEntry_95 rfl ?_
          refine zk_aload_n (pc := 98) X d_D_readEntry_98 rfl (q := 2) rfl ?_
          refine zk_aload_n (pc := 99) X d_D_readEntry_99 rfl (q := 2) rfl ?_
          refine zk_get (pc := 100) X (ci := 4) (v := .int 1) in_D 0 rfl rfl 3 (by decide) (zk_m tw_92) rfl d_D_readEntry_100 ?_
          refine zk_if_ne (pc := 103) X (tgt := 110) d_D_readEntry_103 (by decide) (fun _ => ?_) (fun h => absurd h (by decide))
          refine zk_iconst (pc := 110) X (v := 0) d_D_readEntry_110 rfl ?_
          refine zk_put (pc := 111) X (ty := .boolean) (v := .int 0) (ws' := [(hd, .inr (4, [.ref hj, .int (nI dp_61), .int 0, .int 1, .long (ds + (Int32.toInt64 (zf_ushr r28 2))), .int (r28 &&& 3), .int r61])), (hj, .inr (1, [.ref jb, .int (nI jn), .int jm, .int jS, .int jl])), (jb, .inl (cJ, 300, .inl fb))]) in_D tok_D nok_D 0 rfl rfl 2 (by decide) (zk_m tw_91) rfl rfl rfl rfl (Nat.le_of_ble_eq_true rfl) d_D_readEntry_111 rfl ?_
          exact zk_vret (pc := 114) X hQ hRt hLk (dp_61, 0, 1, (ds + (Int32.toInt64 (zf_ushr r28 2))), (r28 &&& 3), r61) ⟨hq.symm, (show dp_61 ≤ jn by omega)⟩ [0, 1, 2] rfl (by decide) d_D_readEntry_114
      · have hq := hq.trans (if_neg h49)
        refine zk_aload_n (pc := 52) X d_D_readEntry_52 rfl (q := 2) rfl ?_
        refine zk_get (pc := 53) X (ci := 4) (v := .int (r28 &&& 3)) in_D 0 rfl rfl 5 (by decide) (zk_m tw_96) rfl d_D_readEntry_53 ?_
        refine zk_iconst (pc := 56) X (v := 2) d_D_readEntry_56 rfl ?_
        refine zk_icmp_ne (pc := 57) X (tgt := 67) d_D_readEntry_57 (by decide) (fun h57 => ?_) (fun h57 => ?_)
        · have hq := hq.trans (if_neg h57)
          refine zk_iconst (pc := 67) X (v := 0) d_D_readEntry_67 rfl ?_
          refine zk_put (pc := 68) X (ty := .int) (v := .int 0) (ws' := [(hd, .inr (4, [.ref hj, .int (nI dp_28), .int 0, .int dB_28, .long ds, .int (r28 &&& 3), .int 0])), (hj, .inr (1, [.ref jb, .int (nI jn), .int jm, .int jS, .int jl])), (jb, .inl (cJ, 300, .inl fb))]) in_D tok_D nok_D 0 rfl rfl 6 (by decide) (zk_m tw_98) rfl rfl rfl rfl (Nat.le_of_ble_eq_true rfl) d_D_readEntry_68 rfl ?_
          refine zk_aload_n (pc := 71) X d_D_readEntry_71 rfl (q := 2) rfl ?_
          refine zk_dup (pc := 72) X d_D_readEntry_72 rfl ?_
          refine zk_get (pc := 73) X (ci := 4) (v := .long ds) in_D 0 rfl rfl 4 (by decide) (zk_m tw_94) rfl d_D_readEntry_73 ?_
          refine zk_iload_n (pc := 76) X d_D_readEntry_76 rfl (q := 0) rfl ?_
          refine zk_i2l (pc := 77) X (v := (Int32.toInt64 (zf_ushr r28 2))) d_D_readEntry_77 rfl ?_
          refine zk_ladd (pc := 78) X (v := (ds + (Int32.toInt64 (zf_ushr r28 2)))) d_D_readEntry_78 rfl ?_
          refine zk_put (pc := 79) X (ty := .long) (v := .long (ds + (Int32.toInt64 (zf_ushr r28 2)))) (ws' := [(hd, .inr (4, [.ref hj, .int (nI dp_28), .int 0, .int dB_28, .long (ds + (Int32.toInt64 (zf_ushr r28 2))), .int (r28 &&& 3), .int 0])), (hj, .inr (1, [.ref jb, .int (nI jn), .int jm, .int jS, .int jl])), (jb, .inl (cJ, 300, .inl fb))]) in_D tok_D nok_D 0 rfl rfl 4 (by decide) (zk_m tw_94) rfl rfl rfl rfl (Nat.le_of_ble_eq_true rfl) d_D_readEntry_79 rfl ?_
          refine zk_aload_n (pc := 82) X d_D_readEntry_82 rfl (q := 2) rfl ?_
          refine zk_get (pc := 83) X (ci := 4) (v := .int (r28 &&& 3)) in_D 0 rfl rfl 5 (by decide) (zk_m tw_96) rfl d_D_readEntry_83 ?_
          refine zk_if_eq (pc := 86) X (tgt := 93) d_D_readEntry_86 (by decide) (fun h86 => ?_) (fun h86 => ?_)
          · have hq := hq.trans (if_pos h86)
            refine zk_aload_n (pc := 93) X d_D_readEntry_93 rfl (q := 2) rfl ?_
            refine zk_iconst (pc := 94) X (v := 1) d_D_readEntry_94 rfl ?_
            refine zk_put (pc := 95) X (ty := .boolean) (v := .int 1) (ws' := [(hd, .inr (4, [.ref hj, .int (nI dp_28), .int 0, .int 1, .long (ds + (Int32.toInt64 (zf_ushr r28 2))), .int (r28 &&& 3), .int 0])), (hj, .inr (1, [.ref jb, .int (nI jn), .int jm, .int jS, .int jl])), (jb, .inl (cJ, 300, .inl fb))]) in_D tok_D nok_D 0 rfl rfl 3 (by decide) (zk_m tw_92) rfl rfl rfl rfl (Nat.le_of_ble_eq_true rfl) d_D_readEntry_95 rfl ?_
            refine zk_aload_n (pc := 98) X d_D_readEntry_98 rfl (q := 2) rfl ?_
            refine zk_aload_n (pc := 99) X d_D_readEntry_99 rfl (q := 2) rfl ?_
            refine zk_get (pc := 100) X (ci := 4) (v := .int 1) in_D 0 rfl rfl 3 (by decide) (zk_m tw_92) rfl d_D_readEntry_100 ?_
            refine zk_if_ne (pc := 103) X (tgt := 110) d_D_readEntry_103 (by decide) (fun _ => ?_) (fun h => absurd h (by decide))
            refine zk_iconst (pc := 110) X (v := 0) d_D_readEntry_110 rfl ?_
            refine zk_put (pc := 111) X (ty := .boolean) (v := .int 0) (ws' := [(hd, .inr (4, [.ref hj, .int (nI dp_28), .int 0, .int 1, .long (ds + (Int32.toInt64 (zf_ushr r28 2))), .int (r28 &&& 3), .int 0])), (hj, .inr (1, [.ref jb, .int (nI jn), .int jm, .int jS, .int jl])), (jb, .inl (cJ, 300, .inl fb))]) in_D tok_D nok_D 0 rfl rfl 2 (by decide) (zk_m tw_91) rfl rfl rfl rfl (Nat.le_of_ble_eq_true rfl) d_D_readEntry_111 rfl ?_
            exact zk_vret (pc := 114) X hQ hRt hLk (dp_28, 0, 1, (ds + (Int32.toInt64 (zf_ushr r28 2))), (r28 &&& 3), 0) ⟨hq.symm, (show dp_28 ≤ jn by omega)⟩ [0, 1, 2] rfl (by decide) d_D_readEntry_114
          · have hq := hq.trans (if_neg h86)
            refine zk_iload_n (pc := 89) X d_D_readEntry_89 rfl (q := 0) rfl ?_
            refine zk_if_ne (pc := 90) X (tgt := 98) d_D_readEntry_90 (by decide) (fun h90 => ?_) (fun h90 => ?_)
            · have hq := hq.trans (if_neg h90)
              refine zk_aload_n (pc := 98) X d_D_readEntry_98 rfl (q := 2) rfl ?_
              refine zk_aload_n (pc := 99) X d_D_readEntry_99 rfl (q := 2) rfl ?_
              refine zk_get (pc := 100) X (ci := 4) (v := .int dB_28) in_D 0 rfl rfl 3 (by decide) (zk_m tw_92) rfl d_D_readEntry_100 ?_
              refine zk_if_ne (pc := 103) X (tgt := 110) d_D_readEntry_103 (by decide) (fun h103 => ?_) (fun h103 => ?_)
              · have hq := hq.trans (if_neg h103)
                refine zk_iconst (pc := 110) X (v := 0) d_D_readEntry_110 rfl ?_
                refine zk_put (pc := 111) X (ty := .boolean) (v := .int 0) (ws' := [(hd, .inr (4, [.ref hj, .int (nI dp_28), .int 0, .int dB_28, .long (ds + (Int32.toInt64 (zf_ushr r28 2))), .int (r28 &&& 3), .int 0])), (hj, .inr (1, [.ref jb, .int (nI jn), .int jm, .int jS, .int jl])), (jb, .inl (cJ, 300, .inl fb))]) in_D tok_D nok_D 0 rfl rfl 2 (by decide) (zk_m tw_91) rfl rfl rfl rfl (Nat.le_of_ble_eq_true rfl) d_D_readEntry_111 rfl ?_
                exact zk_vret (pc := 114) X hQ hRt hLk (dp_28, 0, dB_28, (ds + (Int32.toInt64 (zf_ushr r28 2))), (r28 &&& 3), 0) ⟨hq.symm, (show dp_28 ≤ jn by omega)⟩ [0, 1, 2] rfl (by decide) d_D_readEntry_114
              · have hq := hq.trans (if_pos h103)
                refine zk_iconst (pc := 106) X (v := 1) d_D_readEntry_106 rfl ?_
                refine zk_goto (pc := 107) X (tgt := 111) d_D_readEntry_107 (by decide) ?_
                refine zk_put (pc := 111) X (ty := .boolean) (v := .int 1) (ws' := [(hd, .inr (4, [.ref hj, .int (nI dp_28), .int 1, .int dB_28, .long (ds + (Int32.toInt64 (zf_ushr r28 2))), .int (r28 &&& 3), .int 0])), (hj, .inr (1, [.ref jb, .int (nI jn), .int jm, .int jS, .int jl])), (jb, .inl (cJ, 300, .inl fb))]) in_D tok_D nok_D 0 rfl rfl 2 (by decide) (zk_m tw_91) rfl rfl rfl rfl (Nat.le_of_ble_eq_true rfl) d_D_readEntry_111 rfl ?_
                exact zk_vret (pc := 114) X hQ hRt hLk (dp_28, 1, dB_28, (ds + (Int32.toInt64 (zf_ushr r28 2))), (r28 &&& 3), 0) ⟨hq.symm, (show dp_28 ≤ jn by omega)⟩ [0, 1, 2] rfl (by decide) d_D_readEntry_114
            · have hq := hq.trans (if_pos h90)
              refine zk_aload_n (pc := 93) X d_D_readEntry_93 rfl (q := 2) rfl ?_
              refine zk_iconst (pc := 94) X (v := 1) d_D_readEntry_94 rfl ?_
              refine zk_put (pc := 95) X (ty := .boolean) (v := .int 1) (ws' := [(hd, .inr (4, [.ref hj, .int (nI dp_28), .int 0, .int 1, .long (ds + (Int32.toInt64 (zf_ushr r28 2))), .int (r28 &&& 3), .int 0])), (hj, .inr (1, [.ref jb, .int (nI jn), .int jm, .int jS, .int jl])), (jb, .inl (cJ, 300, .inl fb))]) in_D tok_D nok_D 0 rfl rfl 3 (by decide) (zk_m tw_92) rfl rfl rfl rfl (Nat.le_of_ble_eq_true rfl) d_D_readEntry_95 rfl ?_
              refine zk_aload_n (pc := 98) X d_D_readEntry_98 rfl (q := 2) rfl ?_
              refine zk_aload_n (pc := 99) X d_D_readEntry_99 rfl (q := 2) rfl ?_
              refine zk_get (pc := 100) X (ci := 4) (v := .int 1) in_D 0 rfl rfl 3 (by decide) (zk_m tw_92) rfl d_D_readEntry_100 ?_
              refine zk_if_ne (pc := 103) X (tgt := 110) d_D_readEntry_103 (by decide) (fun _ => ?_) (fun h => absurd h (by decide))
              refine zk_iconst (pc := 110) X (v := 0) d_D_readEntry_110 rfl ?_
              refine zk_put (pc := 111) X (ty := .boolean) (v := .int 0) (ws' := [(hd, .inr (4, [.ref hj, .int (nI dp_28), .int 0, .int 1, .long (ds + (Int32.toInt64 (zf_ushr r28 2))), .int (r28 &&& 3), .int 0])), (hj, .inr (1, [.ref jb, .int (nI jn), .int jm, .int jS, .int jl])), (jb, .inl (cJ, 300, .inl fb))]) in_D tok_D nok_D 0 rfl rfl 2 (by decide) (zk_m tw_91) rfl rfl rfl rfl (Nat.le_of_ble_eq_true rfl) d_D_readEntry_111 rfl ?_
              exact zk_vret (pc := 114) X hQ hRt hLk (dp_28, 0, 1, (ds + (Int32.toInt64 (zf_ushr r28 2))), (r28 &&& 3), 0) ⟨hq.symm, (show dp_28 ≤ jn by omega)⟩ [0, 1, 2] rfl (by decide) d_D_readEntry_114
        · have hq := hq.trans (if_pos h57)
          refine zk_aload_n (pc := 60) X d_D_readEntry_60 rfl (q := 2) rfl ?_
          refine zk_calli (pc := 61) X (wc := [(hd, .inr (4, [.ref hj, .int (nI dp_28), .int 0, .int dB_28, .long ds, .int (r28 &&& 3), .int dv])), (hj, .inr (1, [.ref jb, .int (nI jn), .int jm, .int jS, .int jl])), (jb, .inl (cJ, 300, .inl fb))]) (wr := []) [0, 1, 2] [] rfl rfl (by decide) (by decide) (by decide) (zk_runV X (C := R_D) (tysC := [(cJ, .int)]) (As := []) (rest := [.ref hd]) (c_D_readNumber l dC dI hd hj jb cJ dp_28 0 dB_28 ds (r28 &&& 3) dv fb jn jm jS jl (by omega) (by omega)) [0] rfl (ci := 4) rfl 0 rfl (zk_cwV 0 X.1.2.2.2.2 (zk_goodT tw_251) rfl rfl rfl (zk_m tw_249) (zk_m tw_250) (zk_m tw_527) (zk_m tw_7) rfl (by decide +kernel) ⟨Nat.le_of_ble_eq_true rfl, Nat.le_of_ble_eq_true rfl⟩) rfl rfl (Nat.le_of_ble_eq_true rfl) ⟨Nat.zero_le _, Nat.zero_le _⟩ d_D_readEntry_61) ?_
          rintro r61 ⟨dp_61, dB_61⟩ ⟨w61, f61_0⟩
          have f61_0 : dp_61 ≤ jn := f61_0
          refine zk_ws (ws' := [(hd, .inr (4, [.ref hj, .int (nI dp_61), .int 0, .int dB_61, .long ds, .int (r28 &&& 3), .int dv])), (hj, .inr (1, [.ref jb, .int (nI jn), .int jm, .int jS, .int jl])), (jb, .inl (cJ, 300, .inl fb))]) rfl ?_
          try dsimp only at w61
          rw [← w61] at hq
          try dsimp only at hq
          refine zk_goto (pc := 64) X (tgt := 68) d_D_readEntry_64 (by decide) ?_
          refine zk_put (pc := 68) X (ty := .int) (v := .int r61) (ws' := [(hd, .inr (4, [.ref hj, .int (nI dp_61), .int 0, .int dB_61, .long ds, .int (r28 &&& 3), .int r61])), (hj, .inr (1, [.ref jb, .int (nI jn), .int jm, .int jS, .int jl])), (jb, .inl (cJ, 300, .inl fb))]) in_D tok_D nok_D 0 rfl rfl 6 (by decide) (zk_m tw_98) rfl rfl rfl rfl (Nat.le_of_ble_eq_true rfl) d_D_readEntry_68 rfl ?_
          refine zk_aload_n (pc := 71) X d_D_readEntry_71 rfl (q := 2) rfl ?_
          refine zk_dup (pc := 72) X d_D_readEntry_72 rfl ?_
          refine zk_get (pc := 73) X (ci := 4) (v := .long ds) in_D 0 rfl rfl 4 (by decide) (zk_m tw_94) rfl d_D_readEntry_73 ?_
          refine zk_iload_n (pc := 76) X d_D_readEntry_76 rfl (q := 0) rfl ?_
          refine zk_i2l (pc := 77) X (v := (Int32.toInt64 (zf_ushr r28 2))) d_D_readEntry_77 rfl ?_
          refine zk_ladd (pc := 78) X (v := (ds + (Int32.toInt64 (zf_ushr r28 2)))) d_D_readEntry_78 rfl ?_
          refine zk_put (pc := 79) X (ty := .long) (v := .long (ds + (Int32.toInt64 (zf_ushr r28 2)))) (ws' := [(hd, .inr (4, [.ref hj, .int (nI dp_61), .int 0, .int dB_61, .long (ds + (Int32.toInt64 (zf_ushr r28 2))), .int (r28 &&& 3), .int r61])), (hj, .inr (1, [.ref jb, .int (nI jn), .int jm, .int jS, .int jl])), (jb, .inl (cJ, 300, .inl fb))]) in_D tok_D nok_D 0 rfl rfl 4 (by decide) (zk_m tw_94) rfl rfl rfl rfl (Nat.le_of_ble_eq_true rfl) d_D_readEntry_79 rfl ?_
          refine zk_aload_n (pc := 82) X d_D_readEntry_82 rfl (q := 2) rfl ?_
          refine zk_get (pc := 83) X (ci := 4) (v := .int (r28 &&& 3)) in_D 0 rfl rfl 5 (by decide) (zk_m tw_96) rfl d_D_readEntry_83 ?_
          refine zk_if_eq (pc := 86) X (tgt := 93) d_D_readEntry_86 (by decide) (fun g => absurd g (fun g => absurd (h57.symm.trans g) (by decide))) (fun _ => ?_)
          refine zk_iload_n (pc := 89) X d_D_readEntry_89 rfl (q := 0) rfl ?_
          refine zk_if_ne (pc := 90) X (tgt := 98) d_D_readEntry_90 (by decide) (fun h90 => ?_) (fun h90 => ?_)
          · have hq := hq.trans (if_neg h90)
            refine zk_aload_n (pc := 98) X d_D_readEntry_98 rfl (q := 2) rfl ?_
            refine zk_aload_n (pc := 99) X d_D_readEntry_99 rfl (q := 2) rfl ?_
            refine zk_get (pc := 100) X (ci := 4) (v := .int dB_61) in_D 0 rfl rfl 3 (by decide) (zk_m tw_92) rfl d_D_readEntry_100 ?_
            refine zk_if_ne (pc := 103) X (tgt := 110) d_D_readEntry_103 (by decide) (fun h103 => ?_) (fun h103 => ?_)
            · have hq := hq.trans (if_neg h103)
              refine zk_iconst (pc := 110) X (v := 0) d_D_readEntry_110 rfl ?_
              refine zk_put (pc := 111) X (ty := .boolean) (v := .int 0) (ws' := [(hd, .inr (4, [.ref hj, .int (nI dp_61), .int 0, .int dB_61, .long (ds + (Int32.toInt64 (zf_ushr r28 2))), .int (r28 &&& 3), .int r61])), (hj, .inr (1, [.ref jb, .int (nI jn), .int jm, .int jS, .int jl])), (jb, .inl (cJ, 300, .inl fb))]) in_D tok_D nok_D 0 rfl rfl 2 (by decide) (zk_m tw_91) rfl rfl rfl rfl (Nat.le_of_ble_eq_true rfl) d_D_readEntry_111 rfl ?_
              exact zk_vret (pc := 114) X hQ hRt hLk (dp_61, 0, dB_61, (ds + (Int32.toInt64 (zf_ushr r28 2))), (r28 &&& 3), r61) ⟨hq.symm, (show dp_61 ≤ jn by omega)⟩ [0, 1, 2] rfl (by decide) d_D_readEntry_114
            · have hq := hq.trans (if_pos h103)
              refine zk_iconst (pc := 106) X (v := 1) d_D_readEntry_106 rfl ?_
              refine zk_goto (pc := 107) X (tgt := 111) d_D_readEntry_107 (by decide) ?_
              refine zk_put (pc := 111) X (ty := .boolean) (v := .int 1) (ws' := [(hd, .inr (4, [.ref hj, .int (nI dp_61), .int 1, .int dB_61, .long (ds + (Int32.toInt64 (zf_ushr r28 2))), .int (r28 &&& 3), .int r61])), (hj, .inr (1, [.ref jb, .int (nI jn), .int jm, .int jS, .int jl])), (jb, .inl (cJ, 300, .inl fb))]) in_D tok_D nok_D 0 rfl rfl 2 (by decide) (zk_m tw_91) rfl rfl rfl rfl (Nat.le_of_ble_eq_true rfl) d_D_readEntry_111 rfl ?_
              exact zk_vret (pc := 114) X hQ hRt hLk (dp_61, 1, dB_61, (ds + (Int32.toInt64 (zf_ushr r28 2))), (r28 &&& 3), r61) ⟨hq.symm, (show dp_61 ≤ jn by omega)⟩ [0, 1, 2] rfl (by decide) d_D_readEntry_114
          · have hq := hq.trans (if_pos h90)
            refine zk_aload_n (pc := 93) X d_D_readEntry_93 rfl (q := 2) rfl ?_
            refine zk_iconst (pc := 94) X (v := 1) d_D_readEntry_94 rfl ?_
            refine zk_put (pc := 95) X (ty := .boolean) (v := .int 1) (ws' := [(hd, .inr (4, [.ref hj, .int (nI dp_61), .int 0, .int 1, .long (ds + (Int32.toInt64 (zf_ushr r28 2))), .int (r28 &&& 3), .int r61])), (hj, .inr (1, [.ref jb, .int (nI jn), .int jm, .int jS, .int jl])), (jb, .inl (cJ, 300, .inl fb))]) in_D tok_D nok_D 0 rfl rfl 3 (by decide) (zk_m tw_92) rfl rfl rfl rfl (Nat.le_of_ble_eq_true rfl) d_D_readEntry_95 rfl ?_
            refine zk_aload_n (pc := 98) X d_D_readEntry_98 rfl (q := 2) rfl ?_
            refine zk_aload_n (pc := 99) X d_D_readEntry_99 rfl (q := 2) rfl ?_
            refine zk_get (pc := 100) X (ci := 4) (v := .int 1) in_D 0 rfl rfl 3 (by decide) (zk_m tw_92) rfl d_D_readEntry_100 ?_
            refine zk_if_ne (pc := 103) X (tgt := 110) d_D_readEntry_103 (by decide) (fun _ => ?_) (fun h => absurd h (by decide))
            refine zk_iconst (pc := 110) X (v := 0) d_D_readEntry_110 rfl ?_
            refine zk_put (pc := 111) X (ty := .boolean) (v := .int 0) (ws' := [(hd, .inr (4, [.ref hj, .int (nI dp_61), .int 0, .int 1, .long (ds + (Int32.toInt64 (zf_ushr r28 2))), .int (r28 &&& 3), .int r61])), (hj, .inr (1, [.ref jb, .int (nI jn), .int jm, .int jS, .int jl])), (jb, .inl (cJ, 300, .inl fb))]) in_D tok_D nok_D 0 rfl rfl 2 (by decide) (zk_m tw_91) rfl rfl rfl rfl (Nat.le_of_ble_eq_true rfl) d_D_readEntry_111 rfl ?_
            exact zk_vret (pc := 114) X hQ hRt hLk (dp_61, 0, 1, (ds + (Int32.toInt64 (zf_ushr r28 2))), (r28 &&& 3), r61) ⟨hq.symm, (show dp_61 ≤ jn by omega)⟩ [0, 1, 2] rfl (by decide) d_D_readEntry_114
    · have hq := hq.trans (if_pos h23)
      exact zk_vret (pc := 26) X hQ hRt hLk (dp, 0, dB, ds, dk, dv) ⟨hq.symm, (show dp ≤ jn by omega)⟩ [0, 1, 2] rfl (by decide) d_D_readEntry_26
def sp_D_rewind (dk : Int32) (dv : Int32) (fb : Nat → Int32) (jn : Nat) : Nat × Int32 × Int32 × Int64 × Int32 × Int32 :=
  (match sp_D_readEntry 0 0 (0 : Int64) dk dv fb jn with
  | (dp_16, de_16, dB_16, ds_16, dk_16, dv_16) =>
    (dp_16, de_16, dB_16, ds_16, dk_16, dv_16))
abbrev rm_D_rewind : Room := { frames := 3, cells := 0, slots := 0, locals := 66 }
set_option maxHeartbeats 4000000 in
set_option maxRecDepth 100000 in
theorem c_D_rewind (l : Launch) (dC : Nat → ClassId) (dI : Nat → Nat → Nat) (hd hj jb : Nat) (cJ : ClassId) (dp : Nat) (de : Int32) (dB : Int32) (ds : Int64) (dk : Int32) (dv : Int32) (fb : Nat → Int32) (jn : Nat) (jm : Int32) (jS : Int32) (jl : Int32) (hjn : jn ≤ 300) : zk_Cv l y_D_rewind w_D_rewind rm_D_rewind (dC, dI) vwCl [.ref hd] [(hd, .inr (4, [.ref hj, .int (nI dp), .int de, .int dB, .long ds, .int dk, .int dv])), (hj, .inr (1, [.ref jb, .int (nI jn), .int jm, .int jS, .int jl])), (jb, .inl (cJ, 300, .inl fb))] [(cJ, .int)] (fun (u : Nat × Int32 × Int32 × Int64 × Int32 × Int32) => u = sp_D_rewind dk dv fb jn ∧ (u.1 ≤ jn)) (fun u => [(hd, .inr (4, [.ref hj, .int (nI u.1), .int u.2.1, .int u.2.2.1, .long u.2.2.2.1, .int u.2.2.2.2.1, .int u.2.2.2.2.2])), (hj, .inr (1, [.ref jb, .int (nI jn), .int jm, .int jS, .int jl])), (jb, .inl (cJ, 300, .inl fb))]) := by
  refine zk_enterv (cc := b_D_rewind) (maxL := 1) (ret := none) (by decide) rfl (Nat.le_of_ble_eq_true rfl) ?_
  intro p e s m args below meth c A Q hQ X hRt hLk
  have hq := sp_D_rewind.eq_1 dk dv fb jn
  refine zk_lv (lv' := [(0, .ref hd)]) [0] rfl ?_
  refine zk_aload_n (pc := 0) X d_D_rewind_0 rfl (q := 0) rfl ?_
  refine zk_iconst (pc := 1) X (v := 0) d_D_rewind_1 rfl ?_
  refine zk_put (pc := 2) X (ty := .int) (v := .int 0) (ws' := [(hd, .inr (4, [.ref hj, .int 0, .int de, .int dB, .long ds, .int dk, .int dv])), (hj, .inr (1, [.ref jb, .int (nI jn), .int jm, .int jS, .int jl])), (jb, .inl (cJ, 300, .inl fb))]) in_D tok_D nok_D 0 rfl rfl 1 (by decide) (zk_m tw_89) rfl rfl rfl rfl (Nat.le_of_ble_eq_true rfl) d_D_rewind_2 rfl ?_
  refine zk_aload_n (pc := 5) X d_D_rewind_5 rfl (q := 0) rfl ?_
  refine zk_lconst (pc := 6) X (v := 0) d_D_rewind_6 rfl ?_
  refine zk_put (pc := 7) X (ty := .long) (v := .long (0 : Int64)) (ws' := [(hd, .inr (4, [.ref hj, .int 0, .int de, .int dB, .long (0 : Int64), .int dk, .int dv])), (hj, .inr (1, [.ref jb, .int (nI jn), .int jm, .int jS, .int jl])), (jb, .inl (cJ, 300, .inl fb))]) in_D tok_D nok_D 0 rfl rfl 4 (by decide) (zk_m tw_94) rfl rfl rfl rfl (Nat.le_of_ble_eq_true rfl) d_D_rewind_7 rfl ?_
  refine zk_aload_n (pc := 10) X d_D_rewind_10 rfl (q := 0) rfl ?_
  refine zk_iconst (pc := 11) X (v := 0) d_D_rewind_11 rfl ?_
  refine zk_put (pc := 12) X (ty := .boolean) (v := .int 0) (ws' := [(hd, .inr (4, [.ref hj, .int 0, .int de, .int 0, .long (0 : Int64), .int dk, .int dv])), (hj, .inr (1, [.ref jb, .int (nI jn), .int jm, .int jS, .int jl])), (jb, .inl (cJ, 300, .inl fb))]) in_D tok_D nok_D 0 rfl rfl 3 (by decide) (zk_m tw_92) rfl rfl rfl rfl (Nat.le_of_ble_eq_true rfl) d_D_rewind_12 rfl ?_
  refine zk_aload_n (pc := 15) X d_D_rewind_15 rfl (q := 0) rfl ?_
  refine zk_callv (pc := 16) X (wc := [(hd, .inr (4, [.ref hj, .int 0, .int de, .int 0, .long (0 : Int64), .int dk, .int dv])), (hj, .inr (1, [.ref jb, .int (nI jn), .int jm, .int jS, .int jl])), (jb, .inl (cJ, 300, .inl fb))]) (wr := []) [0, 1, 2] [] rfl rfl (by decide) (by decide) (by decide) (zk_runV X (C := R_D) (tysC := [(cJ, .int)]) (As := []) (rest := []) (c_D_readEntry l dC dI hd hj jb cJ 0 de 0 (0 : Int64) dk dv fb jn jm jS jl (by omega) (by omega)) [0] rfl (ci := 4) rfl 0 rfl (zk_cwV 0 X.1.2.2.2.2 (zk_goodT tw_244) rfl rfl rfl (zk_m tw_319) (zk_m tw_242) (zk_m tw_243) (zk_m tw_7) rfl (by decide +kernel) ⟨Nat.le_of_ble_eq_true rfl, Nat.le_of_ble_eq_true rfl⟩) rfl rfl (Nat.le_of_ble_eq_true rfl) ⟨Nat.zero_le _, Nat.zero_le _⟩ d_D_rewind_16) ?_
  rintro ⟨dp_16, de_16, dB_16, ds_16, dk_16, dv_16⟩ ⟨w16, f16_0⟩
  have f16_0 : dp_16 ≤ jn := f16_0
  refine zk_ws (ws' := [(hd, .inr (4, [.ref hj, .int (nI dp_16), .int de_16, .int dB_16, .long ds_16, .int dk_16, .int dv_16])), (hj, .inr (1, [.ref jb, .int (nI jn), .int jm, .int jS, .int jl])), (jb, .inl (cJ, 300, .inl fb))]) rfl ?_
  try dsimp only at w16
  rw [← w16] at hq
  try dsimp only at hq
  exact zk_vret (pc := 19) X hQ hRt hLk (dp_16, de_16, dB_16, ds_16, dk_16, dv_16) ⟨hq.symm, (show dp_16 ≤ jn by omega)⟩ [0, 1, 2] rfl (by decide) d_D_rewind_19
