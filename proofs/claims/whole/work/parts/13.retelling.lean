def sp_T_isReadable_9 (fb : Nat → Int32) (jn : Nat) : Nat → Nat → Nat → Int32 → Int32 → Int64 → Int32 → Int32 → Int32 × Nat × Int32 × Int32 × Int64 × Int32 × Int32
  | 0, j, dp1, de1, dB1, ds1, dk1, dv1 => (0, dp1, de1, dB1, ds1, dk1, dv1)
  | fuel + 1, j, dp1, de1, dB1, ds1, dk1, dv1 =>
    if 300 ≤ j then
      if dB1 = 0 then
        (1, dp1, de1, dB1, ds1, dk1, dv1)
      else
        (0, dp1, de1, dB1, ds1, dk1, dv1)
    else
      if de1 = 0 then
        if dB1 = 0 then
          (1, dp1, de1, dB1, ds1, dk1, dv1)
        else
          (0, dp1, de1, dB1, ds1, dk1, dv1)
      else
        (match sp_D_readEntry dp1 dB1 ds1 dk1 dv1 fb jn with
        | (dp_30, de_30, dB_30, ds_30, dk_30, dv_30) =>
          sp_T_isReadable_9 fb jn fuel (j + 1) dp_30 de_30 dB_30 ds_30 dk_30 dv_30)
def sp_T_isReadable (dk : Int32) (dv : Int32) (fb : Nat → Int32) (jn : Nat) : Int32 × Nat × Int32 × Int32 × Int64 × Int32 × Int32 :=
  (match sp_D_rewind dk dv fb jn with
  | (dp_4, de_4, dB_4, ds_4, dk_4, dv_4) =>
    sp_T_isReadable_9 fb jn 301 0 dp_4 de_4 dB_4 ds_4 dk_4 dv_4)
abbrev rm_T_isReadable : Room := { frames := 4, cells := 0, slots := 0, locals := 86 }
set_option maxHeartbeats 4000000 in
set_option maxRecDepth 100000 in
theorem c_T_isReadable (l : Launch) (dC : Nat → ClassId) (dI : Nat → Nat → Nat) (ht hd hj jb : Nat) (cJ : ClassId) (tt : Int32) (dp : Nat) (de : Int32) (dB : Int32) (ds : Int64) (dk : Int32) (dv : Int32) (fb : Nat → Int32) (jn : Nat) (jm : Int32) (jS : Int32) (jl : Int32) (hjn : jn ≤ 300) : zk_Ci l y_T_isReadable w_T_isReadable rm_T_isReadable (dC, dI) vwCl [.ref ht] [(ht, .inr (3, [.ref hd, .int tt])), (hd, .inr (4, [.ref hj, .int (nI dp), .int de, .int dB, .long ds, .int dk, .int dv])), (hj, .inr (1, [.ref jb, .int (nI jn), .int jm, .int jS, .int jl])), (jb, .inl (cJ, 300, .inl fb))] [(cJ, .int)] (fun (r : Int32) (u : Nat × Int32 × Int32 × Int64 × Int32 × Int32) => (r, u) = sp_T_isReadable dk dv fb jn ∧ (u.1 ≤ jn)) (fun u => [(ht, .inr (3, [.ref hd, .int tt])), (hd, .inr (4, [.ref hj, .int (nI u.1), .int u.2.1, .int u.2.2.1, .long u.2.2.2.1, .int u.2.2.2.2.1, .int u.2.2.2.2.2])), (hj, .inr (1, [.ref jb, .int (nI jn), .int jm, .int jS, .int jl])), (jb, .inl (cJ, 300, .inl fb))]) := by
  refine zk_enteri (cc := b_T_isReadable) (maxL := 2) (ret := some .boolean) (by decide) rfl (Nat.le_of_ble_eq_true rfl) ?_
  intro p e s m args below meth c A Q hQ X hRt hLk
  have cut9 : ∀ (fuel : Nat) (j : Nat) (dp1 : Nat) (de1 : Int32) (dB1 : Int32) (ds1 : Int64) (dk1 : Int32) (dv1 : Int32), (j ≤ 300) → (dp1 ≤ jn) → 300 - j < fuel → sp_T_isReadable dk dv fb jn = sp_T_isReadable_9 fb jn fuel j dp1 de1 dB1 ds1 dk1 dv1 → zk_Z p l e rm_T_isReadable s m args below meth c Q A (dC, dI) vwCl 2 0 0 [(ht, .inr (3, [.ref hd, .int tt])), (hd, .inr (4, [.ref hj, .int (nI dp1), .int de1, .int dB1, .long ds1, .int dk1, .int dv1])), (hj, .inr (1, [.ref jb, .int (nI jn), .int jm, .int jS, .int jl])), (jb, .inl (cJ, 300, .inl fb))] [(0, .ref ht), (1, .int (nI j))] [] 9 := by
    intro fuel
    induction fuel with
    | zero => intro j dp1 de1 dB1 ds1 dk1 dv1 hjj hd1 hMs; exact absurd hMs (Nat.not_lt_zero _)
    | succ fuel ih =>
      intro j dp1 de1 dB1 ds1 dk1 dv1 hjj hd1 hMs hq
      rw [sp_T_isReadable_9] at hq
      refine zk_iload_n (pc := 9) X d_T_isReadable_9 rfl (q := 1) rfl ?_
      refine zk_sipush (pc := 10) X (v := 300) d_T_isReadable_10 (by decide) ?_
      refine zk_icmpN_ge (pc := 13) X (tgt := 39) (j) (300) rfl rfl (by omega) (by omega) d_T_isReadable_13 (by decide) (fun h13 => ?_) (fun h13 => ?_)
      · have hq := hq.trans (if_pos h13)
        refine zk_aload_n (pc := 39) X d_T_isReadable_39 rfl (q := 0) rfl ?_
        refine zk_get (pc := 40) X (ci := 3) (v := .ref hd) in_T 0 rfl rfl 0 (by decide) (zk_m tw_110) rfl d_T_isReadable_40 ?_
        refine zk_get (pc := 43) X (ci := 4) (v := .int dB1) in_D 1 rfl rfl 3 (by decide) (zk_m tw_93) rfl d_T_isReadable_43 ?_
        refine zk_if_ne (pc := 46) X (tgt := 53) d_T_isReadable_46 (by decide) (fun h46 => ?_) (fun h46 => ?_)
        · have hq := hq.trans (if_neg h46)
          refine zk_iconst (pc := 53) X (v := 0) d_T_isReadable_53 rfl ?_
          exact zk_zret (pc := 54) X hQ hRt hLk rfl (dp1, de1, dB1, ds1, dk1, dv1) ⟨hq.symm, (show dp1 ≤ jn by omega)⟩ [0, 1, 2, 3] rfl (by decide) d_T_isReadable_54
        · have hq := hq.trans (if_pos h46)
          refine zk_iconst (pc := 49) X (v := 1) d_T_isReadable_49 rfl ?_
          refine zk_goto (pc := 50) X (tgt := 54) d_T_isReadable_50 (by decide) ?_
          exact zk_zret (pc := 54) X hQ hRt hLk rfl (dp1, de1, dB1, ds1, dk1, dv1) ⟨hq.symm, (show dp1 ≤ jn by omega)⟩ [0, 1, 2, 3] rfl (by decide) d_T_isReadable_54
      · have hq := hq.trans (if_neg h13)
        refine zk_aload_n (pc := 16) X d_T_isReadable_16 rfl (q := 0) rfl ?_
        refine zk_get (pc := 17) X (ci := 3) (v := .ref hd) in_T 0 rfl rfl 0 (by decide) (zk_m tw_110) rfl d_T_isReadable_17 ?_
        refine zk_get (pc := 20) X (ci := 4) (v := .int de1) in_D 1 rfl rfl 2 (by decide) (zk_m tw_90) rfl d_T_isReadable_20 ?_
        refine zk_if_eq (pc := 23) X (tgt := 39) d_T_isReadable_23 (by decide) (fun h23 => ?_) (fun h23 => ?_)
        · have hq := hq.trans (if_pos h23)
          refine zk_aload_n (pc := 39) X d_T_isReadable_39 rfl (q := 0) rfl ?_
          refine zk_get (pc := 40) X (ci := 3) (v := .ref hd) in_T 0 rfl rfl 0 (by decide) (zk_m tw_110) rfl d_T_isReadable_40 ?_
          refine zk_get (pc := 43) X (ci := 4) (v := .int dB1) in_D 1 rfl rfl 3 (by decide) (zk_m tw_93) rfl d_T_isReadable_43 ?_
          refine zk_if_ne (pc := 46) X (tgt := 53) d_T_isReadable_46 (by decide) (fun h46 => ?_) (fun h46 => ?_)
          · have hq := hq.trans (if_neg h46)
            refine zk_iconst (pc := 53) X (v := 0) d_T_isReadable_53 rfl ?_
            exact zk_zret (pc := 54) X hQ hRt hLk rfl (dp1, de1, dB1, ds1, dk1, dv1) ⟨hq.symm, (show dp1 ≤ jn by omega)⟩ [0, 1, 2, 3] rfl (by decide) d_T_isReadable_54
          · have hq := hq.trans (if_pos h46)
            refine zk_iconst (pc := 49) X (v := 1) d_T_isReadable_49 rfl ?_
            refine zk_goto (pc := 50) X (tgt := 54) d_T_isReadable_50 (by decide) ?_
            exact zk_zret (pc := 54) X hQ hRt hLk rfl (dp1, de1, dB1, ds1, dk1, dv1) ⟨hq.symm, (show dp1 ≤ jn by omega)⟩ [0, 1, 2, 3] rfl (by decide) d_T_isReadable_54
        · have hq := hq.trans (if_neg h23)
          refine zk_aload_n (pc := 26) X d_T_isReadable_26 rfl (q := 0) rfl ?_
          refine zk_get (pc := 27) X (ci := 3) (v := .ref hd) in_T 0 rfl rfl 0 (by decide) (zk_m tw_110) rfl d_T_isReadable_27 ?_
          refine zk_callv (pc := 30) X (wc := [(hd, .inr (4, [.ref hj, .int (nI dp1), .int de1, .int dB1, .long ds1, .int dk1, .int dv1])), (hj, .inr (1, [.ref jb, .int (nI jn), .int jm, .int jS, .int jl])), (jb, .inl (cJ, 300, .inl fb))]) (wr := [(ht, .inr (3, [.ref hd, .int tt]))]) [1, 2, 3] [0] rfl rfl (by decide) (by decide) (by decide) (zk_runV X (C := R_D) (tysC := [(cJ, .int)]) (As := []) (rest := []) (c_D_readEntry l dC dI hd hj jb cJ dp1 de1 dB1 ds1 dk1 dv1 fb jn jm jS jl (by omega) (by omega)) [0] rfl (ci := 4) rfl 1 rfl (zk_cwV 0 X.1.2.2.2.2 (zk_goodT tw_244) rfl rfl rfl (zk_m tw_241) (zk_m tw_242) (zk_m tw_243) (zk_m tw_7) rfl (by decide +kernel) ⟨Nat.le_of_ble_eq_true rfl, Nat.le_of_ble_eq_true rfl⟩) rfl rfl (Nat.le_of_ble_eq_true rfl) ⟨Nat.zero_le _, Nat.zero_le _⟩ d_T_isReadable_30) ?_
          rintro ⟨dp_30, de_30, dB_30, ds_30, dk_30, dv_30⟩ ⟨w30, f30_0⟩
          have f30_0 : dp_30 ≤ jn := f30_0
          refine zk_ws (ws' := [(ht, .inr (3, [.ref hd, .int tt])), (hd, .inr (4, [.ref hj, .int (nI dp_30), .int de_30, .int dB_30, .long ds_30, .int dk_30, .int dv_30])), (hj, .inr (1, [.ref jb, .int (nI jn), .int jm, .int jS, .int jl])), (jb, .inl (cJ, 300, .inl fb))]) rfl ?_
          try dsimp only at w30
          rw [← w30] at hq
          try dsimp only at hq
          refine zk_iinc (pc := 33) X (k0 := 1) (v := nI (j + 1)) (lv' := [(1, .int (nI (j + 1))), (0, .ref ht)]) d_T_isReadable_33 rfl (nI_add (j) 1) (by decide) rfl ?_
          refine zk_goto (pc := 36) X (tgt := 9) d_T_isReadable_36 (by decide) ?_
          refine zk_lv (lv' := [(0, .ref ht), (1, .int (nI (j + 1)))]) [1, 0] rfl ?_
          exact ih (j + 1) dp_30 de_30 dB_30 ds_30 dk_30 dv_30 (by omega) (by omega) (by omega) hq
  have hq := sp_T_isReadable.eq_1 dk dv fb jn
  refine zk_lv (lv' := [(0, .ref ht)]) [0] rfl ?_
  refine zk_aload_n (pc := 0) X d_T_isReadable_0 rfl (q := 0) rfl ?_
  refine zk_get (pc := 1) X (ci := 3) (v := .ref hd) in_T 0 rfl rfl 0 (by decide) (zk_m tw_110) rfl d_T_isReadable_1 ?_
  refine zk_callv (pc := 4) X (wc := [(hd, .inr (4, [.ref hj, .int (nI dp), .int de, .int dB, .long ds, .int dk, .int dv])), (hj, .inr (1, [.ref jb, .int (nI jn), .int jm, .int jS, .int jl])), (jb, .inl (cJ, 300, .inl fb))]) (wr := [(ht, .inr (3, [.ref hd, .int tt]))]) [1, 2, 3] [0] rfl rfl (by decide) (by decide) (by decide) (zk_runV X (C := R_D) (tysC := [(cJ, .int)]) (As := []) (rest := []) (c_D_rewind l dC dI hd hj jb cJ dp de dB ds dk dv fb jn jm jS jl (by omega)) [0] rfl (ci := 4) rfl 1 rfl (zk_cwV 0 X.1.2.2.2.2 (zk_goodT tw_318) rfl rfl rfl (zk_m tw_315) (zk_m tw_316) (zk_m tw_317) (zk_m tw_7) rfl (by decide +kernel) ⟨Nat.le_of_ble_eq_true rfl, Nat.le_of_ble_eq_true rfl⟩) rfl rfl (Nat.le_of_ble_eq_true rfl) ⟨Nat.zero_le _, Nat.zero_le _⟩ d_T_isReadable_4) ?_
  rintro ⟨dp_4, de_4, dB_4, ds_4, dk_4, dv_4⟩ ⟨w4, f4_0⟩
  have f4_0 : dp_4 ≤ jn := f4_0
  refine zk_ws (ws' := [(ht, .inr (3, [.ref hd, .int tt])), (hd, .inr (4, [.ref hj, .int (nI dp_4), .int de_4, .int dB_4, .long ds_4, .int dk_4, .int dv_4])), (hj, .inr (1, [.ref jb, .int (nI jn), .int jm, .int jS, .int jl])), (jb, .inl (cJ, 300, .inl fb))]) rfl ?_
  try dsimp only at w4
  rw [← w4] at hq
  try dsimp only at hq
  refine zk_iconst (pc := 7) X (v := 0) d_T_isReadable_7 rfl ?_
  refine zk_istore_n (pc := 8) X (i := 1) (lv' := [(1, .int 0), (0, .ref ht)]) d_T_isReadable_8 rfl (by decide) rfl ?_
  refine zk_lv (lv' := [(0, .ref ht), (1, .int 0)]) [1, 0] rfl ?_
  exact cut9 (301) 0 dp_4 de_4 dB_4 ds_4 dk_4 dv_4 (by omega) (by omega) (by omega) hq
def sp_T_restart (dk : Int32) (dv : Int32) (fb : Nat → Int32) (jn : Nat) : Int32 × Nat × Int32 × Int32 × Int64 × Int32 × Int32 :=
  (match sp_D_rewind dk dv fb jn with
  | (dp_9, de_9, dB_9, ds_9, dk_9, dv_9) =>
    (0, dp_9, de_9, dB_9, ds_9, dk_9, dv_9))
abbrev rm_T_restart : Room := { frames := 4, cells := 0, slots := 0, locals := 86 }
set_option maxHeartbeats 4000000 in
set_option maxRecDepth 100000 in
theorem c_T_restart (l : Launch) (dC : Nat → ClassId) (dI : Nat → Nat → Nat) (ht hd hj jb : Nat) (cJ : ClassId) (tt : Int32) (dp : Nat) (de : Int32) (dB : Int32) (ds : Int64) (dk : Int32) (dv : Int32) (fb : Nat → Int32) (jn : Nat) (jm : Int32) (jS : Int32) (jl : Int32) (hjn : jn ≤ 300) : zk_Cv l y_T_restart w_T_restart rm_T_restart (dC, dI) vwCl [.ref ht] [(ht, .inr (3, [.ref hd, .int tt])), (hd, .inr (4, [.ref hj, .int (nI dp), .int de, .int dB, .long ds, .int dk, .int dv])), (hj, .inr (1, [.ref jb, .int (nI jn), .int jm, .int jS, .int jl])), (jb, .inl (cJ, 300, .inl fb))] [(cJ, .int)] (fun (u : Int32 × Nat × Int32 × Int32 × Int64 × Int32 × Int32) => u = sp_T_restart dk dv fb jn ∧ (u.2.1 ≤ jn)) (fun u => [(ht, .inr (3, [.ref hd, .int u.1])), (hd, .inr (4, [.ref hj, .int (nI u.2.1), .int u.2.2.1, .int u.2.2.2.1, .long u.2.2.2.2.1, .int u.2.2.2.2.2.1, .int u.2.2.2.2.2.2])), (hj, .inr (1, [.ref jb, .int (nI jn), .int jm, .int jS, .int jl])), (jb, .inl (cJ, 300, .inl fb))]) := by
  refine zk_enterv (cc := b_T_restart) (maxL := 1) (ret := none) (by decide) rfl (Nat.le_of_ble_eq_true rfl) ?_
  intro p e s m args below meth c A Q hQ X hRt hLk
  have hq := sp_T_restart.eq_1 dk dv fb jn
  refine zk_lv (lv' := [(0, .ref ht)]) [0] rfl ?_
  refine zk_aload_n (pc := 0) X d_T_restart_0 rfl (q := 0) rfl ?_
  refine zk_iconst (pc := 1) X (v := 0) d_T_restart_1 rfl ?_
  refine zk_put (pc := 2) X (ty := .int) (v := .int 0) (ws' := [(ht, .inr (3, [.ref hd, .int 0])), (hd, .inr (4, [.ref hj, .int (nI dp), .int de, .int dB, .long ds, .int dk, .int dv])), (hj, .inr (1, [.ref jb, .int (nI jn), .int jm, .int jS, .int jl])), (jb, .inl (cJ, 300, .inl fb))]) in_T tok_T nok_T 0 rfl rfl 1 (by decide) (zk_m tw_111) rfl rfl rfl rfl (Nat.le_of_ble_eq_true rfl) d_T_restart_2 rfl ?_
  refine zk_aload_n (pc := 5) X d_T_restart_5 rfl (q := 0) rfl ?_
  refine zk_get (pc := 6) X (ci := 3) (v := .ref hd) in_T 0 rfl rfl 0 (by decide) (zk_m tw_110) rfl d_T_restart_6 ?_
  refine zk_callv (pc := 9) X (wc := [(hd, .inr (4, [.ref hj, .int (nI dp), .int de, .int dB, .long ds, .int dk, .int dv])), (hj, .inr (1, [.ref jb, .int (nI jn), .int jm, .int jS, .int jl])), (jb, .inl (cJ, 300, .inl fb))]) (wr := [(ht, .inr (3, [.ref hd, .int 0]))]) [1, 2, 3] [0] rfl rfl (by decide) (by decide) (by decide) (zk_runV X (C := R_D) (tysC := [(cJ, .int)]) (As := []) (rest := []) (c_D_rewind l dC dI hd hj jb cJ dp de dB ds dk dv fb jn jm jS jl (by omega)) [0] rfl (ci := 4) rfl 1 rfl (zk_cwV 0 X.1.2.2.2.2 (zk_goodT tw_318) rfl rfl rfl (zk_m tw_315) (zk_m tw_316) (zk_m tw_317) (zk_m tw_7) rfl (by decide +kernel) ⟨Nat.le_of_ble_eq_true rfl, Nat.le_of_ble_eq_true rfl⟩) rfl rfl (Nat.le_of_ble_eq_true rfl) ⟨Nat.zero_le _, Nat.zero_le _⟩ d_T_restart_9) ?_
  rintro ⟨dp_9, de_9, dB_9, ds_9, dk_9, dv_9⟩ ⟨w9, f9_0⟩
  have f9_0 : dp_9 ≤ jn := f9_0
  refine zk_ws (ws' := [(ht, .inr (3, [.ref hd, .int 0])), (hd, .inr (4, [.ref hj, .int (nI dp_9), .int de_9, .int dB_9, .long ds_9, .int dk_9, .int dv_9])), (hj, .inr (1, [.ref jb, .int (nI jn), .int jm, .int jS, .int jl])), (jb, .inl (cJ, 300, .inl fb))]) rfl ?_
  try dsimp only at w9
  rw [← w9] at hq
  try dsimp only at hq
  exact zk_vret (pc := 12) X hQ hRt hLk (0, dp_9, de_9, dB_9, ds_9, dk_9, dv_9) ⟨hq.symm, (show dp_9 ≤ jn by omega)⟩ [0, 1, 2, 3] rfl (by decide) d_T_restart_12
def sp_T_hasEntry_45 (step : Int32) (kind : Int32) (dp2 : Nat) (de2 : Int32) (dB2 : Int32) (ds2 : Int64) (dk2 : Int32) (dv2 : Int32) : Int32 × Nat × Int32 × Int32 × Int64 × Int32 × Int32 :=
  if de2 = 0 then
    (0, dp2, de2, dB2, ds2, dk2, dv2)
  else
    if ds2 = (Int32.toInt64 step) then
      if dk2 = kind then
        (1, dp2, de2, dB2, ds2, dk2, dv2)
      else
        (0, dp2, de2, dB2, ds2, dk2, dv2)
    else
      (0, dp2, de2, dB2, ds2, dk2, dv2)
def sp_T_hasEntry_2 (step : Int32) (kind : Int32) (fb : Nat → Int32) (jn : Nat) : Nat → Nat → Nat → Int32 → Int32 → Int64 → Int32 → Int32 → Int32 × Nat × Int32 × Int32 × Int64 × Int32 × Int32
  | 0, j, dp1, de1, dB1, ds1, dk1, dv1 => (0, dp1, de1, dB1, ds1, dk1, dv1)
  | fuel + 1, j, dp1, de1, dB1, ds1, dk1, dv1 =>
    if 300 ≤ j then
      sp_T_hasEntry_45 step kind dp1 de1 dB1 ds1 dk1 dv1
    else
      if de1 = 0 then
        sp_T_hasEntry_45 step kind dp1 de1 dB1 ds1 dk1 dv1
      else
        if (Int32.toInt64 step) ≤ ds1 then
          sp_T_hasEntry_45 step kind dp1 de1 dB1 ds1 dk1 dv1
        else
          (match sp_D_readEntry dp1 dB1 ds1 dk1 dv1 fb jn with
          | (dp_36, de_36, dB_36, ds_36, dk_36, dv_36) =>
            sp_T_hasEntry_2 step kind fb jn fuel (j + 1) dp_36 de_36 dB_36 ds_36 dk_36 dv_36)
def sp_T_hasEntry (step : Int32) (kind : Int32) (dp : Nat) (de : Int32) (dB : Int32) (ds : Int64) (dk : Int32) (dv : Int32) (fb : Nat → Int32) (jn : Nat) : Int32 × Nat × Int32 × Int32 × Int64 × Int32 × Int32 :=
  sp_T_hasEntry_2 step kind fb jn 301 0 dp de dB ds dk dv
abbrev rm_T_hasEntry : Room := { frames := 3, cells := 0, slots := 0, locals := 66 }
set_option maxHeartbeats 4000000 in
set_option maxRecDepth 100000 in
theorem c_T_hasEntry (l : Launch) (dC : Nat → ClassId) (dI : Nat → Nat → Nat) (ht hd hj jb : Nat) (cJ : ClassId) (step : Int32) (kind : Int32) (tt : Int32) (dp : Nat) (de : Int32) (dB : Int32) (ds : Int64) (dk : Int32) (dv : Int32) (fb : Nat → Int32) (jn : Nat) (jm : Int32) (jS : Int32) (jl : Int32) (hjn : jn ≤ 300) (hdp : dp ≤ jn) : zk_Ci l y_T_hasEntry w_T_hasEntry rm_T_hasEntry (dC, dI) vwCl [.ref ht, .int step, .int kind] [(ht, .inr (3, [.ref hd, .int tt])), (hd, .inr (4, [.ref hj, .int (nI dp), .int de, .int dB, .long ds, .int dk, .int dv])), (hj, .inr (1, [.ref jb, .int (nI jn), .int jm, .int jS, .int jl])), (jb, .inl (cJ, 300, .inl fb))] [(cJ, .int)] (fun (r : Int32) (u : Nat × Int32 × Int32 × Int64 × Int32 × Int32) => (r, u) = sp_T_hasEntry step kind dp de dB ds dk dv fb jn ∧ (u.1 ≤ jn) ∧ (zk_b01 r)) (fun u => [(ht, .inr (3, [.ref hd, .int tt])), (hd, .inr (4, [.ref hj, .int (nI u.1), .int u.2.1, .int u.2.2.1, .long u.2.2.2.1, .int u.2.2.2.2.1, .int u.2.2.2.2.2])), (hj, .inr (1, [.ref jb, .int (nI jn), .int jm, .int jS, .int jl])), (jb, .inl (cJ, 300, .inl fb))]) := by
  refine zk_enteri (cc := b_T_hasEntry) (maxL := 4) (ret := some .boolean) (by decide) rfl (Nat.le_of_ble_eq_true rfl) ?_
  intro p e s m args below meth c A Q hQ X hRt hLk
  have cut45 : ∀ (dp2 : Nat) (de2 : Int32) (dB2 : Int32) (ds2 : Int64) (dk2 : Int32) (dv2 : Int32), (dp2 ≤ jn) → sp_T_hasEntry step kind dp de dB ds dk dv fb jn = sp_T_hasEntry_45 step kind dp2 de2 dB2 ds2 dk2 dv2 → zk_Z p l e rm_T_hasEntry s m args below meth c Q A (dC, dI) vwCl 4 0 0 [(ht, .inr (3, [.ref hd, .int tt])), (hd, .inr (4, [.ref hj, .int (nI dp2), .int de2, .int dB2, .long ds2, .int dk2, .int dv2])), (hj, .inr (1, [.ref jb, .int (nI jn), .int jm, .int jS, .int jl])), (jb, .inl (cJ, 300, .inl fb))] [(0, .ref ht), (1, .int step), (2, .int kind)] [] 45 := by
    intro dp2 de2 dB2 ds2 dk2 dv2 hd2 hq
    rw [sp_T_hasEntry_45] at hq
    refine zk_aload_n (pc := 45) X d_T_hasEntry_45 rfl (q := 0) rfl ?_
    refine zk_get (pc := 46) X (ci := 3) (v := .ref hd) in_T 0 rfl rfl 0 (by decide) (zk_m tw_110) rfl d_T_hasEntry_46 ?_
    refine zk_get (pc := 49) X (ci := 4) (v := .int de2) in_D 1 rfl rfl 2 (by decide) (zk_m tw_90) rfl d_T_hasEntry_49 ?_
    refine zk_if_eq (pc := 52) X (tgt := 83) d_T_hasEntry_52 (by decide) (fun h52 => ?_) (fun h52 => ?_)
    · have hq := hq.trans (if_pos h52)
      refine zk_iconst (pc := 83) X (v := 0) d_T_hasEntry_83 rfl ?_
      exact zk_zret (pc := 84) X hQ hRt hLk rfl (dp2, de2, dB2, ds2, dk2, dv2) ⟨hq.symm, (show dp2 ≤ jn by omega), (show zk_b01 0 by first | exact Or.inl rfl | exact Or.inr rfl | assumption)⟩ [0, 1, 2, 3] rfl (by decide) d_T_hasEntry_84
    · have hq := hq.trans (if_neg h52)
      refine zk_aload_n (pc := 55) X d_T_hasEntry_55 rfl (q := 0) rfl ?_
      refine zk_get (pc := 56) X (ci := 3) (v := .ref hd) in_T 0 rfl rfl 0 (by decide) (zk_m tw_110) rfl d_T_hasEntry_56 ?_
      refine zk_get (pc := 59) X (ci := 4) (v := .long ds2) in_D 1 rfl rfl 4 (by decide) (zk_m tw_95) rfl d_T_hasEntry_59 ?_
      refine zk_iload_n (pc := 62) X d_T_hasEntry_62 rfl (q := 1) rfl ?_
      refine zk_i2l (pc := 63) X (v := (Int32.toInt64 step)) d_T_hasEntry_63 rfl ?_
      refine zk_lc_ne (pc := 64) X (tgt := 83) d_T_hasEntry_64 d_T_hasEntry_65 (by decide) (fun h64 => ?_) (fun h64 => ?_)
      · have hq := hq.trans (if_neg h64)
        refine zk_iconst (pc := 83) X (v := 0) d_T_hasEntry_83 rfl ?_
        exact zk_zret (pc := 84) X hQ hRt hLk rfl (dp2, de2, dB2, ds2, dk2, dv2) ⟨hq.symm, (show dp2 ≤ jn by omega), (show zk_b01 0 by first | exact Or.inl rfl | exact Or.inr rfl | assumption)⟩ [0, 1, 2, 3] rfl (by decide) d_T_hasEntry_84
      · have hq := hq.trans (if_pos h64)
        refine zk_aload_n (pc := 68) X d_T_hasEntry_68 rfl (q := 0) rfl ?_
        refine zk_get (pc := 69) X (ci := 3) (v := .ref hd) in_T 0 rfl rfl 0 (by decide) (zk_m tw_110) rfl d_T_hasEntry_69 ?_
        refine zk_get (pc := 72) X (ci := 4) (v := .int dk2) in_D 1 rfl rfl 5 (by decide) (zk_m tw_97) rfl d_T_hasEntry_72 ?_
        refine zk_iload_n (pc := 75) X d_T_hasEntry_75 rfl (q := 2) rfl ?_
        refine zk_icmp_ne (pc := 76) X (tgt := 83) d_T_hasEntry_76 (by decide) (fun h76 => ?_) (fun h76 => ?_)
        · have hq := hq.trans (if_neg h76)
          refine zk_iconst (pc := 83) X (v := 0) d_T_hasEntry_83 rfl ?_
          exact zk_zret (pc := 84) X hQ hRt hLk rfl (dp2, de2, dB2, ds2, dk2, dv2) ⟨hq.symm, (show dp2 ≤ jn by omega), (show zk_b01 0 by first | exact Or.inl rfl | exact Or.inr rfl | assumption)⟩ [0, 1, 2, 3] rfl (by decide) d_T_hasEntry_84
        · have hq := hq.trans (if_pos h76)
          refine zk_iconst (pc := 79) X (v := 1) d_T_hasEntry_79 rfl ?_
          refine zk_goto (pc := 80) X (tgt := 84) d_T_hasEntry_80 (by decide) ?_
          exact zk_zret (pc := 84) X hQ hRt hLk rfl (dp2, de2, dB2, ds2, dk2, dv2) ⟨hq.symm, (show dp2 ≤ jn by omega), (show zk_b01 1 by first | exact Or.inl rfl | exact Or.inr rfl | assumption)⟩ [0, 1, 2, 3] rfl (by decide) d_T_hasEntry_84
  have cut2 : ∀ (fuel : Nat) (j : Nat) (dp1 : Nat) (de1 : Int32) (dB1 : Int32) (ds1 : Int64) (dk1 : Int32) (dv1 : Int32), (j ≤ 300) → (dp1 ≤ jn) → 300 - j < fuel → sp_T_hasEntry step kind dp de dB ds dk dv fb jn = sp_T_hasEntry_2 step kind fb jn fuel j dp1 de1 dB1 ds1 dk1 dv1 → zk_Z p l e rm_T_hasEntry s m args below meth c Q A (dC, dI) vwCl 4 0 0 [(ht, .inr (3, [.ref hd, .int tt])), (hd, .inr (4, [.ref hj, .int (nI dp1), .int de1, .int dB1, .long ds1, .int dk1, .int dv1])), (hj, .inr (1, [.ref jb, .int (nI jn), .int jm, .int jS, .int jl])), (jb, .inl (cJ, 300, .inl fb))] [(0, .ref ht), (1, .int step), (2, .int kind), (3, .int (nI j))] [] 2 := by
    intro fuel
    induction fuel with
    | zero => intro j dp1 de1 dB1 ds1 dk1 dv1 hjj hd1 hMs; exact absurd hMs (Nat.not_lt_zero _)
    | succ fuel ih =>
      intro j dp1 de1 dB1 ds1 dk1 dv1 hjj hd1 hMs hq
      rw [sp_T_hasEntry_2] at hq
      refine zk_iload_n (pc := 2) X d_T_hasEntry_2 rfl (q := 3) rfl ?_
      refine zk_sipush (pc := 3) X (v := 300) d_T_hasEntry_3 (by decide) ?_
      refine zk_icmpN_ge (pc := 6) X (tgt := 45) (j) (300) rfl rfl (by omega) (by omega) d_T_hasEntry_6 (by decide) (fun h6 => ?_) (fun h6 => ?_)
      · have hq := hq.trans (if_pos h6)
        refine zk_lv (lv' := [(0, .ref ht), (1, .int step), (2, .int kind)]) [0, 1, 2] rfl ?_
        exact cut45 dp1 de1 dB1 ds1 dk1 dv1 (by omega) hq
      · have hq := hq.trans (if_neg h6)
        refine zk_aload_n (pc := 9) X d_T_hasEntry_9 rfl (q := 0) rfl ?_
        refine zk_get (pc := 10) X (ci := 3) (v := .ref hd) in_T 0 rfl rfl 0 (by decide) (zk_m tw_110) rfl d_T_hasEntry_10 ?_
        refine zk_get (pc := 13) X (ci := 4) (v := .int de1) in_D 1 rfl rfl 2 (by decide) (zk_m tw_90) rfl d_T_hasEntry_13 ?_
        refine zk_if_eq (pc := 16) X (tgt := 45) d_T_hasEntry_16 (by decide) (fun h16 => ?_) (fun h16 => ?_)
        · have hq := hq.trans (if_pos h16)
          refine zk_lv (lv' := [(0, .ref ht), (1, .int step), (2, .int kind)]) [0, 1, 2] rfl ?_
          exact cut45 dp1 de1 dB1 ds1 dk1 dv1 (by omega) hq
        · have hq := hq.trans (if_neg h16)
          refine zk_aload_n (pc := 19) X d_T_hasEntry_19 rfl (q := 0) rfl ?_
          refine zk_get (pc := 20) X (ci := 3) (v := .ref hd) in_T 0 rfl rfl 0 (by decide) (zk_m tw_110) rfl d_T_hasEntry_20 ?_
          refine zk_get (pc := 23) X (ci := 4) (v := .long ds1) in_D 1 rfl rfl 4 (by decide) (zk_m tw_95) rfl d_T_hasEntry_23 ?_
          refine zk_iload_n (pc := 26) X d_T_hasEntry_26 rfl (q := 1) rfl ?_
          refine zk_i2l (pc := 27) X (v := (Int32.toInt64 step)) d_T_hasEntry_27 rfl ?_
          refine zk_lc_ge (pc := 28) X (tgt := 45) d_T_hasEntry_28 d_T_hasEntry_29 (by decide) (fun h28 => ?_) (fun h28 => ?_)
          · have hq := hq.trans (if_pos h28)
            refine zk_lv (lv' := [(0, .ref ht), (1, .int step), (2, .int kind)]) [0, 1, 2] rfl ?_
            exact cut45 dp1 de1 dB1 ds1 dk1 dv1 (by omega) hq
          · have hq := hq.trans (if_neg h28)
            refine zk_aload_n (pc := 32) X d_T_hasEntry_32 rfl (q := 0) rfl ?_
            refine zk_get (pc := 33) X (ci := 3) (v := .ref hd) in_T 0 rfl rfl 0 (by decide) (zk_m tw_110) rfl d_T_hasEntry_33 ?_
            refine zk_callv (pc := 36) X (wc := [(hd, .inr (4, [.ref hj, .int (nI dp1), .int de1, .int dB1, .long ds1, .int dk1, .int dv1])), (hj, .inr (1, [.ref jb, .int (nI jn), .int jm, .int jS, .int jl])), (jb, .inl (cJ, 300, .inl fb))]) (wr := [(ht, .inr (3, [.ref hd, .int tt]))]) [1, 2, 3] [0] rfl rfl (by decide) (by decide) (by decide) (zk_runV X (C := R_D) (tysC := [(cJ, .int)]) (As := []) (rest := []) (c_D_readEntry l dC dI hd hj jb cJ dp1 de1 dB1 ds1 dk1 dv1 fb jn jm jS jl (by omega) (by omega)) [0] rfl (ci := 4) rfl 1 rfl (zk_cwV 0 X.1.2.2.2.2 (zk_goodT tw_244) rfl rfl rfl (zk_m tw_241) (zk_m tw_242) (zk_m tw_243) (zk_m tw_7) rfl (by decide +kernel) ⟨Nat.le_of_ble_eq_true rfl, Nat.le_of_ble_eq_true rfl⟩) rfl rfl (Nat.le_of_ble_eq_true rfl) ⟨Nat.zero_le _, Nat.zero_le _⟩ d_T_hasEntry_36) ?_
            rintro ⟨dp_36, de_36, dB_36, ds_36, dk_36, dv_36⟩ ⟨w36, f36_0⟩
            have f36_0 : dp_36 ≤ jn := f36_0
            refine zk_ws (ws' := [(ht, .inr (3, [.ref hd, .int tt])), (hd, .inr (4, [.ref hj, .int (nI dp_36), .int de_36, .int dB_36, .long ds_36, .int dk_36, .int dv_36])), (hj, .inr (1, [.ref jb, .int (nI jn), .int jm, .int jS, .int jl])), (jb, .inl (cJ, 300, .inl fb))]) rfl ?_
            try dsimp only at w36
            rw [← w36] at hq
            try dsimp only at hq
            refine zk_iinc (pc := 39) X (k0 := 3) (v := nI (j + 1)) (lv' := [(3, .int (nI (j + 1))), (0, .ref ht), (1, .int step), (2, .int kind)]) d_T_hasEntry_39 rfl (nI_add (j) 1) (by decide) rfl ?_
            refine zk_goto (pc := 42) X (tgt := 2) d_T_hasEntry_42 (by decide) ?_
            refine zk_lv (lv' := [(0, .ref ht), (1, .int step), (2, .int kind), (3, .int (nI (j + 1)))]) [1, 2, 3, 0] rfl ?_
            exact ih (j + 1) dp_36 de_36 dB_36 ds_36 dk_36 dv_36 (by omega) (by omega) (by omega) hq
  have hq := sp_T_hasEntry.eq_1 step kind dp de dB ds dk dv fb jn
  refine zk_lv (lv' := [(0, .ref ht), (1, .int step), (2, .int kind)]) [0, 1, 2] rfl ?_
  refine zk_iconst (pc := 0) X (v := 0) d_T_hasEntry_0 rfl ?_
  refine zk_istore_n (pc := 1) X (i := 3) (lv' := [(3, .int 0), (0, .ref ht), (1, .int step), (2, .int kind)]) d_T_hasEntry_1 rfl (by decide) rfl ?_
  refine zk_lv (lv' := [(0, .ref ht), (1, .int step), (2, .int kind), (3, .int 0)]) [1, 2, 3, 0] rfl ?_
  exact cut2 (301) 0 dp de dB ds dk dv (by omega) (by omega) (by omega) hq
def sp_T_takeInterrupt (step : Int32) (dp : Nat) (de : Int32) (dB : Int32) (ds : Int64) (dk : Int32) (dv : Int32) (fb : Nat → Int32) (jn : Nat) : Int32 × Nat × Int32 × Int32 × Int64 × Int32 × Int32 :=
  (match sp_T_hasEntry step 3 dp de dB ds dk dv fb jn with
  | (r3, dp_3, de_3, dB_3, ds_3, dk_3, dv_3) =>
    (r3, dp_3, de_3, dB_3, ds_3, dk_3, dv_3))
abbrev rm_T_takeInterrupt : Room := { frames := 4, cells := 0, slots := 0, locals := 89 }
set_option maxHeartbeats 4000000 in
set_option maxRecDepth 100000 in
theorem c_T_takeInterrupt (l : Launch) (dC : Nat → ClassId) (dI : Nat → Nat → Nat) (ht hd hj jb : Nat) (cJ : ClassId) (step : Int32) (tt : Int32) (dp : Nat) (de : Int32) (dB : Int32) (ds : Int64) (dk : Int32) (dv : Int32) (fb : Nat → Int32) (jn : Nat) (jm : Int32) (jS : Int32) (jl : Int32) (hjn : jn ≤ 300) (hdp : dp ≤ jn) : zk_Ci l y_T_takeInterrupt w_T_takeInterrupt rm_T_takeInterrupt (dC, dI) vwCl [.ref ht, .int step] [(ht, .inr (3, [.ref hd, .int tt])), (hd, .inr (4, [.ref hj, .int (nI dp), .int de, .int dB, .long ds, .int dk, .int dv])), (hj, .inr (1, [.ref jb, .int (nI jn), .int jm, .int jS, .int jl])), (jb, .inl (cJ, 300, .inl fb))] [(cJ, .int)] (fun (r : Int32) (u : Nat × Int32 × Int32 × Int64 × Int32 × Int32) => (r, u) = sp_T_takeInterrupt step dp de dB ds dk dv fb jn ∧ (u.1 ≤ jn) ∧ (zk_b01 r)) (fun u => [(ht, .inr (3, [.ref hd, .int tt])), (hd, .inr (4, [.ref hj, .int (nI u.1), .int u.2.1, .int u.2.2.1, .long u.2.2.2.1, .int u.2.2.2.2.1, .int u.2.2.2.2.2])), (hj, .inr (1, [.ref jb, .int (nI jn), .int jm, .int jS, .int jl])), (jb, .inl (cJ, 300, .inl fb))]) := by
  refine zk_enteri (cc := b_T_takeInterrupt) (maxL := 2) (ret := some .boolean) (by decide) rfl (Nat.le_of_ble_eq_true rfl) ?_
  intro p e s m args below meth c A Q hQ X hRt hLk
  have hq := sp_T_takeInterrupt.eq_1 step dp de dB ds dk dv fb jn
  refine zk_lv (lv' := [(0, .ref ht), (1, .int step)]) [0, 1] rfl ?_
  refine zk_aload_n (pc := 0) X d_T_takeInterrupt_0 rfl (q := 0) rfl ?_
  refine zk_iload_n (pc := 1) X d_T_takeInterrupt_1 rfl (q := 1) rfl ?_
  refine zk_iconst (pc := 2) X (v := 3) d_T_takeInterrupt_2 rfl ?_
  refine zk_calli (pc := 3) X (wc := [(ht, .inr (3, [.ref hd, .int tt])), (hd, .inr (4, [.ref hj, .int (nI dp), .int de, .int dB, .long ds, .int dk, .int dv])), (hj, .inr (1, [.ref jb, .int (nI jn), .int jm, .int jS, .int jl])), (jb, .inl (cJ, 300, .inl fb))]) (wr := []) [0, 1, 2, 3] [] rfl rfl (by decide) (by decide) (by decide) (zk_runV X (C := R_T) (tysC := [(cJ, .int)]) (As := [.int step, .int 3]) (rest := []) (c_T_hasEntry l dC dI ht hd hj jb cJ step 3 tt dp de dB ds dk dv fb jn jm jS jl (by omega) (by omega)) [0] rfl (ci := 3) rfl 0 rfl (zk_cwV 2 X.1.2.2.2.2 (zk_goodT tw_240) rfl rfl rfl (zk_m tw_238) (zk_m tw_239) (zk_m tw_526) (zk_m tw_6) rfl (by decide +kernel) ⟨Nat.le_of_ble_eq_true rfl, Nat.le_of_ble_eq_true rfl⟩) rfl rfl (Nat.le_of_ble_eq_true rfl) ⟨Nat.zero_le _, Nat.zero_le _⟩ d_T_takeInterrupt_3) ?_
  rintro r3 ⟨dp_3, de_3, dB_3, ds_3, dk_3, dv_3⟩ ⟨w3, f3_0, f3_1⟩
  have f3_0 : dp_3 ≤ jn := f3_0
  have f3_1 : zk_b01 r3 := f3_1
  refine zk_ws (ws' := [(ht, .inr (3, [.ref hd, .int tt])), (hd, .inr (4, [.ref hj, .int (nI dp_3), .int de_3, .int dB_3, .long ds_3, .int dk_3, .int dv_3])), (hj, .inr (1, [.ref jb, .int (nI jn), .int jm, .int jS, .int jl])), (jb, .inl (cJ, 300, .inl fb))]) rfl ?_
  try dsimp only at w3
  rw [← w3] at hq
  try dsimp only at hq
  exact zk_zret (pc := 6) X hQ hRt hLk (zk_narB f3_1) (dp_3, de_3, dB_3, ds_3, dk_3, dv_3) ⟨hq.symm, (show dp_3 ≤ jn by omega), (show zk_b01 r3 by first | exact Or.inl rfl | exact Or.inr rfl | assumption)⟩ [0, 1, 2, 3] rfl (by decide) d_T_takeInterrupt_6
def sp_T_takeInput (step : Int32) (dp : Nat) (de : Int32) (dB : Int32) (ds : Int64) (dk : Int32) (dv : Int32) (fb : Nat → Int32) (jn : Nat) : Int32 × Nat × Int32 × Int32 × Int64 × Int32 × Int32 :=
  (match sp_T_hasEntry step 1 dp de dB ds dk dv fb jn with
  | (r3, dp_3, de_3, dB_3, ds_3, dk_3, dv_3) =>
    if r3 = 0 then
      (0, dp_3, de_3, dB_3, ds_3, dk_3, dv_3)
    else
      if (dv_3 &&& 1) = 0 then
        ((zf_ushr dv_3 1), dp_3, de_3, dB_3, ds_3, dk_3, dv_3)
      else
        (((-(zf_ushr dv_3 1)) - 1), dp_3, de_3, dB_3, ds_3, dk_3, dv_3))
abbrev rm_T_takeInput : Room := { frames := 4, cells := 0, slots := 0, locals := 89 }
set_option maxHeartbeats 4000000 in
set_option maxRecDepth 100000 in
theorem c_T_takeInput (l : Launch) (dC : Nat → ClassId) (dI : Nat → Nat → Nat) (ht hd hj jb : Nat) (cJ : ClassId) (step : Int32) (tt : Int32) (dp : Nat) (de : Int32) (dB : Int32) (ds : Int64) (dk : Int32) (dv : Int32) (fb : Nat → Int32) (jn : Nat) (jm : Int32) (jS : Int32) (jl : Int32) (hjn : jn ≤ 300) (hdp : dp ≤ jn) : zk_Ci l y_T_takeInput w_T_takeInput rm_T_takeInput (dC, dI) vwCl [.ref ht, .int step] [(ht, .inr (3, [.ref hd, .int tt])), (hd, .inr (4, [.ref hj, .int (nI dp), .int de, .int dB, .long ds, .int dk, .int dv])), (hj, .inr (1, [.ref jb, .int (nI jn), .int jm, .int jS, .int jl])), (jb, .inl (cJ, 300, .inl fb))] [(cJ, .int)] (fun (r : Int32) (u : Nat × Int32 × Int32 × Int64 × Int32 × Int32) => (r, u) = sp_T_takeInput step dp de dB ds dk dv fb jn ∧ (u.1 ≤ jn)) (fun u => [(ht, .inr (3, [.ref hd, .int tt])), (hd, .inr (4, [.ref hj, .int (nI u.1), .int u.2.1, .int u.2.2.1, .long u.2.2.2.1, .int u.2.2.2.2.1, .int u.2.2.2.2.2])), (hj, .inr (1, [.ref jb, .int (nI jn), .int jm, .int jS, .int jl])), (jb, .inl (cJ, 300, .inl fb))]) := by
  refine zk_enteri (cc := b_T_takeInput) (maxL := 3) (ret := some .int) (by decide) rfl (Nat.le_of_ble_eq_true rfl) ?_
  intro p e s m args below meth c A Q hQ X hRt hLk
  have hq := sp_T_takeInput.eq_1 step dp de dB ds dk dv fb jn
  refine zk_lv (lv' := [(0, .ref ht), (1, .int step)]) [0, 1] rfl ?_
  refine zk_aload_n (pc := 0) X d_T_takeInput_0 rfl (q := 0) rfl ?_
  refine zk_iload_n (pc := 1) X d_T_takeInput_1 rfl (q := 1) rfl ?_
  refine zk_iconst (pc := 2) X (v := 1) d_T_takeInput_2 rfl ?_
  refine zk_calli (pc := 3) X (wc := [(ht, .inr (3, [.ref hd, .int tt])), (hd, .inr (4, [.ref hj, .int (nI dp), .int de, .int dB, .long ds, .int dk, .int dv])), (hj, .inr (1, [.ref jb, .int (nI jn), .int jm, .int jS, .int jl])), (jb, .inl (cJ, 300, .inl fb))]) (wr := []) [0, 1, 2, 3] [] rfl rfl (by decide) (by decide) (by decide) (zk_runV X (C := R_T) (tysC := [(cJ, .int)]) (As := [.int step, .int 1]) (rest := []) (c_T_hasEntry l dC dI ht hd hj jb cJ step 1 tt dp de dB ds dk dv fb jn jm jS jl (by omega) (by omega)) [0] rfl (ci := 3) rfl 0 rfl (zk_cwV 2 X.1.2.2.2.2 (zk_goodT tw_240) rfl rfl rfl (zk_m tw_238) (zk_m tw_239) (zk_m tw_526) (zk_m tw_6) rfl (by decide +kernel) ⟨Nat.le_of_ble_eq_true rfl, Nat.le_of_ble_eq_true rfl⟩) rfl rfl (Nat.le_of_ble_eq_true rfl) ⟨Nat.zero_le _, Nat.zero_le _⟩ d_T_takeInput_3) ?_
  rintro r3 ⟨dp_3, de_3, dB_3, ds_3, dk_3, dv_3⟩ ⟨w3, f3_0, f3_1⟩
  have f3_0 : dp_3 ≤ jn := f3_0
  have f3_1 : zk_b01 r3 := f3_1
  refine zk_ws (ws' := [(ht, .inr (3, [.ref hd, .int tt])), (hd, .inr (4, [.ref hj, .int (nI dp_3), .int de_3, .int dB_3, .long ds_3, .int dk_3, .int dv_3])), (hj, .inr (1, [.ref jb, .int (nI jn), .int jm, .int jS, .int jl])), (jb, .inl (cJ, 300, .inl fb))]) rfl ?_
  try dsimp only at w3
  rw [← w3] at hq
  try dsimp only at hq
  refine zk_if_ne (pc := 6) X (tgt := 11) d_T_takeInput_6 (by decide) (fun h6 => ?_) (fun h6 => ?_)
  · have hq := hq.trans (if_neg h6)
    refine zk_aload_n (pc := 11) X d_T_takeInput_11 rfl (q := 0) rfl ?_
    refine zk_get (pc := 12) X (ci := 3) (v := .ref hd) in_T 0 rfl rfl 0 (by decide) (zk_m tw_110) rfl d_T_takeInput_12 ?_
    refine zk_get (pc := 15) X (ci := 4) (v := .int dv_3) in_D 1 rfl rfl 6 (by decide) (zk_m tw_99) rfl d_T_takeInput_15 ?_
    refine zk_istore_n (pc := 18) X (i := 2) (lv' := [(2, .int dv_3), (0, .ref ht), (1, .int step)]) d_T_takeInput_18 rfl (by decide) rfl ?_
    refine zk_iload_n (pc := 19) X d_T_takeInput_19 rfl (q := 0) rfl ?_
    refine zk_iconst (pc := 20) X (v := 1) d_T_takeInput_20 rfl ?_
    refine zk_iand (pc := 21) X (v := (dv_3 &&& 1)) d_T_takeInput_21 rfl ?_
    refine zk_if_ne (pc := 22) X (tgt := 31) d_T_takeInput_22 (by decide) (fun h22 => ?_) (fun h22 => ?_)
    · have hq := hq.trans (if_neg h22)
      refine zk_iload_n (pc := 31) X d_T_takeInput_31 rfl (q := 0) rfl ?_
      refine zk_iconst (pc := 32) X (v := 1) d_T_takeInput_32 rfl ?_
      refine zk_iushr (pc := 33) X (v := (zf_ushr dv_3 1)) d_T_takeInput_33 rfl ?_
      refine zk_ineg (pc := 34) X (v := (-(zf_ushr dv_3 1))) d_T_takeInput_34 rfl ?_
      refine zk_iconst (pc := 35) X (v := 1) d_T_takeInput_35 rfl ?_
      refine zk_isub (pc := 36) X (v := ((-(zf_ushr dv_3 1)) - 1)) d_T_takeInput_36 rfl ?_
      exact zk_iret (pc := 37) X hQ hRt hLk (dp_3, de_3, dB_3, ds_3, dk_3, dv_3) ⟨hq.symm, (show dp_3 ≤ jn by omega)⟩ [0, 1, 2, 3] rfl (by decide) d_T_takeInput_37
    · have hq := hq.trans (if_pos h22)
      refine zk_iload_n (pc := 25) X d_T_takeInput_25 rfl (q := 0) rfl ?_
      refine zk_iconst (pc := 26) X (v := 1) d_T_takeInput_26 rfl ?_
      refine zk_iushr (pc := 27) X (v := (zf_ushr dv_3 1)) d_T_takeInput_27 rfl ?_
      refine zk_goto (pc := 28) X (tgt := 37) d_T_takeInput_28 (by decide) ?_
      exact zk_iret (pc := 37) X hQ hRt hLk (dp_3, de_3, dB_3, ds_3, dk_3, dv_3) ⟨hq.symm, (show dp_3 ≤ jn by omega)⟩ [0, 1, 2, 3] rfl (by decide) d_T_takeInput_37
  · have hq := hq.trans (if_pos h6)
    refine zk_iconst (pc := 9) X (v := 0) d_T_takeInput_9 rfl ?_
    exact zk_iret (pc := 10) X hQ hRt hLk (dp_3, de_3, dB_3, ds_3, dk_3, dv_3) ⟨hq.symm, (show dp_3 ≤ jn by omega)⟩ [0, 1, 2, 3] rfl (by decide) d_T_takeInput_10
def sp_T_readClock (step : Int32) (tt : Int32) (dp : Nat) (de : Int32) (dB : Int32) (ds : Int64) (dk : Int32) (dv : Int32) (fb : Nat → Int32) (jn : Nat) : Int32 × Int32 × Nat × Int32 × Int32 × Int64 × Int32 × Int32 :=
  (match sp_T_hasEntry step 2 dp de dB ds dk dv fb jn with
  | (r3, dp_3, de_3, dB_3, ds_3, dk_3, dv_3) =>
    if r3 = 0 then
      (tt, tt, dp_3, de_3, dB_3, ds_3, dk_3, dv_3)
    else
      ((tt + dv_3), (tt + dv_3), dp_3, de_3, dB_3, ds_3, dk_3, dv_3))
abbrev rm_T_readClock : Room := { frames := 4, cells := 0, slots := 0, locals := 89 }
set_option maxHeartbeats 4000000 in
set_option maxRecDepth 100000 in
theorem c_T_readClock (l : Launch) (dC : Nat → ClassId) (dI : Nat → Nat → Nat) (ht hd hj jb : Nat) (cJ : ClassId) (step : Int32) (tt : Int32) (dp : Nat) (de : Int32) (dB : Int32) (ds : Int64) (dk : Int32) (dv : Int32) (fb : Nat → Int32) (jn : Nat) (jm : Int32) (jS : Int32) (jl : Int32) (hjn : jn ≤ 300) (hdp : dp ≤ jn) : zk_Ci l y_T_readClock w_T_readClock rm_T_readClock (dC, dI) vwCl [.ref ht, .int step] [(ht, .inr (3, [.ref hd, .int tt])), (hd, .inr (4, [.ref hj, .int (nI dp), .int de, .int dB, .long ds, .int dk, .int dv])), (hj, .inr (1, [.ref jb, .int (nI jn), .int jm, .int jS, .int jl])), (jb, .inl (cJ, 300, .inl fb))] [(cJ, .int)] (fun (r : Int32) (u : Int32 × Nat × Int32 × Int32 × Int64 × Int32 × Int32) => (r, u) = sp_T_readClock step tt dp de dB ds dk dv fb jn ∧ (u.2.1 ≤ jn)) (fun u => [(ht, .inr (3, [.ref hd, .int u.1])), (hd, .inr (4, [.ref hj, .int (nI u.2.1), .int u.2.2.1, .int u.2.2.2.1, .long u.2.2.2.2.1, .int u.2.2.2.2.2.1, .int u.2.2.2.2.2.2])), (hj, .inr (1, [.ref jb, .int (nI jn), .int jm, .int jS, .int jl])), (jb, .inl (cJ, 300, .inl fb))]) := by
  refine zk_enteri (cc := b_T_readClock) (maxL := 2) (ret := some .int) (by decide) rfl (Nat.le_of_ble_eq_true rfl) ?_
  intro p e s m args below meth c A Q hQ X hRt hLk
  have hq := sp_T_readClock.eq_1 step tt dp de dB ds dk dv fb jn
  refine zk_lv (lv' := [(0, .ref ht), (1, .int step)]) [0, 1] rfl ?_
  refine zk_aload_n (pc := 0) X d_T_readClock_0 rfl (q := 0) rfl ?_
  refine zk_iload_n (pc := 1) X d_T_readClock_1 rfl (q := 1) rfl ?_
  refine zk_iconst (pc := 2) X (v := 2) d_T_readClock_2 rfl ?_
  refine zk_calli (pc := 3) X (wc := [(ht, .inr (3, [.ref hd, .int tt])), (hd, .inr (4, [.ref hj, .int (nI dp), .int de, .int dB, .long ds, .int dk, .int dv])), (hj, .inr (1, [.ref jb, .int (nI jn), .int jm, .int jS, .int jl])), (jb, .inl (cJ, 300, .inl fb))]) (wr := []) [0, 1, 2, 3] [] rfl rfl (by decide) (by decide) (by decide) (zk_runV X (C := R_T) (tysC := [(cJ, .int)]) (As := [.int step, .int 2]) (rest := []) (c_T_hasEntry l dC dI ht hd hj jb cJ step 2 tt dp de dB ds dk dv fb jn jm jS jl (by omega) (by omega)) [0] rfl (ci := 3) rfl 0 rfl (zk_cwV 2 X.1.2.2.2.2 (zk_goodT tw_240) rfl rfl rfl (zk_m tw_238) (zk_m tw_239) (zk_m tw_526) (zk_m tw_6) rfl (by decide +kernel) ⟨Nat.le_of_ble_eq_true rfl, Nat.le_of_ble_eq_true rfl⟩) rfl rfl (Nat.le_of_ble_eq_true rfl) ⟨Nat.zero_le _, Nat.zero_le _⟩ d_T_readClock_3) ?_
  rintro r3 ⟨dp_3, de_3, dB_3, ds_3, dk_3, dv_3⟩ ⟨w3, f3_0, f3_1⟩
  have f3_0 : dp_3 ≤ jn := f3_0
  have f3_1 : zk_b01 r3 := f3_1
  refine zk_ws (ws' := [(ht, .inr (3, [.ref hd, .int tt])), (hd, .inr (4, [.ref hj, .int (nI dp_3), .int de_3, .int dB_3, .long ds_3, .int dk_3, .int dv_3])), (hj, .inr (1, [.ref jb, .int (nI jn), .int jm, .int jS, .int jl])), (jb, .inl (cJ, 300, .inl fb))]) rfl ?_
  try dsimp only at w3
  rw [← w3] at hq
  try dsimp only at hq
  refine zk_if_eq (pc := 6) X (tgt := 25) d_T_readClock_6 (by decide) (fun h6 => ?_) (fun h6 => ?_)
  · have hq := hq.trans (if_pos h6)
    refine zk_aload_n (pc := 25) X d_T_readClock_25 rfl (q := 0) rfl ?_
    refine zk_get (pc := 26) X (ci := 3) (v := .int tt) in_T 0 rfl rfl 1 (by decide) (zk_m tw_111) rfl d_T_readClock_26 ?_
    exact zk_iret (pc := 29) X hQ hRt hLk (tt, dp_3, de_3, dB_3, ds_3, dk_3, dv_3) ⟨hq.symm, (show dp_3 ≤ jn by omega)⟩ [0, 1, 2, 3] rfl (by decide) d_T_readClock_29
  · have hq := hq.trans (if_neg h6)
    refine zk_aload_n (pc := 9) X d_T_readClock_9 rfl (q := 0) rfl ?_
    refine zk_dup (pc := 10) X d_T_readClock_10 rfl ?_
    refine zk_get (pc := 11) X (ci := 3) (v := .int tt) in_T 0 rfl rfl 1 (by decide) (zk_m tw_111) rfl d_T_readClock_11 ?_
    refine zk_aload_n (pc := 14) X d_T_readClock_14 rfl (q := 0) rfl ?_
    refine zk_get (pc := 15) X (ci := 3) (v := .ref hd) in_T 0 rfl rfl 0 (by decide) (zk_m tw_110) rfl d_T_readClock_15 ?_
    refine zk_get (pc := 18) X (ci := 4) (v := .int dv_3) in_D 1 rfl rfl 6 (by decide) (zk_m tw_99) rfl d_T_readClock_18 ?_
    refine zk_iadd (pc := 21) X (v := (tt + dv_3)) d_T_readClock_21 rfl ?_
    refine zk_put (pc := 22) X (ty := .int) (v := .int (tt + dv_3)) (ws' := [(ht, .inr (3, [.ref hd, .int (tt + dv_3)])), (hd, .inr (4, [.ref hj, .int (nI dp_3), .int de_3, .int dB_3, .long ds_3, .int dk_3, .int dv_3])), (hj, .inr (1, [.ref jb, .int (nI jn), .int jm, .int jS, .int jl])), (jb, .inl (cJ, 300, .inl fb))]) in_T tok_T nok_T 0 rfl rfl 1 (by decide) (zk_m tw_111) rfl rfl rfl rfl (Nat.le_of_ble_eq_true rfl) d_T_readClock_22 rfl ?_
    refine zk_aload_n (pc := 25) X d_T_readClock_25 rfl (q := 0) rfl ?_
    refine zk_get (pc := 26) X (ci := 3) (v := .int (tt + dv_3)) in_T 0 rfl rfl 1 (by decide) (zk_m tw_111) rfl d_T_readClock_26 ?_
    exact zk_iret (pc := 29) X hQ hRt hLk ((tt + dv_3), dp_3, de_3, dB_3, ds_3, dk_3, dv_3) ⟨hq.symm, (show dp_3 ≤ jn by omega)⟩ [0, 1, 2, 3] rfl (by decide) d_T_readClock_29
