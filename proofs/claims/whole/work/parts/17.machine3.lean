def sp_M_looksLike_31 (fc : Nat → Int32) (kfc : Nat → Int32) : Nat → Nat → Int32
  | 0, j => 0
  | fuel + 1, j =>
    if 32 ≤ j then
      1
    else
      if (fc j) = (kfc j) then
        sp_M_looksLike_31 fc kfc fuel (j + 1)
      else
        0
def sp_M_looksLike_2 (fr : Nat → Int32) (fc : Nat → Int32) (mp : Int32) (mi : Int32) (me : Int32) (mo : Int32) (mt : Int32) (mS : Nat) (kfr : Nat → Int32) (kfc : Nat → Int32) (kp : Int32) (ki : Int32) (ke : Int32) (ko : Int32) (kt : Int32) (kS : Nat) : Nat → Nat → Int32
  | 0, j => 0
  | fuel + 1, j =>
    if 10 ≤ j then
      sp_M_looksLike_31 fc kfc 33 0
    else
      if (sp_M_stateOf (nI j) fr mp mi me mo mt mS) = (sp_M_stateOf (nI j) kfr kp ki ke ko kt kS) then
        sp_M_looksLike_2 fr fc mp mi me mo mt mS kfr kfc kp ki ke ko kt kS fuel (j + 1)
      else
        0
def sp_M_looksLike (fr : Nat → Int32) (fc : Nat → Int32) (mp : Int32) (mi : Int32) (me : Int32) (mo : Int32) (mt : Int32) (mS : Nat) (kfr : Nat → Int32) (kfc : Nat → Int32) (kp : Int32) (ki : Int32) (ke : Int32) (ko : Int32) (kt : Int32) (kS : Nat) : Int32 :=
  sp_M_looksLike_2 fr fc mp mi me mo mt mS kfr kfc kp ki ke ko kt kS 11 0
abbrev rm_M_looksLike : Room := { frames := 1, cells := 0, slots := 0, locals := 21 }
set_option maxHeartbeats 4000000 in
set_option maxRecDepth 100000 in
theorem c_M_looksLike (l : Launch) (dC : Nat → ClassId) (dI : Nat → Nat → Nat) (hm mr mc hk kr kc : Nat) (cmr cmc ckr ckc : ClassId) (fr : Nat → Int32) (fc : Nat → Int32) (mp : Int32) (mb : Int32) (mi : Int32) (me : Int32) (ml : Int32) (mo : Int32) (mt : Int32) (mS : Nat) (kfr : Nat → Int32) (kfc : Nat → Int32) (kp : Int32) (kb : Int32) (ki : Int32) (ke : Int32) (kl : Int32) (ko : Int32) (kt : Int32) (kS : Nat) : zk_Ci l y_M_looksLike w_M_looksLike rm_M_looksLike (dC, dI) vwCl [.ref hm, .ref hk] [(hm, .inr (5, [.ref mr, .ref mc, .int mp, .int mb, .int mi, .int me, .int ml, .int mo, .int mt, .int (nI mS)])), (mr, .inl (cmr, 4, .inl fr)), (mc, .inl (cmc, 32, .inl fc)), (hk, .inr (5, [.ref kr, .ref kc, .int kp, .int kb, .int ki, .int ke, .int kl, .int ko, .int kt, .int (nI kS)])), (kr, .inl (ckr, 4, .inl kfr)), (kc, .inl (ckc, 32, .inl kfc))] [(cmr, .int), (cmc, .int), (ckr, .int), (ckc, .int)] (fun (r : Int32) (u : Unit) => r = sp_M_looksLike fr fc mp mi me mo mt mS kfr kfc kp ki ke ko kt kS) (fun _ => [(hm, .inr (5, [.ref mr, .ref mc, .int mp, .int mb, .int mi, .int me, .int ml, .int mo, .int mt, .int (nI mS)])), (mr, .inl (cmr, 4, .inl fr)), (mc, .inl (cmc, 32, .inl fc)), (hk, .inr (5, [.ref kr, .ref kc, .int kp, .int kb, .int ki, .int ke, .int kl, .int ko, .int kt, .int (nI kS)])), (kr, .inl (ckr, 4, .inl kfr)), (kc, .inl (ckc, 32, .inl kfc))]) := by
  refine zk_enteri (cc := b_M_looksLike) (maxL := 3) (ret := some .boolean) (by decide) rfl (Nat.le_of_ble_eq_true rfl) ?_
  intro p e s m args below meth c A Q hQ X hRt hLk
  have cut31 : ∀ (fuel : Nat) (j : Nat), (j ≤ 32) → 32 - j < fuel → sp_M_looksLike fr fc mp mi me mo mt mS kfr kfc kp ki ke ko kt kS = sp_M_looksLike_31 fc kfc fuel j → zk_Z p l e rm_M_looksLike s m args below meth c Q A (dC, dI) vwCl 3 0 0 [(hm, .inr (5, [.ref mr, .ref mc, .int mp, .int mb, .int mi, .int me, .int ml, .int mo, .int mt, .int (nI mS)])), (mr, .inl (cmr, 4, .inl fr)), (mc, .inl (cmc, 32, .inl fc)), (hk, .inr (5, [.ref kr, .ref kc, .int kp, .int kb, .int ki, .int ke, .int kl, .int ko, .int kt, .int (nI kS)])), (kr, .inl (ckr, 4, .inl kfr)), (kc, .inl (ckc, 32, .inl kfc))] [(0, .ref hm), (1, .ref hk), (2, .int (nI j))] [] 31 := by
    intro fuel
    induction fuel with
    | zero => intro j hjj hMs; exact absurd hMs (Nat.not_lt_zero _)
    | succ fuel ih =>
      intro j hjj hMs hq
      rw [sp_M_looksLike_31] at hq
      refine zk_iload_n (pc := 31) X d_M_looksLike_31 rfl (q := 2) rfl ?_
      refine zk_bipush (pc := 32) X (v := 32) d_M_looksLike_32 (by decide) ?_
      refine zk_icmpN_ge (pc := 34) X (tgt := 60) (j) (32) rfl rfl (by omega) (by omega) d_M_looksLike_34 (by decide) (fun h34 => ?_) (fun h34 => ?_)
      · have hq := hq.trans (if_pos h34)
        refine zk_iconst (pc := 60) X (v := 1) d_M_looksLike_60 rfl ?_
        exact zk_zret (pc := 61) X hQ hRt hLk rfl () hq.symm [0, 1, 2, 3, 4, 5] rfl (by decide) d_M_looksLike_61
      · have hq := hq.trans (if_neg h34)
        refine zk_aload_n (pc := 37) X d_M_looksLike_37 rfl (q := 0) rfl ?_
        refine zk_get (pc := 38) X (ci := 5) (v := .ref mc) in_M 0 rfl rfl 1 (by decide) (zk_m tw_121) rfl d_M_looksLike_38 ?_
        refine zk_iload_n (pc := 41) X d_M_looksLike_41 rfl (q := 2) rfl ?_
        refine zk_iald (pc := 42) X 2 1 (j) rfl rfl rfl (by omega) (by decide) d_M_looksLike_42 ?_
        refine zk_aload_n (pc := 43) X d_M_looksLike_43 rfl (q := 1) rfl ?_
        refine zk_get (pc := 44) X (ci := 5) (v := .ref kc) in_M 3 rfl rfl 1 (by decide) (zk_m tw_121) rfl d_M_looksLike_44 ?_
        refine zk_iload_n (pc := 47) X d_M_looksLike_47 rfl (q := 2) rfl ?_
        refine zk_iald (pc := 48) X 5 3 (j) rfl rfl rfl (by omega) (by decide) d_M_looksLike_48 ?_
        refine zk_icmp_eq (pc := 49) X (tgt := 54) d_M_looksLike_49 (by decide) (fun h49 => ?_) (fun h49 => ?_)
        · have hq := hq.trans (if_pos h49)
          refine zk_iinc (pc := 54) X (k0 := 2) (v := nI (j + 1)) (lv' := [(2, .int (nI (j + 1))), (0, .ref hm), (1, .ref hk)]) d_M_looksLike_54 rfl (nI_add (j) 1) (by decide) rfl ?_
          refine zk_goto (pc := 57) X (tgt := 31) d_M_looksLike_57 (by decide) ?_
          refine zk_lv (lv' := [(0, .ref hm), (1, .ref hk), (2, .int (nI (j + 1)))]) [1, 2, 0] rfl ?_
          exact ih (j + 1) (by omega) (by omega) hq
        · have hq := hq.trans (if_neg h49)
          refine zk_iconst (pc := 52) X (v := 0) d_M_looksLike_52 rfl ?_
          exact zk_zret (pc := 53) X hQ hRt hLk rfl () hq.symm [0, 1, 2, 3, 4, 5] rfl (by decide) d_M_looksLike_53
  have cut2 : ∀ (fuel : Nat) (j : Nat), (j ≤ 10) → 10 - j < fuel → sp_M_looksLike fr fc mp mi me mo mt mS kfr kfc kp ki ke ko kt kS = sp_M_looksLike_2 fr fc mp mi me mo mt mS kfr kfc kp ki ke ko kt kS fuel j → zk_Z p l e rm_M_looksLike s m args below meth c Q A (dC, dI) vwCl 3 0 0 [(hm, .inr (5, [.ref mr, .ref mc, .int mp, .int mb, .int mi, .int me, .int ml, .int mo, .int mt, .int (nI mS)])), (mr, .inl (cmr, 4, .inl fr)), (mc, .inl (cmc, 32, .inl fc)), (hk, .inr (5, [.ref kr, .ref kc, .int kp, .int kb, .int ki, .int ke, .int kl, .int ko, .int kt, .int (nI kS)])), (kr, .inl (ckr, 4, .inl kfr)), (kc, .inl (ckc, 32, .inl kfc))] [(0, .ref hm), (1, .ref hk), (2, .int (nI j))] [] 2 := by
    intro fuel
    induction fuel with
    | zero => intro j hjj hMs; exact absurd hMs (Nat.not_lt_zero _)
    | succ fuel ih =>
      intro j hjj hMs hq
      rw [sp_M_looksLike_2] at hq
      refine zk_iload_n (pc := 2) X d_M_looksLike_2 rfl (q := 2) rfl ?_
      refine zk_bipush (pc := 3) X (v := 10) d_M_looksLike_3 (by decide) ?_
      refine zk_icmpN_ge (pc := 5) X (tgt := 29) (j) (10) rfl rfl (by omega) (by omega) d_M_looksLike_5 (by decide) (fun h5 => ?_) (fun h5 => ?_)
      · have hq := hq.trans (if_pos h5)
        refine zk_iconst (pc := 29) X (v := 0) d_M_looksLike_29 rfl ?_
        refine zk_istore_n (pc := 30) X (i := 2) (lv' := [(2, .int 0), (0, .ref hm), (1, .ref hk)]) d_M_looksLike_30 rfl (by decide) rfl ?_
        refine zk_lv (lv' := [(0, .ref hm), (1, .ref hk), (2, .int 0)]) [1, 2, 0] rfl ?_
        exact cut31 (33) 0 (by omega) (by omega) hq
      · have hq := hq.trans (if_neg h5)
        refine zk_aload_n (pc := 8) X d_M_looksLike_8 rfl (q := 0) rfl ?_
        refine zk_iload_n (pc := 9) X d_M_looksLike_9 rfl (q := 2) rfl ?_
        refine zk_calli (pc := 10) X (wc := [(hm, .inr (5, [.ref mr, .ref mc, .int mp, .int mb, .int mi, .int me, .int ml, .int mo, .int mt, .int (nI mS)])), (mr, .inl (cmr, 4, .inl fr)), (mc, .inl (cmc, 32, .inl fc))]) (wr := [(hk, .inr (5, [.ref kr, .ref kc, .int kp, .int kb, .int ki, .int ke, .int kl, .int ko, .int kt, .int (nI kS)])), (kr, .inl (ckr, 4, .inl kfr)), (kc, .inl (ckc, 32, .inl kfc))]) [0, 1, 2] [3, 4, 5] rfl rfl (by decide) (by decide) (by decide) (zk_runV X (C := R_M) (tysC := [(cmr, .int), (cmc, .int)]) (As := [.int (nI j)]) (rest := []) (c_M_stateOf l dC dI hm mr mc cmr cmc (nI j) fr fc mp mb mi me ml mo mt mS) [0, 1] rfl (ci := 5) rfl 0 rfl (zk_cwV 1 X.1.2.2.2.2 (zk_goodT tw_331) rfl rfl rfl (zk_m tw_328) (zk_m tw_329) (zk_m tw_330) (zk_m tw_8) rfl (by decide +kernel) ⟨Nat.le_of_ble_eq_true rfl, Nat.le_of_ble_eq_true rfl⟩) rfl rfl (Nat.le_of_ble_eq_true rfl) ⟨Nat.zero_le _, Nat.zero_le _⟩ d_M_looksLike_10) ?_
        rintro r10 ⟨⟩ w10
        refine zk_ws (ws' := [(hk, .inr (5, [.ref kr, .ref kc, .int kp, .int kb, .int ki, .int ke, .int kl, .int ko, .int kt, .int (nI kS)])), (kr, .inl (ckr, 4, .inl kfr)), (kc, .inl (ckc, 32, .inl kfc)), (hm, .inr (5, [.ref mr, .ref mc, .int mp, .int mb, .int mi, .int me, .int ml, .int mo, .int mt, .int (nI mS)])), (mr, .inl (cmr, 4, .inl fr)), (mc, .inl (cmc, 32, .inl fc))]) rfl ?_
        subst w10
        refine zk_aload_n (pc := 13) X d_M_looksLike_13 rfl (q := 1) rfl ?_
        refine zk_iload_n (pc := 14) X d_M_looksLike_14 rfl (q := 2) rfl ?_
        refine zk_calli (pc := 15) X (wc := [(hk, .inr (5, [.ref kr, .ref kc, .int kp, .int kb, .int ki, .int ke, .int kl, .int ko, .int kt, .int (nI kS)])), (kr, .inl (ckr, 4, .inl kfr)), (kc, .inl (ckc, 32, .inl kfc))]) (wr := [(hm, .inr (5, [.ref mr, .ref mc, .int mp, .int mb, .int mi, .int me, .int ml, .int mo, .int mt, .int (nI mS)])), (mr, .inl (cmr, 4, .inl fr)), (mc, .inl (cmc, 32, .inl fc))]) [0, 1, 2] [3, 4, 5] rfl rfl (by decide) (by decide) (by decide) (zk_runV X (C := R_M) (tysC := [(ckr, .int), (ckc, .int)]) (As := [.int (nI j)]) (rest := [.int (sp_M_stateOf (nI j) fr mp mi me mo mt mS)]) (c_M_stateOf l dC dI hk kr kc ckr ckc (nI j) kfr kfc kp kb ki ke kl ko kt kS) [2, 3] rfl (ci := 5) rfl 0 rfl (zk_cwV 1 X.1.2.2.2.2 (zk_goodT tw_331) rfl rfl rfl (zk_m tw_328) (zk_m tw_329) (zk_m tw_330) (zk_m tw_8) rfl (by decide +kernel) ⟨Nat.le_of_ble_eq_true rfl, Nat.le_of_ble_eq_true rfl⟩) rfl rfl (Nat.le_of_ble_eq_true rfl) ⟨Nat.zero_le _, Nat.zero_le _⟩ d_M_looksLike_15) ?_
        rintro r15 ⟨⟩ w15
        refine zk_ws (ws' := [(hm, .inr (5, [.ref mr, .ref mc, .int mp, .int mb, .int mi, .int me, .int ml, .int mo, .int mt, .int (nI mS)])), (mr, .inl (cmr, 4, .inl fr)), (mc, .inl (cmc, 32, .inl fc)), (hk, .inr (5, [.ref kr, .ref kc, .int kp, .int kb, .int ki, .int ke, .int kl, .int ko, .int kt, .int (nI kS)])), (kr, .inl (ckr, 4, .inl kfr)), (kc, .inl (ckc, 32, .inl kfc))]) rfl ?_
        subst w15
        refine zk_icmp_eq (pc := 18) X (tgt := 23) d_M_looksLike_18 (by decide) (fun h18 => ?_) (fun h18 => ?_)
        · have hq := hq.trans (if_pos h18)
          refine zk_iinc (pc := 23) X (k0 := 2) (v := nI (j + 1)) (lv' := [(2, .int (nI (j + 1))), (0, .ref hm), (1, .ref hk)]) d_M_looksLike_23 rfl (nI_add (j) 1) (by decide) rfl ?_
          refine zk_goto (pc := 26) X (tgt := 2) d_M_looksLike_26 (by decide) ?_
          refine zk_lv (lv' := [(0, .ref hm), (1, .ref hk), (2, .int (nI (j + 1)))]) [1, 2, 0] rfl ?_
          exact ih (j + 1) (by omega) (by omega) hq
        · have hq := hq.trans (if_neg h18)
          refine zk_iconst (pc := 21) X (v := 0) d_M_looksLike_21 rfl ?_
          exact zk_zret (pc := 22) X hQ hRt hLk rfl () hq.symm [0, 1, 2, 3, 4, 5] rfl (by decide) d_M_looksLike_22
  have hq := sp_M_looksLike.eq_1 fr fc mp mi me mo mt mS kfr kfc kp ki ke ko kt kS
  refine zk_lv (lv' := [(0, .ref hm), (1, .ref hk)]) [0, 1] rfl ?_
  refine zk_iconst (pc := 0) X (v := 0) d_M_looksLike_0 rfl ?_
  refine zk_istore_n (pc := 1) X (i := 2) (lv' := [(2, .int 0), (0, .ref hm), (1, .ref hk)]) d_M_looksLike_1 rfl (by decide) rfl ?_
  refine zk_lv (lv' := [(0, .ref hm), (1, .ref hk), (2, .int 0)]) [1, 2, 0] rfl ?_
  exact cut2 (11) 0 (by omega) (by omega) hq
def sp_A_fill_5 (v : Int32) (n : Nat) : Nat → Nat → (Nat → Int32) → (Nat → Int32)
  | 0, j, f1 => f1
  | fuel + 1, j, f1 =>
    if n ≤ j then
      f1
    else
      sp_A_fill_5 v n fuel (j + 1) (upd f1 j v)
def sp_A_fill (v : Int32) (f : Nat → Int32) (n : Nat) : (Nat → Int32) :=
  sp_A_fill_5 v n (n + 1) 0 f
abbrev rm_A_fill : Room := { frames := 0, cells := 0, slots := 0, locals := 0 }
set_option maxHeartbeats 4000000 in
set_option maxRecDepth 100000 in
theorem c_A_fill (l : Launch) (dC : Nat → ClassId) (dI : Nat → Nat → Nat) (q : Nat) (cQ : ClassId) (v : Int32) (f : Nat → Int32) (n : Nat) (hn : n ≤ 1000) : zk_Cv l y_A_fill w_A_fill rm_A_fill (dC, dI) vwCl [.ref q, .int v] [(q, .inl (cQ, n, .inl f))] [(cQ, .int)] (fun (u : (Nat → Int32)) => u = sp_A_fill v f n) (fun u => [(q, .inl (cQ, n, .inl u))]) := by
  refine zk_enterv (cc := b_A_fill) (maxL := 4) (ret := none) (by decide) rfl (Nat.le_of_ble_eq_true rfl) ?_
  intro p e s m args below meth c A Q hQ X hRt hLk
  have cut5 : ∀ (fuel : Nat) (j : Nat) (f1 : Nat → Int32), (j ≤ n) → n - j < fuel → sp_A_fill v f n = sp_A_fill_5 v n fuel j f1 → zk_Z p l e rm_A_fill s m args below meth c Q A (dC, dI) vwCl 4 0 0 [(q, .inl (cQ, n, .inl f1))] [(0, .ref q), (1, .int v), (2, .int (nI j)), (3, .int (nI n))] [] 5 := by
    intro fuel
    induction fuel with
    | zero => intro j f1 hjj hMs; exact absurd hMs (Nat.not_lt_zero _)
    | succ fuel ih =>
      intro j f1 hjj hMs hq
      rw [sp_A_fill_5] at hq
      refine zk_iload_n (pc := 5) X d_A_fill_5 rfl (q := 2) rfl ?_
      refine zk_iload_n (pc := 6) X d_A_fill_6 rfl (q := 3) rfl ?_
      refine zk_icmpN_ge (pc := 7) X (tgt := 20) (j) (n) rfl rfl (by omega) (by omega) d_A_fill_7 (by decide) (fun h7 => ?_) (fun h7 => ?_)
      · have hq := hq.trans (if_pos h7)
        exact zk_vret (pc := 20) X hQ hRt hLk f1 hq.symm [0] rfl (by decide) d_A_fill_20
      · have hq := hq.trans (if_neg h7)
        refine zk_aload_n (pc := 10) X d_A_fill_10 rfl (q := 0) rfl ?_
        refine zk_iload_n (pc := 11) X d_A_fill_11 rfl (q := 2) rfl ?_
        refine zk_iload_n (pc := 12) X d_A_fill_12 rfl (q := 1) rfl ?_
        refine zk_iast (pc := 13) X 0 0 (ws' := [(q, .inl (cQ, n, .inl (upd f1 j v)))]) (j) rfl rfl rfl (by omega) (by omega) d_A_fill_13 rfl ?_
        refine zk_iinc (pc := 14) X (k0 := 2) (v := nI (j + 1)) (lv' := [(2, .int (nI (j + 1))), (0, .ref q), (1, .int v), (3, .int (nI n))]) d_A_fill_14 rfl (nI_add (j) 1) (by decide) rfl ?_
        refine zk_goto (pc := 17) X (tgt := 5) d_A_fill_17 (by decide) ?_
        refine zk_lv (lv' := [(0, .ref q), (1, .int v), (2, .int (nI (j + 1))), (3, .int (nI n))]) [1, 2, 0, 3] rfl ?_
        exact ih (j + 1) (upd f1 j v) (by omega) (by omega) hq
  have hq := sp_A_fill.eq_1 v f n
  refine zk_lv (lv' := [(0, .ref q), (1, .int v)]) [0, 1] rfl ?_
  refine zk_iconst (pc := 0) X (v := 0) d_A_fill_0 rfl ?_
  refine zk_istore_n (pc := 1) X (i := 2) (lv' := [(2, .int 0), (0, .ref q), (1, .int v)]) d_A_fill_1 rfl (by decide) rfl ?_
  refine zk_aload_n (pc := 2) X d_A_fill_2 rfl (q := 1) rfl ?_
  refine zk_alen (pc := 3) X 0 0 (v := nI n) rfl rfl rfl d_A_fill_3 ?_
  refine zk_istore_n (pc := 4) X (i := 3) (lv' := [(3, .int (nI n)), (2, .int 0), (0, .ref q), (1, .int v)]) d_A_fill_4 rfl (by decide) rfl ?_
  refine zk_lv (lv' := [(0, .ref q), (1, .int v), (2, .int 0), (3, .int (nI n))]) [2, 3, 1, 0] rfl ?_
  exact cut5 (n + 1) 0 f (by omega) (by omega) hq
def sp_M_restart (seed : Int32) (fr : Nat → Int32) (fc : Nat → Int32) : (Nat → Int32) × (Nat → Int32) × Int32 × Int32 × Int32 × Int32 × Int32 × Int32 × Int32 × Nat :=
  (fun f_5 =>
    (fun f_13 =>
      (f_5, f_13, 0, 0, 0, 0, seed, 0, 0, 0)) (sp_A_fill 0 fc 32)) (sp_A_fill 0 fr 4)
abbrev rm_M_restart : Room := { frames := 1, cells := 0, slots := 0, locals := 23 }
set_option maxHeartbeats 4000000 in
set_option maxRecDepth 100000 in
theorem c_M_restart (l : Launch) (dC : Nat → ClassId) (dI : Nat → Nat → Nat) (hm mr mc : Nat) (cmr cmc : ClassId) (seed : Int32) (fr : Nat → Int32) (fc : Nat → Int32) (mp : Int32) (mb : Int32) (mi : Int32) (me : Int32) (ml : Int32) (mo : Int32) (mt : Int32) (mS : Nat) : zk_Cv l y_M_restart w_M_restart rm_M_restart (dC, dI) vwCl [.ref hm, .int seed] [(hm, .inr (5, [.ref mr, .ref mc, .int mp, .int mb, .int mi, .int me, .int ml, .int mo, .int mt, .int (nI mS)])), (mr, .inl (cmr, 4, .inl fr)), (mc, .inl (cmc, 32, .inl fc))] [(cmr, .int), (cmc, .int)] (fun (u : (Nat → Int32) × (Nat → Int32) × Int32 × Int32 × Int32 × Int32 × Int32 × Int32 × Int32 × Nat) => u = sp_M_restart seed fr fc) (fun u => [(hm, .inr (5, [.ref mr, .ref mc, .int u.2.2.1, .int u.2.2.2.1, .int u.2.2.2.2.1, .int u.2.2.2.2.2.1, .int u.2.2.2.2.2.2.1, .int u.2.2.2.2.2.2.2.1, .int u.2.2.2.2.2.2.2.2.1, .int (nI u.2.2.2.2.2.2.2.2.2)])), (mr, .inl (cmr, 4, .inl u.1)), (mc, .inl (cmc, 32, .inl u.2.1))]) := by
  refine zk_enterv (cc := b_M_restart) (maxL := 2) (ret := none) (by decide) rfl (Nat.le_of_ble_eq_true rfl) ?_
  intro p e s m args below meth c A Q hQ X hRt hLk
  have hq := sp_M_restart.eq_1 seed fr fc
  refine zk_lv (lv' := [(0, .ref hm), (1, .int seed)]) [0, 1] rfl ?_
  refine zk_aload_n (pc := 0) X d_M_restart_0 rfl (q := 0) rfl ?_
  refine zk_get (pc := 1) X (ci := 5) (v := .ref mr) in_M 0 rfl rfl 0 (by decide) (zk_m tw_120) rfl d_M_restart_1 ?_
  refine zk_iconst (pc := 4) X (v := 0) d_M_restart_4 rfl ?_
  refine zk_callv (pc := 5) X (wc := [(mr, .inl (cmr, 4, .inl fr))]) (wr := [(hm, .inr (5, [.ref mr, .ref mc, .int mp, .int mb, .int mi, .int me, .int ml, .int mo, .int mt, .int (nI mS)])), (mc, .inl (cmc, 32, .inl fc))]) [1] [0, 2] rfl rfl (by decide) (by decide) (by decide) (zk_runS X (tysC := [(cmr, .int)]) (As := [.ref mr, .int 0]) (rest := []) (c_A_fill l dC dI mr cmr 0 fr 4 (by omega)) [0] rfl (zk_cwS 2 X.1.2.2.2.2 (zk_goodT tw_178) rfl rfl rfl (zk_m tw_176) (zk_m tw_177) (zk_m tw_10) (by decide +kernel) ⟨Nat.le_of_ble_eq_true rfl, Nat.le_of_ble_eq_true rfl⟩) rfl rfl (Nat.le_of_ble_eq_true rfl) ⟨Nat.zero_le _, Nat.zero_le _⟩ d_M_restart_5) ?_
  rintro f_5 w5
  refine zk_ws (ws' := [(hm, .inr (5, [.ref mr, .ref mc, .int mp, .int mb, .int mi, .int me, .int ml, .int mo, .int mt, .int (nI mS)])), (mc, .inl (cmc, 32, .inl fc)), (mr, .inl (cmr, 4, .inl f_5))]) rfl ?_
  try dsimp only at w5
  rw [← w5] at hq
  try dsimp only at hq
  refine zk_aload_n (pc := 8) X d_M_restart_8 rfl (q := 0) rfl ?_
  refine zk_get (pc := 9) X (ci := 5) (v := .ref mc) in_M 0 rfl rfl 1 (by decide) (zk_m tw_121) rfl d_M_restart_9 ?_
  refine zk_iconst (pc := 12) X (v := 0) d_M_restart_12 rfl ?_
  refine zk_callv (pc := 13) X (wc := [(mc, .inl (cmc, 32, .inl fc))]) (wr := [(hm, .inr (5, [.ref mr, .ref mc, .int mp, .int mb, .int mi, .int me, .int ml, .int mo, .int mt, .int (nI mS)])), (mr, .inl (cmr, 4, .inl f_5))]) [1] [0, 2] rfl rfl (by decide) (by decide) (by decide) (zk_runS X (tysC := [(cmc, .int)]) (As := [.ref mc, .int 0]) (rest := []) (c_A_fill l dC dI mc cmc 0 fc 32 (by omega)) [1] rfl (zk_cwS 2 X.1.2.2.2.2 (zk_goodT tw_178) rfl rfl rfl (zk_m tw_176) (zk_m tw_177) (zk_m tw_10) (by decide +kernel) ⟨Nat.le_of_ble_eq_true rfl, Nat.le_of_ble_eq_true rfl⟩) rfl rfl (Nat.le_of_ble_eq_true rfl) ⟨Nat.zero_le _, Nat.zero_le _⟩ d_M_restart_13) ?_
  rintro f_13 w13
  refine zk_ws (ws' := [(hm, .inr (5, [.ref mr, .ref mc, .int mp, .int mb, .int mi, .int me, .int ml, .int mo, .int mt, .int (nI mS)])), (mr, .inl (cmr, 4, .inl f_5)), (mc, .inl (cmc, 32, .inl f_13))]) rfl ?_
  try dsimp only at w13
  rw [← w13] at hq
  try dsimp only at hq
  refine zk_aload_n (pc := 16) X d_M_restart_16 rfl (q := 0) rfl ?_
  refine zk_iconst (pc := 17) X (v := 0) d_M_restart_17 rfl ?_
  refine zk_put (pc := 18) X (ty := .int) (v := .int 0) (ws' := [(hm, .inr (5, [.ref mr, .ref mc, .int 0, .int mb, .int mi, .int me, .int ml, .int mo, .int mt, .int (nI mS)])), (mr, .inl (cmr, 4, .inl f_5)), (mc, .inl (cmc, 32, .inl f_13))]) in_M tok_M nok_M 0 rfl rfl 2 (by decide) (zk_m tw_122) rfl rfl rfl rfl (Nat.le_of_ble_eq_true rfl) d_M_restart_18 rfl ?_
  refine zk_aload_n (pc := 21) X d_M_restart_21 rfl (q := 0) rfl ?_
  refine zk_iconst (pc := 22) X (v := 0) d_M_restart_22 rfl ?_
  refine zk_put (pc := 23) X (ty := .int) (v := .int 0) (ws' := [(hm, .inr (5, [.ref mr, .ref mc, .int 0, .int 0, .int mi, .int me, .int ml, .int mo, .int mt, .int (nI mS)])), (mr, .inl (cmr, 4, .inl f_5)), (mc, .inl (cmc, 32, .inl f_13))]) in_M tok_M nok_M 0 rfl rfl 3 (by decide) (zk_m tw_123) rfl rfl rfl rfl (Nat.le_of_ble_eq_true rfl) d_M_restart_23 rfl ?_
  refine zk_aload_n (pc := 26) X d_M_restart_26 rfl (q := 0) rfl ?_
  refine zk_iconst (pc := 27) X (v := 0) d_M_restart_27 rfl ?_
  refine zk_put (pc := 28) X (ty := .boolean) (v := .int 0) (ws' := [(hm, .inr (5, [.ref mr, .ref mc, .int 0, .int 0, .int 0, .int me, .int ml, .int mo, .int mt, .int (nI mS)])), (mr, .inl (cmr, 4, .inl f_5)), (mc, .inl (cmc, 32, .inl f_13))]) in_M tok_M nok_M 0 rfl rfl 4 (by decide) (zk_m tw_124) rfl rfl rfl rfl (Nat.le_of_ble_eq_true rfl) d_M_restart_28 rfl ?_
  refine zk_aload_n (pc := 31) X d_M_restart_31 rfl (q := 0) rfl ?_
  refine zk_iconst (pc := 32) X (v := 0) d_M_restart_32 rfl ?_
  refine zk_put (pc := 33) X (ty := .boolean) (v := .int 0) (ws' := [(hm, .inr (5, [.ref mr, .ref mc, .int 0, .int 0, .int 0, .int 0, .int ml, .int mo, .int mt, .int (nI mS)])), (mr, .inl (cmr, 4, .inl f_5)), (mc, .inl (cmc, 32, .inl f_13))]) in_M tok_M nok_M 0 rfl rfl 5 (by decide) (zk_m tw_125) rfl rfl rfl rfl (Nat.le_of_ble_eq_true rfl) d_M_restart_33 rfl ?_
  refine zk_aload_n (pc := 36) X d_M_restart_36 rfl (q := 0) rfl ?_
  refine zk_iload_n (pc := 37) X d_M_restart_37 rfl (q := 1) rfl ?_
  refine zk_put (pc := 38) X (ty := .int) (v := .int seed) (ws' := [(hm, .inr (5, [.ref mr, .ref mc, .int 0, .int 0, .int 0, .int 0, .int seed, .int mo, .int mt, .int (nI mS)])), (mr, .inl (cmr, 4, .inl f_5)), (mc, .inl (cmc, 32, .inl f_13))]) in_M tok_M nok_M 0 rfl rfl 6 (by decide) (zk_m tw_126) rfl rfl rfl rfl (Nat.le_of_ble_eq_true rfl) d_M_restart_38 rfl ?_
  refine zk_aload_n (pc := 41) X d_M_restart_41 rfl (q := 0) rfl ?_
  refine zk_iconst (pc := 42) X (v := 0) d_M_restart_42 rfl ?_
  refine zk_put (pc := 43) X (ty := .int) (v := .int 0) (ws' := [(hm, .inr (5, [.ref mr, .ref mc, .int 0, .int 0, .int 0, .int 0, .int seed, .int 0, .int mt, .int (nI mS)])), (mr, .inl (cmr, 4, .inl f_5)), (mc, .inl (cmc, 32, .inl f_13))]) in_M tok_M nok_M 0 rfl rfl 7 (by decide) (zk_m tw_127) rfl rfl rfl rfl (Nat.le_of_ble_eq_true rfl) d_M_restart_43 rfl ?_
  refine zk_aload_n (pc := 46) X d_M_restart_46 rfl (q := 0) rfl ?_
  refine zk_iconst (pc := 47) X (v := 0) d_M_restart_47 rfl ?_
  refine zk_put (pc := 48) X (ty := .int) (v := .int 0) (ws' := [(hm, .inr (5, [.ref mr, .ref mc, .int 0, .int 0, .int 0, .int 0, .int seed, .int 0, .int 0, .int (nI mS)])), (mr, .inl (cmr, 4, .inl f_5)), (mc, .inl (cmc, 32, .inl f_13))]) in_M tok_M nok_M 0 rfl rfl 8 (by decide) (zk_m tw_128) rfl rfl rfl rfl (Nat.le_of_ble_eq_true rfl) d_M_restart_48 rfl ?_
  refine zk_aload_n (pc := 51) X d_M_restart_51 rfl (q := 0) rfl ?_
  refine zk_iconst (pc := 52) X (v := 0) d_M_restart_52 rfl ?_
  refine zk_put (pc := 53) X (ty := .int) (v := .int 0) (ws' := [(hm, .inr (5, [.ref mr, .ref mc, .int 0, .int 0, .int 0, .int 0, .int seed, .int 0, .int 0, .int 0])), (mr, .inl (cmr, 4, .inl f_5)), (mc, .inl (cmc, 32, .inl f_13))]) in_M tok_M nok_M 0 rfl rfl 9 (by decide) (zk_m tw_129) rfl rfl rfl rfl (Nat.le_of_ble_eq_true rfl) d_M_restart_53 rfl ?_
  exact zk_vret (pc := 56) X hQ hRt hLk (f_5, f_13, 0, 0, 0, 0, seed, 0, 0, 0) hq.symm [0, 1, 2] rfl (by decide) d_M_restart_56
