def sp_M_turn (o : Int32) (tested : Int32) (target : Int32) (mp : Int32) (mb : Int32) (mi : Int32) (me : Int32) : Int32 × Int32 × Int32 :=
  if o = 5 then
    (target, mi, me)
  else if o = 6 then
    if tested = 0 then
      (target, mi, me)
    else
      (mp, mi, me)
  else if o = 11 then
    if mi = 0 then
      (mp, mi, me)
    else
      (mb, 0, me)
  else (mp, mi, 1)
abbrev rm_M_turn : Room := { frames := 0, cells := 0, slots := 0, locals := 0 }
set_option maxHeartbeats 4000000 in
set_option maxRecDepth 100000 in
theorem c_M_turn (l : Launch) (dC : Nat → ClassId) (dI : Nat → Nat → Nat) (hm mr mc : Nat) (cmr cmc : ClassId) (o : Int32) (tested : Int32) (target : Int32) (fr : Nat → Int32) (fc : Nat → Int32) (mp : Int32) (mb : Int32) (mi : Int32) (me : Int32) (ml : Int32) (mo : Int32) (mt : Int32) (mS : Nat) : zk_Cv l y_M_turn w_M_turn rm_M_turn (dC, dI) vwCl [.ref hm, .int o, .int tested, .int target] [(hm, .inr (5, [.ref mr, .ref mc, .int mp, .int mb, .int mi, .int me, .int ml, .int mo, .int mt, .int (nI mS)])), (mr, .inl (cmr, 4, .inl fr)), (mc, .inl (cmc, 32, .inl fc))] [(cmr, .int), (cmc, .int)] (fun (u : Int32 × Int32 × Int32) => u = sp_M_turn o tested target mp mb mi me) (fun u => [(hm, .inr (5, [.ref mr, .ref mc, .int u.1, .int mb, .int u.2.1, .int u.2.2, .int ml, .int mo, .int mt, .int (nI mS)])), (mr, .inl (cmr, 4, .inl fr)), (mc, .inl (cmc, 32, .inl fc))]) := by
  refine zk_enterv (cc := b_M_turn) (maxL := 4) (ret := none) (by decide) rfl (Nat.le_of_ble_eq_true rfl) ?_
  intro p e s m args below meth c A Q hQ X hRt hLk
  have hq := sp_M_turn.eq_1 o tested target mp mb mi me
  refine zk_lv (lv' := [(0, .ref hm), (1, .int o), (2, .int tested), (3, .int target)]) [0, 1, 2, 3] rfl ?_
  refine zk_iload_n (pc := 0) X d_M_turn_0 rfl (q := 1) rfl ?_
  rcases Decidable.em (o = 5) with h1_5 | h1_5
  · have hq := hq.trans (if_pos h1_5)
    refine zk_lookup (pc := 1) X (tgt := 36) (off := 35) d_M_turn_1 (by decide) (by rw [h1_5]; try rfl) (by decide) ?_
    refine zk_aload_n (pc := 36) X d_M_turn_36 rfl (q := 0) rfl ?_
    refine zk_iload_n (pc := 37) X d_M_turn_37 rfl (q := 3) rfl ?_
    refine zk_put (pc := 38) X (ty := .int) (v := .int target) (ws' := [(hm, .inr (5, [.ref mr, .ref mc, .int target, .int mb, .int mi, .int me, .int ml, .int mo, .int mt, .int (nI mS)])), (mr, .inl (cmr, 4, .inl fr)), (mc, .inl (cmc, 32, .inl fc))]) in_M tok_M nok_M 0 rfl rfl 2 (by decide) (zk_m tw_122) rfl rfl rfl rfl (Nat.le_of_ble_eq_true rfl) d_M_turn_38 rfl ?_
    refine zk_goto (pc := 41) X (tgt := 84) d_M_turn_41 (by decide) ?_
    exact zk_vret (pc := 84) X hQ hRt hLk (target, mi, me) hq.symm [0, 1, 2] rfl (by decide) d_M_turn_84
  · have hq := hq.trans (if_neg h1_5)
    rcases Decidable.em (o = 6) with h1_6 | h1_6
    · have hq := hq.trans (if_pos h1_6)
      refine zk_lookup (pc := 1) X (tgt := 44) (off := 43) d_M_turn_1 (by decide) (by rw [h1_6]; try rfl) (by decide) ?_
      refine zk_iload_n (pc := 44) X d_M_turn_44 rfl (q := 2) rfl ?_
      refine zk_if_ne (pc := 45) X (tgt := 84) d_M_turn_45 (by decide) (fun h45 => ?_) (fun h45 => ?_)
      · have hq := hq.trans (if_neg h45)
        exact zk_vret (pc := 84) X hQ hRt hLk (mp, mi, me) hq.symm [0, 1, 2] rfl (by decide) d_M_turn_84
      · have hq := hq.trans (if_pos h45)
        refine zk_aload_n (pc := 48) X d_M_turn_48 rfl (q := 0) rfl ?_
        refine zk_iload_n (pc := 49) X d_M_turn_49 rfl (q := 3) rfl ?_
        refine zk_put (pc := 50) X (ty := .int) (v := .int target) (ws' := [(hm, .inr (5, [.ref mr, .ref mc, .int target, .int mb, .int mi, .int me, .int ml, .int mo, .int mt, .int (nI mS)])), (mr, .inl (cmr, 4, .inl fr)), (mc, .inl (cmc, 32, .inl fc))]) in_M tok_M nok_M 0 rfl rfl 2 (by decide) (zk_m tw_122) rfl rfl rfl rfl (Nat.le_of_ble_eq_true rfl) d_M_turn_50 rfl ?_
        refine zk_goto (pc := 53) X (tgt := 84) d_M_turn_53 (by decide) ?_
        exact zk_vret (pc := 84) X hQ hRt hLk (target, mi, me) hq.symm [0, 1, 2] rfl (by decide) d_M_turn_84
    · have hq := hq.trans (if_neg h1_6)
      rcases Decidable.em (o = 11) with h1_11 | h1_11
      · have hq := hq.trans (if_pos h1_11)
        refine zk_lookup (pc := 1) X (tgt := 56) (off := 55) d_M_turn_1 (by decide) (by rw [h1_11]; try rfl) (by decide) ?_
        refine zk_aload_n (pc := 56) X d_M_turn_56 rfl (q := 0) rfl ?_
        refine zk_get (pc := 57) X (ci := 5) (v := .int mi) in_M 0 rfl rfl 4 (by decide) (zk_m tw_124) rfl d_M_turn_57 ?_
        refine zk_if_eq (pc := 60) X (tgt := 84) d_M_turn_60 (by decide) (fun h60 => ?_) (fun h60 => ?_)
        · have hq := hq.trans (if_pos h60)
          exact zk_vret (pc := 84) X hQ hRt hLk (mp, mi, me) hq.symm [0, 1, 2] rfl (by decide) d_M_turn_84
        · have hq := hq.trans (if_neg h60)
          refine zk_aload_n (pc := 63) X d_M_turn_63 rfl (q := 0) rfl ?_
          refine zk_aload_n (pc := 64) X d_M_turn_64 rfl (q := 0) rfl ?_
          refine zk_get (pc := 65) X (ci := 5) (v := .int mb) in_M 0 rfl rfl 3 (by decide) (zk_m tw_123) rfl d_M_turn_65 ?_
          refine zk_put (pc := 68) X (ty := .int) (v := .int mb) (ws' := [(hm, .inr (5, [.ref mr, .ref mc, .int mb, .int mb, .int mi, .int me, .int ml, .int mo, .int mt, .int (nI mS)])), (mr, .inl (cmr, 4, .inl fr)), (mc, .inl (cmc, 32, .inl fc))]) in_M tok_M nok_M 0 rfl rfl 2 (by decide) (zk_m tw_122) rfl rfl rfl rfl (Nat.le_of_ble_eq_true rfl) d_M_turn_68 rfl ?_
          refine zk_aload_n (pc := 71) X d_M_turn_71 rfl (q := 0) rfl ?_
          refine zk_iconst (pc := 72) X (v := 0) d_M_turn_72 rfl ?_
          refine zk_put (pc := 73) X (ty := .boolean) (v := .int 0) (ws' := [(hm, .inr (5, [.ref mr, .ref mc, .int mb, .int mb, .int 0, .int me, .int ml, .int mo, .int mt, .int (nI mS)])), (mr, .inl (cmr, 4, .inl fr)), (mc, .inl (cmc, 32, .inl fc))]) in_M tok_M nok_M 0 rfl rfl 4 (by decide) (zk_m tw_124) rfl rfl rfl rfl (Nat.le_of_ble_eq_true rfl) d_M_turn_73 rfl ?_
          refine zk_goto (pc := 76) X (tgt := 84) d_M_turn_76 (by decide) ?_
          exact zk_vret (pc := 84) X hQ hRt hLk (mb, 0, me) hq.symm [0, 1, 2] rfl (by decide) d_M_turn_84
      · have hq := hq.trans (if_neg h1_11)
        refine zk_lookup (pc := 1) X (tgt := 79) (off := 78) d_M_turn_1 (by decide) (by show Op.lookupswitch.offset [(5, 35), (6, 43), (11, 55)] 78 _ = _; rw [lv_osw (k := 5) (a := 5) h1_5 (by decide), lv_osw (k := 6) (a := 6) h1_6 (by decide), lv_osw (k := 11) (a := 11) h1_11 (by decide)]; try rfl) (by decide) ?_
        refine zk_aload_n (pc := 79) X d_M_turn_79 rfl (q := 0) rfl ?_
        refine zk_iconst (pc := 80) X (v := 1) d_M_turn_80 rfl ?_
        refine zk_put (pc := 81) X (ty := .boolean) (v := .int 1) (ws' := [(hm, .inr (5, [.ref mr, .ref mc, .int mp, .int mb, .int mi, .int 1, .int ml, .int mo, .int mt, .int (nI mS)])), (mr, .inl (cmr, 4, .inl fr)), (mc, .inl (cmc, 32, .inl fc))]) in_M tok_M nok_M 0 rfl rfl 5 (by decide) (zk_m tw_125) rfl rfl rfl rfl (Nat.le_of_ble_eq_true rfl) d_M_turn_81 rfl ?_
        exact zk_vret (pc := 84) X hQ hRt hLk (mp, mi, 1) hq.symm [0, 1, 2] rfl (by decide) d_M_turn_84
def sp_M_followTrace_14 (fr : Nat → Int32) (mo : Int32) (mt : Int32) : Nat → Int32 → Nat → Int32
  | 0, h, j => mt
  | fuel + 1, h, j =>
    if 4 ≤ j then
      (sp_X_mix h mo)
    else
      sp_M_followTrace_14 fr mo mt fuel (sp_X_mix h (fr j)) (j + 1)
def sp_M_followTrace (fr : Nat → Int32) (mp : Int32) (mo : Int32) (mt : Int32) : Int32 :=
  sp_M_followTrace_14 fr mo mt 5 (sp_X_mix mt mp) 0
abbrev rm_M_followTrace : Room := { frames := 1, cells := 0, slots := 0, locals := 21 }
set_option maxHeartbeats 4000000 in
set_option maxRecDepth 100000 in
theorem c_M_followTrace (l : Launch) (dC : Nat → ClassId) (dI : Nat → Nat → Nat) (hm mr mc : Nat) (cmr cmc : ClassId) (fr : Nat → Int32) (fc : Nat → Int32) (mp : Int32) (mb : Int32) (mi : Int32) (me : Int32) (ml : Int32) (mo : Int32) (mt : Int32) (mS : Nat) : zk_Cv l y_M_followTrace w_M_followTrace rm_M_followTrace (dC, dI) vwCl [.ref hm] [(hm, .inr (5, [.ref mr, .ref mc, .int mp, .int mb, .int mi, .int me, .int ml, .int mo, .int mt, .int (nI mS)])), (mr, .inl (cmr, 4, .inl fr)), (mc, .inl (cmc, 32, .inl fc))] [(cmr, .int), (cmc, .int)] (fun (u : Int32) => u = sp_M_followTrace fr mp mo mt) (fun u => [(hm, .inr (5, [.ref mr, .ref mc, .int mp, .int mb, .int mi, .int me, .int ml, .int mo, .int u, .int (nI mS)])), (mr, .inl (cmr, 4, .inl fr)), (mc, .inl (cmc, 32, .inl fc))]) := by
  refine zk_enterv (cc := b_M_followTrace) (maxL := 3) (ret := none) (by decide) rfl (Nat.le_of_ble_eq_true rfl) ?_
  intro p e s m args below meth c A Q hQ X hRt hLk
  have cut14 : ∀ (fuel : Nat) (h : Int32) (j : Nat), (j ≤ 4) → 4 - j < fuel → sp_M_followTrace fr mp mo mt = sp_M_followTrace_14 fr mo mt fuel h j → zk_Z p l e rm_M_followTrace s m args below meth c Q A (dC, dI) vwCl 3 0 0 [(hm, .inr (5, [.ref mr, .ref mc, .int mp, .int mb, .int mi, .int me, .int ml, .int mo, .int mt, .int (nI mS)])), (mr, .inl (cmr, 4, .inl fr)), (mc, .inl (cmc, 32, .inl fc))] [(0, .ref hm), (1, .int h), (2, .int (nI j))] [] 14 := by
    intro fuel
    induction fuel with
    | zero => intro h j hjj hMs; exact absurd hMs (Nat.not_lt_zero _)
    | succ fuel ih =>
      intro h j hjj hMs hq
      rw [sp_M_followTrace_14] at hq
      refine zk_iload_n (pc := 14) X d_M_followTrace_14 rfl (q := 2) rfl ?_
      refine zk_iconst (pc := 15) X (v := 4) d_M_followTrace_15 rfl ?_
      refine zk_icmpN_ge (pc := 16) X (tgt := 36) (j) (4) rfl rfl (by omega) (by omega) d_M_followTrace_16 (by decide) (fun h16 => ?_) (fun h16 => ?_)
      · have hq := hq.trans (if_pos h16)
        refine zk_aload_n (pc := 36) X d_M_followTrace_36 rfl (q := 0) rfl ?_
        refine zk_iload_n (pc := 37) X d_M_followTrace_37 rfl (q := 1) rfl ?_
        refine zk_aload_n (pc := 38) X d_M_followTrace_38 rfl (q := 0) rfl ?_
        refine zk_get (pc := 39) X (ci := 5) (v := .int mo) in_M 0 rfl rfl 7 (by decide) (zk_m tw_127) rfl d_M_followTrace_39 ?_
        refine zk_calli (pc := 42) X (wc := []) (wr := [(hm, .inr (5, [.ref mr, .ref mc, .int mp, .int mb, .int mi, .int me, .int ml, .int mo, .int mt, .int (nI mS)])), (mr, .inl (cmr, 4, .inl fr)), (mc, .inl (cmc, 32, .inl fc))]) [] [0, 1, 2] rfl rfl (by decide) (by decide) (by decide) (zk_runSN X (tysC := []) (As := [.int h, .int mo]) (rest := [.ref hm]) (c_X_mix l dC dI h mo) [] rfl ⟨va_cnB 2 X.1.2.2.2.2 (zk_goodT tw_233) rfl rfl rfl X.2.2.2.2.2.2.2.2.2.2.2 (X.1.2.2.2.2 _ (zk_m tw_1)) (by decide +kernel) ⟨Nat.le_of_ble_eq_true rfl, Nat.le_of_ble_eq_true rfl⟩, X.1.2.2.2.2 _ (zk_m tw_232), trivial⟩ rfl rfl (Nat.le_of_ble_eq_true rfl) ⟨Nat.zero_le _, Nat.zero_le _⟩ d_M_followTrace_42) ?_
        rintro r42 ⟨⟩ w42
        refine zk_ws (ws' := [(hm, .inr (5, [.ref mr, .ref mc, .int mp, .int mb, .int mi, .int me, .int ml, .int mo, .int mt, .int (nI mS)])), (mr, .inl (cmr, 4, .inl fr)), (mc, .inl (cmc, 32, .inl fc))]) rfl ?_
        subst w42
        refine zk_put (pc := 45) X (ty := .int) (v := .int (sp_X_mix h mo)) (ws' := [(hm, .inr (5, [.ref mr, .ref mc, .int mp, .int mb, .int mi, .int me, .int ml, .int mo, .int (sp_X_mix h mo), .int (nI mS)])), (mr, .inl (cmr, 4, .inl fr)), (mc, .inl (cmc, 32, .inl fc))]) in_M tok_M nok_M 0 rfl rfl 8 (by decide) (zk_m tw_128) rfl rfl rfl rfl (Nat.le_of_ble_eq_true rfl) d_M_followTrace_45 rfl ?_
        exact zk_vret (pc := 48) X hQ hRt hLk (sp_X_mix h mo) hq.symm [0, 1, 2] rfl (by decide) d_M_followTrace_48
      · have hq := hq.trans (if_neg h16)
        refine zk_iload_n (pc := 19) X d_M_followTrace_19 rfl (q := 1) rfl ?_
        refine zk_aload_n (pc := 20) X d_M_followTrace_20 rfl (q := 0) rfl ?_
        refine zk_get (pc := 21) X (ci := 5) (v := .ref mr) in_M 0 rfl rfl 0 (by decide) (zk_m tw_120) rfl d_M_followTrace_21 ?_
        refine zk_iload_n (pc := 24) X d_M_followTrace_24 rfl (q := 2) rfl ?_
        refine zk_iald (pc := 25) X 1 0 (j) rfl rfl rfl (by omega) (by decide) d_M_followTrace_25 ?_
        refine zk_calli (pc := 26) X (wc := []) (wr := [(hm, .inr (5, [.ref mr, .ref mc, .int mp, .int mb, .int mi, .int me, .int ml, .int mo, .int mt, .int (nI mS)])), (mr, .inl (cmr, 4, .inl fr)), (mc, .inl (cmc, 32, .inl fc))]) [] [0, 1, 2] rfl rfl (by decide) (by decide) (by decide) (zk_runSN X (tysC := []) (As := [.int h, .int (fr j)]) (rest := []) (c_X_mix l dC dI h (fr j)) [] rfl ⟨va_cnB 2 X.1.2.2.2.2 (zk_goodT tw_233) rfl rfl rfl X.2.2.2.2.2.2.2.2.2.2.2 (X.1.2.2.2.2 _ (zk_m tw_1)) (by decide +kernel) ⟨Nat.le_of_ble_eq_true rfl, Nat.le_of_ble_eq_true rfl⟩, X.1.2.2.2.2 _ (zk_m tw_232), trivial⟩ rfl rfl (Nat.le_of_ble_eq_true rfl) ⟨Nat.zero_le _, Nat.zero_le _⟩ d_M_followTrace_26) ?_
        rintro r26 ⟨⟩ w26
        refine zk_ws (ws' := [(hm, .inr (5, [.ref mr, .ref mc, .int mp, .int mb, .int mi, .int me, .int ml, .int mo, .int mt, .int (nI mS)])), (mr, .inl (cmr, 4, .inl fr)), (mc, .inl (cmc, 32, .inl fc))]) rfl ?_
        subst w26
        refine zk_istore_n (pc := 29) X (i := 1) (lv' := [(1, .int (sp_X_mix h (fr j))), (0, .ref hm), (2, .int (nI j))]) d_M_followTrace_29 rfl (by decide) rfl ?_
        refine zk_iinc (pc := 30) X (k0 := 2) (v := nI (j + 1)) (lv' := [(2, .int (nI (j + 1))), (1, .int (sp_X_mix h (fr j))), (0, .ref hm)]) d_M_followTrace_30 rfl (nI_add (j) 1) (by decide) rfl ?_
        refine zk_goto (pc := 33) X (tgt := 14) d_M_followTrace_33 (by decide) ?_
        refine zk_lv (lv' := [(0, .ref hm), (1, .int (sp_X_mix h (fr j))), (2, .int (nI (j + 1)))]) [2, 1, 0] rfl ?_
        exact ih (sp_X_mix h (fr j)) (j + 1) (by omega) (by omega) hq
  have hq := sp_M_followTrace.eq_1 fr mp mo mt
  refine zk_lv (lv' := [(0, .ref hm)]) [0] rfl ?_
  refine zk_aload_n (pc := 0) X d_M_followTrace_0 rfl (q := 0) rfl ?_
  refine zk_get (pc := 1) X (ci := 5) (v := .int mt) in_M 0 rfl rfl 8 (by decide) (zk_m tw_128) rfl d_M_followTrace_1 ?_
  refine zk_aload_n (pc := 4) X d_M_followTrace_4 rfl (q := 0) rfl ?_
  refine zk_get (pc := 5) X (ci := 5) (v := .int mp) in_M 0 rfl rfl 2 (by decide) (zk_m tw_122) rfl d_M_followTrace_5 ?_
  refine zk_calli (pc := 8) X (wc := []) (wr := [(hm, .inr (5, [.ref mr, .ref mc, .int mp, .int mb, .int mi, .int me, .int ml, .int mo, .int mt, .int (nI mS)])), (mr, .inl (cmr, 4, .inl fr)), (mc, .inl (cmc, 32, .inl fc))]) [] [0, 1, 2] rfl rfl (by decide) (by decide) (by decide) (zk_runSN X (tysC := []) (As := [.int mt, .int mp]) (rest := []) (c_X_mix l dC dI mt mp) [] rfl ⟨va_cnB 2 X.1.2.2.2.2 (zk_goodT tw_233) rfl rfl rfl X.2.2.2.2.2.2.2.2.2.2.2 (X.1.2.2.2.2 _ (zk_m tw_1)) (by decide +kernel) ⟨Nat.le_of_ble_eq_true rfl, Nat.le_of_ble_eq_true rfl⟩, X.1.2.2.2.2 _ (zk_m tw_232), trivial⟩ rfl rfl (Nat.le_of_ble_eq_true rfl) ⟨Nat.zero_le _, Nat.zero_le _⟩ d_M_followTrace_8) ?_
  rintro r8 ⟨⟩ w8
  refine zk_ws (ws' := [(hm, .inr (5, [.ref mr, .ref mc, .int mp, .int mb, .int mi, .int me, .int ml, .int mo, .int mt, .int (nI mS)])), (mr, .inl (cmr, 4, .inl fr)), (mc, .inl (cmc, 32, .inl fc))]) rfl ?_
  subst w8
  refine zk_istore_n (pc := 11) X (i := 1) (lv' := [(1, .int (sp_X_mix mt mp)), (0, .ref hm)]) d_M_followTrace_11 rfl (by decide) rfl ?_
  refine zk_iconst (pc := 12) X (v := 0) d_M_followTrace_12 rfl ?_
  refine zk_istore_n (pc := 13) X (i := 2) (lv' := [(2, .int 0), (1, .int (sp_X_mix mt mp)), (0, .ref hm)]) d_M_followTrace_13 rfl (by decide) rfl ?_
  refine zk_lv (lv' := [(0, .ref hm), (1, .int (sp_X_mix mt mp)), (2, .int 0)]) [2, 1, 0] rfl ?_
  exact cut14 (5) (sp_X_mix mt mp) 0 (by omega) (by omega) hq
def sp_M_stateOf (i : Int32) (fr : Nat → Int32) (mp : Int32) (mi : Int32) (me : Int32) (mo : Int32) (mt : Int32) (mS : Nat) : Int32 :=
  if i < 0 then
    if i = 4 then
      mp
    else if i = 5 then
      mo
    else if i = 6 then
      mt
    else if i = 7 then
      if mi = 0 then
        0
      else
        1
    else if i = 8 then
      if me = 0 then
        0
      else
        1
    else if i = 9 then
      nI mS
    else 0
  else
    if (4 : Int32) ≤ i then
      if i = 4 then
        mp
      else if i = 5 then
        mo
      else if i = 6 then
        mt
      else if i = 7 then
        if mi = 0 then
          0
        else
          1
      else if i = 8 then
        if me = 0 then
          0
        else
          1
      else if i = 9 then
        nI mS
      else 0
    else
      (fr i.toNatClampNeg)
abbrev rm_M_stateOf : Room := { frames := 0, cells := 0, slots := 0, locals := 0 }
set_option maxHeartbeats 4000000 in
set_option maxRecDepth 100000 in
theorem c_M_stateOf (l : Launch) (dC : Nat → ClassId) (dI : Nat → Nat → Nat) (hm mr mc : Nat) (cmr cmc : ClassId) (i : Int32) (fr : Nat → Int32) (fc : Nat → Int32) (mp : Int32) (mb : Int32) (mi : Int32) (me : Int32) (ml : Int32) (mo : Int32) (mt : Int32) (mS : Nat) : zk_Ci l y_M_stateOf w_M_stateOf rm_M_stateOf (dC, dI) vwCl [.ref hm, .int i] [(hm, .inr (5, [.ref mr, .ref mc, .int mp, .int mb, .int mi, .int me, .int ml, .int mo, .int mt, .int (nI mS)])), (mr, .inl (cmr, 4, .inl fr)), (mc, .inl (cmc, 32, .inl fc))] [(cmr, .int), (cmc, .int)] (fun (r : Int32) (u : Unit) => r = sp_M_stateOf i fr mp mi me mo mt mS) (fun _ => [(hm, .inr (5, [.ref mr, .ref mc, .int mp, .int mb, .int mi, .int me, .int ml, .int mo, .int mt, .int (nI mS)])), (mr, .inl (cmr, 4, .inl fr)), (mc, .inl (cmc, 32, .inl fc))]) := by
  refine zk_enteri (cc := b_M_stateOf) (maxL := 2) (ret := some .int) (by decide) rfl (Nat.le_of_ble_eq_true rfl) ?_
  intro p e s m args below meth c A Q hQ X hRt hLk
  have hq := sp_M_stateOf.eq_1 i fr mp mi me mo mt mS
  refine zk_lv (lv' := [(0, .ref hm), (1, .int i)]) [0, 1] rfl ?_
  refine zk_iload_n (pc := 0) X d_M_stateOf_0 rfl (q := 1) rfl ?_
  refine zk_if_lt (pc := 1) X (tgt := 16) d_M_stateOf_1 (by decide) (fun h1 => ?_) (fun h1 => ?_)
  · have hq := hq.trans (if_pos h1)
    refine zk_iload_n (pc := 16) X d_M_stateOf_16 rfl (q := 1) rfl ?_
    rcases Decidable.em (i = 4) with h17_4 | h17_4
    · have hq := hq.trans (if_pos h17_4)
      refine zk_tableIn (pc := 17) X (tgt := 56) 4 h17_4 d_M_stateOf_17 (by decide) (by decide) rfl (by decide) ?_
      refine zk_aload_n (pc := 56) X d_M_stateOf_56 rfl (q := 0) rfl ?_
      refine zk_get (pc := 57) X (ci := 5) (v := .int mp) in_M 0 rfl rfl 2 (by decide) (zk_m tw_122) rfl d_M_stateOf_57 ?_
      exact zk_iret (pc := 60) X hQ hRt hLk () hq.symm [0, 1, 2] rfl (by decide) d_M_stateOf_60
    · have hq := hq.trans (if_neg h17_4)
      rcases Decidable.em (i = 5) with h17_5 | h17_5
      · have hq := hq.trans (if_pos h17_5)
        refine zk_tableIn (pc := 17) X (tgt := 61) 5 h17_5 d_M_stateOf_17 (by decide) (by decide) rfl (by decide) ?_
        refine zk_aload_n (pc := 61) X d_M_stateOf_61 rfl (q := 0) rfl ?_
        refine zk_get (pc := 62) X (ci := 5) (v := .int mo) in_M 0 rfl rfl 7 (by decide) (zk_m tw_127) rfl d_M_stateOf_62 ?_
        exact zk_iret (pc := 65) X hQ hRt hLk () hq.symm [0, 1, 2] rfl (by decide) d_M_stateOf_65
      · have hq := hq.trans (if_neg h17_5)
        rcases Decidable.em (i = 6) with h17_6 | h17_6
        · have hq := hq.trans (if_pos h17_6)
          refine zk_tableIn (pc := 17) X (tgt := 66) 6 h17_6 d_M_stateOf_17 (by decide) (by decide) rfl (by decide) ?_
          refine zk_aload_n (pc := 66) X d_M_stateOf_66 rfl (q := 0) rfl ?_
          refine zk_get (pc := 67) X (ci := 5) (v := .int mt) in_M 0 rfl rfl 8 (by decide) (zk_m tw_128) rfl d_M_stateOf_67 ?_
          exact zk_iret (pc := 70) X hQ hRt hLk () hq.symm [0, 1, 2] rfl (by decide) d_M_stateOf_70
        · have hq := hq.trans (if_neg h17_6)
          rcases Decidable.em (i = 7) with h17_7 | h17_7
          · have hq := hq.trans (if_pos h17_7)
            refine zk_tableIn (pc := 17) X (tgt := 71) 7 h17_7 d_M_stateOf_17 (by decide) (by decide) rfl (by decide) ?_
            refine zk_aload_n (pc := 71) X d_M_stateOf_71 rfl (q := 0) rfl ?_
            refine zk_get (pc := 72) X (ci := 5) (v := .int mi) in_M 0 rfl rfl 4 (by decide) (zk_m tw_124) rfl d_M_stateOf_72 ?_
            refine zk_if_eq (pc := 75) X (tgt := 82) d_M_stateOf_75 (by decide) (fun h75 => ?_) (fun h75 => ?_)
            · have hq := hq.trans (if_pos h75)
              refine zk_iconst (pc := 82) X (v := 0) d_M_stateOf_82 rfl ?_
              exact zk_iret (pc := 83) X hQ hRt hLk () hq.symm [0, 1, 2] rfl (by decide) d_M_stateOf_83
            · have hq := hq.trans (if_neg h75)
              refine zk_iconst (pc := 78) X (v := 1) d_M_stateOf_78 rfl ?_
              refine zk_goto (pc := 79) X (tgt := 83) d_M_stateOf_79 (by decide) ?_
              exact zk_iret (pc := 83) X hQ hRt hLk () hq.symm [0, 1, 2] rfl (by decide) d_M_stateOf_83
          · have hq := hq.trans (if_neg h17_7)
            rcases Decidable.em (i = 8) with h17_8 | h17_8
            · have hq := hq.trans (if_pos h17_8)
              refine zk_tableIn (pc := 17) X (tgt := 84) 8 h17_8 d_M_stateOf_17 (by decide) (by decide) rfl (by decide) ?_
              refine zk_aload_n (pc := 84) X d_M_stateOf_84 rfl (q := 0) rfl ?_
              refine zk_get (pc := 85) X (ci := 5) (v := .int me) in_M 0 rfl rfl 5 (by decide) (zk_m tw_125) rfl d_M_stateOf_85 ?_
              refine zk_if_eq (pc := 88) X (tgt := 95) d_M_stateOf_88 (by decide) (fun h88 => ?_) (fun h88 => ?_)
              · have hq := hq.trans (if_pos h88)
                refine zk_iconst (pc := 95) X (v := 0) d_M_stateOf_95 rfl ?_
                exact zk_iret (pc := 96) X hQ hRt hLk () hq.symm [0, 1, 2] rfl (by decide) d_M_stateOf_96
              · have hq := hq.trans (if_neg h88)
                refine zk_iconst (pc := 91) X (v := 1) d_M_stateOf_91 rfl ?_
                refine zk_goto (pc := 92) X (tgt := 96) d_M_stateOf_92 (by decide) ?_
                exact zk_iret (pc := 96) X hQ hRt hLk () hq.symm [0, 1, 2] rfl (by decide) d_M_stateOf_96
            · have hq := hq.trans (if_neg h17_8)
              rcases Decidable.em (i = 9) with h17_9 | h17_9
              · have hq := hq.trans (if_pos h17_9)
                refine zk_tableIn (pc := 17) X (tgt := 97) 9 h17_9 d_M_stateOf_17 (by decide) (by decide) rfl (by decide) ?_
                refine zk_aload_n (pc := 97) X d_M_stateOf_97 rfl (q := 0) rfl ?_
                refine zk_get (pc := 98) X (ci := 5) (v := .int (nI mS)) in_M 0 rfl rfl 9 (by decide) (zk_m tw_129) rfl d_M_stateOf_98 ?_
                exact zk_iret (pc := 101) X hQ hRt hLk () hq.symm [0, 1, 2] rfl (by decide) d_M_stateOf_101
              · have hq := hq.trans (if_neg h17_9)
                refine zk_tableOut (pc := 17) X (tgt := 102) d_M_stateOf_17 (by have g0 := lv_neT (k := 4) (a := 4) h17_4 (by decide); have g1 := lv_neT (k := 5) (a := 5) h17_5 (by decide); have g2 := lv_neT (k := 6) (a := 6) h17_6 (by decide); have g3 := lv_neT (k := 7) (a := 7) h17_7 (by decide); have g4 := lv_neT (k := 8) (a := 8) h17_8 (by decide); have g5 := lv_neT (k := 9) (a := 9) h17_9 (by decide); omega) (by decide) ?_
                refine zk_iconst (pc := 102) X (v := 0) d_M_stateOf_102 rfl ?_
                exact zk_iret (pc := 103) X hQ hRt hLk () hq.symm [0, 1, 2] rfl (by decide) d_M_stateOf_103
  · have hq := hq.trans (if_neg h1)
    refine zk_iload_n (pc := 4) X d_M_stateOf_4 rfl (q := 1) rfl ?_
    refine zk_iconst (pc := 5) X (v := 4) d_M_stateOf_5 rfl ?_
    refine zk_icmp_ge (pc := 6) X (tgt := 16) d_M_stateOf_6 (by decide) (fun h6 => ?_) (fun h6 => ?_)
    · have hq := hq.trans (if_pos h6)
      refine zk_iload_n (pc := 16) X d_M_stateOf_16 rfl (q := 1) rfl ?_
      rcases Decidable.em (i = 4) with h17_4 | h17_4
      · have hq := hq.trans (if_pos h17_4)
        refine zk_tableIn (pc := 17) X (tgt := 56) 4 h17_4 d_M_stateOf_17 (by decide) (by decide) rfl (by decide) ?_
        refine zk_aload_n (pc := 56) X d_M_stateOf_56 rfl (q := 0) rfl ?_
        refine zk_get (pc := 57) X (ci := 5) (v := .int mp) in_M 0 rfl rfl 2 (by decide) (zk_m tw_122) rfl d_M_stateOf_57 ?_
        exact zk_iret (pc := 60) X hQ hRt hLk () hq.symm [0, 1, 2] rfl (by decide) d_M_stateOf_60
      · have hq := hq.trans (if_neg h17_4)
        rcases Decidable.em (i = 5) with h17_5 | h17_5
        · have hq := hq.trans (if_pos h17_5)
          refine zk_tableIn (pc := 17) X (tgt := 61) 5 h17_5 d_M_stateOf_17 (by decide) (by decide) rfl (by decide) ?_
          refine zk_aload_n (pc := 61) X d_M_stateOf_61 rfl (q := 0) rfl ?_
          refine zk_get (pc := 62) X (ci := 5) (v := .int mo) in_M 0 rfl rfl 7 (by decide) (zk_m tw_127) rfl d_M_stateOf_62 ?_
          exact zk_iret (pc := 65) X hQ hRt hLk () hq.symm [0, 1, 2] rfl (by decide) d_M_stateOf_65
        · have hq := hq.trans (if_neg h17_5)
          rcases Decidable.em (i = 6) with h17_6 | h17_6
          · have hq := hq.trans (if_pos h17_6)
            refine zk_tableIn (pc := 17) X (tgt := 66) 6 h17_6 d_M_stateOf_17 (by decide) (by decide) rfl (by decide) ?_
            refine zk_aload_n (pc := 66) X d_M_stateOf_66 rfl (q := 0) rfl ?_
            refine zk_get (pc := 67) X (ci := 5) (v := .int mt) in_M 0 rfl rfl 8 (by decide) (zk_m tw_128) rfl d_M_stateOf_67 ?_
            exact zk_iret (pc := 70) X hQ hRt hLk () hq.symm [0, 1, 2] rfl (by decide) d_M_stateOf_70
          · have hq := hq.trans (if_neg h17_6)
            rcases Decidable.em (i = 7) with h17_7 | h17_7
            · have hq := hq.trans (if_pos h17_7)
              refine zk_tableIn (pc := 17) X (tgt := 71) 7 h17_7 d_M_stateOf_17 (by decide) (by decide) rfl (by decide) ?_
              refine zk_aload_n (pc := 71) X d_M_stateOf_71 rfl (q := 0) rfl ?_
              refine zk_get (pc := 72) X (ci := 5) (v := .int mi) in_M 0 rfl rfl 4 (by decide) (zk_m tw_124) rfl d_M_stateOf_72 ?_
              refine zk_if_eq (pc := 75) X (tgt := 82) d_M_stateOf_75 (by decide) (fun h75 => ?_) (fun h75 => ?_)
              · have hq := hq.trans (if_pos h75)
                refine zk_iconst (pc := 82) X (v := 0) d_M_stateOf_82 rfl ?_
                exact zk_iret (pc := 83) X hQ hRt hLk () hq.symm [0, 1, 2] rfl (by decide) d_M_stateOf_83
              · have hq := hq.trans (if_neg h75)
                refine zk_iconst (pc := 78) X (v := 1) d_M_stateOf_78 rfl ?_
                refine zk_goto (pc := 79) X (tgt := 83) d_M_stateOf_79 (by decide) ?_
                exact zk_iret (pc := 83) X hQ hRt hLk () hq.symm [0, 1, 2] rfl (by decide) d_M_stateOf_83
            · have hq := hq.trans (if_neg h17_7)
              rcases Decidable.em (i = 8) with h17_8 | h17_8
              · have hq := hq.trans (if_pos h17_8)
                refine zk_tableIn (pc := 17) X (tgt := 84) 8 h17_8 d_M_stateOf_17 (by decide) (by decide) rfl (by decide) ?_
                refine zk_aload_n (pc := 84) X d_M_stateOf_84 rfl (q := 0) rfl ?_
                refine zk_get (pc := 85) X (ci := 5) (v := .int me) in_M 0 rfl rfl 5 (by decide) (zk_m tw_125) rfl d_M_stateOf_85 ?_
                refine zk_if_eq (pc := 88) X (tgt := 95) d_M_stateOf_88 (by decide) (fun h88 => ?_) (fun h88 => ?_)
                · have hq := hq.trans (if_pos h88)
                  refine zk_iconst (pc := 95) X (v := 0) d_M_stateOf_95 rfl ?_
                  exact zk_iret (pc := 96) X hQ hRt hLk () hq.symm [0, 1, 2] rfl (by decide) d_M_stateOf_96
                · have hq := hq.trans (if_neg h88)
                  refine zk_iconst (pc := 91) X (v := 1) d_M_stateOf_91 rfl ?_
                  refine zk_goto (pc := 92) X (tgt := 96) d_M_stateOf_92 (by decide) ?_
                  exact zk_iret (pc := 96) X hQ hRt hLk () hq.symm [0, 1, 2] rfl (by decide) d_M_stateOf_96
              · have hq := hq.trans (if_neg h17_8)
                rcases Decidable.em (i = 9) with h17_9 | h17_9
                · have hq := hq.trans (if_pos h17_9)
                  refine zk_tableIn (pc := 17) X (tgt := 97) 9 h17_9 d_M_stateOf_17 (by decide) (by decide) rfl (by decide) ?_
                  refine zk_aload_n (pc := 97) X d_M_stateOf_97 rfl (q := 0) rfl ?_
                  refine zk_get (pc := 98) X (ci := 5) (v := .int (nI mS)) in_M 0 rfl rfl 9 (by decide) (zk_m tw_129) rfl d_M_stateOf_98 ?_
                  exact zk_iret (pc := 101) X hQ hRt hLk () hq.symm [0, 1, 2] rfl (by decide) d_M_stateOf_101
                · have hq := hq.trans (if_neg h17_9)
                  refine zk_tableOut (pc := 17) X (tgt := 102) d_M_stateOf_17 (by have g0 := lv_neT (k := 4) (a := 4) h17_4 (by decide); have g1 := lv_neT (k := 5) (a := 5) h17_5 (by decide); have g2 := lv_neT (k := 6) (a := 6) h17_6 (by decide); have g3 := lv_neT (k := 7) (a := 7) h17_7 (by decide); have g4 := lv_neT (k := 8) (a := 8) h17_8 (by decide); have g5 := lv_neT (k := 9) (a := 9) h17_9 (by decide); omega) (by decide) ?_
                  refine zk_iconst (pc := 102) X (v := 0) d_M_stateOf_102 rfl ?_
                  exact zk_iret (pc := 103) X hQ hRt hLk () hq.symm [0, 1, 2] rfl (by decide) d_M_stateOf_103
    · have hq := hq.trans (if_neg h6)
      refine zk_aload_n (pc := 9) X d_M_stateOf_9 rfl (q := 0) rfl ?_
      refine zk_get (pc := 10) X (ci := 5) (v := .ref mr) in_M 0 rfl rfl 0 (by decide) (zk_m tw_120) rfl d_M_stateOf_10 ?_
      refine zk_iload_n (pc := 13) X d_M_stateOf_13 rfl (q := 1) rfl ?_
      refine zk_iald (pc := 14) X 1 0 (i.toNatClampNeg) rfl rfl (zk_iI h1) (zk_iL h1 h6) (by decide) d_M_stateOf_14 ?_
      exact zk_iret (pc := 15) X hQ hRt hLk () hq.symm [0, 1, 2] rfl (by decide) d_M_stateOf_15
def sp_M_cellOf (i : Int32) (fc : Nat → Int32) : Int32 :=
  if i < 0 then
    0
  else
    if (32 : Int32) ≤ i then
      0
    else
      (fc i.toNatClampNeg)
abbrev rm_M_cellOf : Room := { frames := 0, cells := 0, slots := 0, locals := 0 }
set_option maxHeartbeats 4000000 in
set_option maxRecDepth 100000 in
theorem c_M_cellOf (l : Launch) (dC : Nat → ClassId) (dI : Nat → Nat → Nat) (hm mr mc : Nat) (cmr cmc : ClassId) (i : Int32) (fr : Nat → Int32) (fc : Nat → Int32) (mp : Int32) (mb : Int32) (mi : Int32) (me : Int32) (ml : Int32) (mo : Int32) (mt : Int32) (mS : Nat) : zk_Ci l y_M_cellOf w_M_cellOf rm_M_cellOf (dC, dI) vwCl [.ref hm, .int i] [(hm, .inr (5, [.ref mr, .ref mc, .int mp, .int mb, .int mi, .int me, .int ml, .int mo, .int mt, .int (nI mS)])), (mr, .inl (cmr, 4, .inl fr)), (mc, .inl (cmc, 32, .inl fc))] [(cmr, .int), (cmc, .int)] (fun (r : Int32) (u : Unit) => r = sp_M_cellOf i fc) (fun _ => [(hm, .inr (5, [.ref mr, .ref mc, .int mp, .int mb, .int mi, .int me, .int ml, .int mo, .int mt, .int (nI mS)])), (mr, .inl (cmr, 4, .inl fr)), (mc, .inl (cmc, 32, .inl fc))]) := by
  refine zk_enteri (cc := b_M_cellOf) (maxL := 2) (ret := some .int) (by decide) rfl (Nat.le_of_ble_eq_true rfl) ?_
  intro p e s m args below meth c A Q hQ X hRt hLk
  have hq := sp_M_cellOf.eq_1 i fc
  refine zk_lv (lv' := [(0, .ref hm), (1, .int i)]) [0, 1] rfl ?_
  refine zk_iload_n (pc := 0) X d_M_cellOf_0 rfl (q := 1) rfl ?_
  refine zk_if_lt (pc := 1) X (tgt := 19) d_M_cellOf_1 (by decide) (fun h1 => ?_) (fun h1 => ?_)
  · have hq := hq.trans (if_pos h1)
    refine zk_iconst (pc := 19) X (v := 0) d_M_cellOf_19 rfl ?_
    exact zk_iret (pc := 20) X hQ hRt hLk () hq.symm [0, 1, 2] rfl (by decide) d_M_cellOf_20
  · have hq := hq.trans (if_neg h1)
    refine zk_iload_n (pc := 4) X d_M_cellOf_4 rfl (q := 1) rfl ?_
    refine zk_bipush (pc := 5) X (v := 32) d_M_cellOf_5 (by decide) ?_
    refine zk_icmp_ge (pc := 7) X (tgt := 19) d_M_cellOf_7 (by decide) (fun h7 => ?_) (fun h7 => ?_)
    · have hq := hq.trans (if_pos h7)
      refine zk_iconst (pc := 19) X (v := 0) d_M_cellOf_19 rfl ?_
      exact zk_iret (pc := 20) X hQ hRt hLk () hq.symm [0, 1, 2] rfl (by decide) d_M_cellOf_20
    · have hq := hq.trans (if_neg h7)
      refine zk_aload_n (pc := 10) X d_M_cellOf_10 rfl (q := 0) rfl ?_
      refine zk_get (pc := 11) X (ci := 5) (v := .ref mc) in_M 0 rfl rfl 1 (by decide) (zk_m tw_121) rfl d_M_cellOf_11 ?_
      refine zk_iload_n (pc := 14) X d_M_cellOf_14 rfl (q := 1) rfl ?_
      refine zk_iald (pc := 15) X 2 1 (i.toNatClampNeg) rfl rfl (zk_iI h1) (zk_iL32 h1 h7) (by decide) d_M_cellOf_15 ?_
      refine zk_goto (pc := 16) X (tgt := 20) d_M_cellOf_16 (by decide) ?_
      exact zk_iret (pc := 20) X hQ hRt hLk () hq.symm [0, 1, 2] rfl (by decide) d_M_cellOf_20
