def sp_M_performR (o : Int32) (a : Int32) (b : Int32) (fr : Nat → Int32) (fc : Nat → Int32) (mp : Int32) (mb : Int32) (mi : Int32) (me : Int32) (ml : Int32) (mo : Int32) (mS : Nat) (fi : Nat → Int32) (rw : Nat) (rt : Int32) (rc : Int32) (fb : Nat → Int32) (jn : Nat) (jm : Int32) (jS : Int32) (jl : Int32) : (Nat → Int32) × (Nat → Int32) × Int32 × Int32 × Int32 × Int32 × Int32 × (Nat → Int32) × Nat × Int32 × (Nat → Int32) × Nat × Int32 × Int32 × Int32 :=
  if o = 0 then
    ((upd fr (zk_ix3 a) b), fc, mp, mi, me, ml, mo, fi, rw, rt, fb, jn, jm, jS, jl)
  else if o = 1 then
    ((upd fr (zk_ix3 a) ((fr (zk_ix3 a)) + (fr (zk_ix3 b)))), fc, mp, mi, me, ml, mo, fi, rw, rt, fb, jn, jm, jS, jl)
  else if o = 2 then
    ((upd fr (zk_ix3 a) ((fr (zk_ix3 a)) - (fr (zk_ix3 b)))), fc, mp, mi, me, ml, mo, fi, rw, rt, fb, jn, jm, jS, jl)
  else if o = 3 then
    ((upd fr (zk_ix3 a) (fc (zk_ix31 (fr (zk_ix3 b))))), fc, mp, mi, me, ml, mo, fi, rw, rt, fb, jn, jm, jS, jl)
  else if o = 4 then
    (fr, (upd fc (zk_ix31 (fr (zk_ix3 b))) (fr (zk_ix3 a))), mp, mi, me, ml, mo, fi, rw, rt, fb, jn, jm, jS, jl)
  else if o = 5 then
    (match sp_M_turn o (fr (zk_ix3 a)) b mp mb mi me with
    | (mp_258, mi_258, me_258) =>
      (fr, fc, mp_258, mi_258, me_258, ml, mo, fi, rw, rt, fb, jn, jm, jS, jl))
  else if o = 6 then
    (match sp_M_turn o (fr (zk_ix3 a)) b mp mb mi me with
    | (mp_258, mi_258, me_258) =>
      (fr, fc, mp_258, mi_258, me_258, ml, mo, fi, rw, rt, fb, jn, jm, jS, jl))
  else if o = 7 then
    (match sp_R_takeInput (nI mS) fi rw fb jn jm jS jl with
    | (r169, fi_169, rw_169, fb_169, jn_169, jm_169, jS_169, jl_169) =>
      ((upd fr (zk_ix3 a) r169), fc, mp, mi, me, ml, mo, fi_169, rw_169, rt, fb_169, jn_169, jm_169, jS_169, jl_169))
  else if o = 8 then
    (match sp_R_readClock (nI mS) rt rc fb jn jm jS jl with
    | (r188, rt_188, fb_188, jn_188, jm_188, jS_188, jl_188) =>
      ((upd fr (zk_ix3 a) r188), fc, mp, mi, me, ml, mo, fi, rw, rt_188, fb_188, jn_188, jm_188, jS_188, jl_188))
  else if o = 9 then
    ((upd fr (zk_ix3 a) (zf_ushr ((ml * 1103515245) + 12345) 16)), fc, mp, mi, me, ((ml * 1103515245) + 12345), mo, fi, rw, rt, fb, jn, jm, jS, jl)
  else if o = 10 then
    (fr, fc, mp, mi, me, ml, (sp_X_mix mo (fr (zk_ix3 a))), fi, rw, rt, fb, jn, jm, jS, jl)
  else (match sp_M_turn o (fr (zk_ix3 a)) b mp mb mi me with
  | (mp_258, mi_258, me_258) =>
    (fr, fc, mp_258, mi_258, me_258, ml, mo, fi, rw, rt, fb, jn, jm, jS, jl))
abbrev rm_M_performR : Room := { frames := 5, cells := 0, slots := 0, locals := 112 }
set_option maxHeartbeats 4000000 in
set_option maxRecDepth 100000 in
theorem c_M_performR (l : Launch) (dC : Nat → ClassId) (dI : Nat → Nat → Nat) (hm mr mc hr hj ri jb : Nat) (cmr cmc cR cJ : ClassId) (o : Int32) (a : Int32) (b : Int32) (fr : Nat → Int32) (fc : Nat → Int32) (mp : Int32) (mb : Int32) (mi : Int32) (me : Int32) (ml : Int32) (mo : Int32) (mt : Int32) (mS : Nat) (fi : Nat → Int32) (rw : Nat) (rt : Int32) (rq : Int32) (rc : Int32) (fb : Nat → Int32) (jn : Nat) (jm : Int32) (jS : Int32) (jl : Int32) (hrw : rw ≤ 16) (hjn : jn ≤ 300) : zk_Cv l y_M_perform w_M_perform rm_M_performR (dC, dI) vwCl [.ref hm, .int o, .int a, .int b, .ref hr] [(hm, .inr (5, [.ref mr, .ref mc, .int mp, .int mb, .int mi, .int me, .int ml, .int mo, .int mt, .int (nI mS)])), (mr, .inl (cmr, 4, .inl fr)), (mc, .inl (cmc, 32, .inl fc)), (hr, .inr (2, [.ref hj, .ref ri, .int (nI rw), .int rt, .int rq, .int rc])), (ri, .inl (cR, 16, .inl fi)), (hj, .inr (1, [.ref jb, .int (nI jn), .int jm, .int jS, .int jl])), (jb, .inl (cJ, 300, .inl fb))] [(cmr, .int), (cmc, .int), (cR, .int), (cJ, .int)] (fun (u : (Nat → Int32) × (Nat → Int32) × Int32 × Int32 × Int32 × Int32 × Int32 × (Nat → Int32) × Nat × Int32 × (Nat → Int32) × Nat × Int32 × Int32 × Int32) => u = sp_M_performR o a b fr fc mp mb mi me ml mo mS fi rw rt rc fb jn jm jS jl ∧ (u.2.2.2.2.2.2.2.2.1 ≤ 16) ∧ (u.2.2.2.2.2.2.2.2.2.2.2.1 ≤ 300)) (fun u => [(hm, .inr (5, [.ref mr, .ref mc, .int u.2.2.1, .int mb, .int u.2.2.2.1, .int u.2.2.2.2.1, .int u.2.2.2.2.2.1, .int u.2.2.2.2.2.2.1, .int mt, .int (nI mS)])), (mr, .inl (cmr, 4, .inl u.1)), (mc, .inl (cmc, 32, .inl u.2.1)), (hr, .inr (2, [.ref hj, .ref ri, .int (nI u.2.2.2.2.2.2.2.2.1), .int u.2.2.2.2.2.2.2.2.2.1, .int rq, .int rc])), (ri, .inl (cR, 16, .inl u.2.2.2.2.2.2.2.1)), (hj, .inr (1, [.ref jb, .int (nI u.2.2.2.2.2.2.2.2.2.2.2.1), .int u.2.2.2.2.2.2.2.2.2.2.2.2.1, .int u.2.2.2.2.2.2.2.2.2.2.2.2.2.1, .int u.2.2.2.2.2.2.2.2.2.2.2.2.2.2])), (jb, .inl (cJ, 300, .inl u.2.2.2.2.2.2.2.2.2.2.1))]) := by
  refine zk_enterv (cc := b_M_perform) (maxL := 7) (ret := none) (by decide) rfl (Nat.le_of_ble_eq_true rfl) ?_
  intro p e s m args below meth c A Q hQ X hRt hLk
  have hq := sp_M_performR.eq_1 o a b fr fc mp mb mi me ml mo mS fi rw rt rc fb jn jm jS jl
  refine zk_lv (lv' := [(0, .ref hm), (1, .int o), (2, .int a), (3, .int b), (4, .ref hr)]) [0, 1, 2, 3, 4] rfl ?_
  refine zk_iload_n (pc := 0) X d_M_perform_0 rfl (q := 2) rfl ?_
  refine zk_iconst (pc := 1) X (v := 3) d_M_perform_1 rfl ?_
  refine zk_iand (pc := 2) X (v := (a &&& 3)) d_M_perform_2 rfl ?_
  refine zk_istore (pc := 3) X (i := 5) (lv' := [(5, .int (a &&& 3)), (0, .ref hm), (1, .int o), (2, .int a), (3, .int b), (4, .ref hr)]) d_M_perform_3 (by decide) rfl ?_
  refine zk_aload_n (pc := 5) X d_M_perform_5 rfl (q := 1) rfl ?_
  refine zk_get (pc := 6) X (ci := 5) (v := .ref mr) in_M 0 rfl rfl 0 (by decide) (zk_m tw_120) rfl d_M_perform_6 ?_
  refine zk_iload_n (pc := 9) X d_M_perform_9 rfl (q := 4) rfl ?_
  refine zk_iconst (pc := 10) X (v := 3) d_M_perform_10 rfl ?_
  refine zk_iand (pc := 11) X (v := (b &&& 3)) d_M_perform_11 rfl ?_
  refine zk_iald (pc := 12) X 1 0 (zk_ix3 b) rfl rfl (zk_ix3_eq b) (zk_ix3_lt b) (by decide) d_M_perform_12 ?_
  refine zk_istore (pc := 13) X (i := 6) (lv' := [(6, .int (fr (zk_ix3 b))), (5, .int (a &&& 3)), (0, .ref hm), (1, .int o), (2, .int a), (3, .int b), (4, .ref hr)]) d_M_perform_13 (by decide) rfl ?_
  refine zk_iload_n (pc := 15) X d_M_perform_15 rfl (q := 3) rfl ?_
  rcases Decidable.em (o = 0) with h16_0 | h16_0
  · have hq := hq.trans (if_pos h16_0)
    refine zk_tableIn (pc := 16) X (tgt := 76) 0 h16_0 d_M_perform_16 (by decide) (by decide) rfl (by decide) ?_
    refine zk_aload_n (pc := 76) X d_M_perform_76 rfl (q := 2) rfl ?_
    refine zk_get (pc := 77) X (ci := 5) (v := .ref mr) in_M 0 rfl rfl 0 (by decide) (zk_m tw_120) rfl d_M_perform_77 ?_
    refine zk_iload (pc := 80) X d_M_perform_80 (q := 1) rfl ?_
    refine zk_iload_n (pc := 82) X d_M_perform_82 rfl (q := 5) rfl ?_
    refine zk_iast (pc := 83) X 1 0 (ws' := [(hm, .inr (5, [.ref mr, .ref mc, .int mp, .int mb, .int mi, .int me, .int ml, .int mo, .int mt, .int (nI mS)])), (mr, .inl (cmr, 4, .inl (upd fr (zk_ix3 a) b))), (mc, .inl (cmc, 32, .inl fc)), (hr, .inr (2, [.ref hj, .ref ri, .int (nI rw), .int rt, .int rq, .int rc])), (ri, .inl (cR, 16, .inl fi)), (hj, .inr (1, [.ref jb, .int (nI jn), .int jm, .int jS, .int jl])), (jb, .inl (cJ, 300, .inl fb))]) (zk_ix3 a) rfl rfl (zk_ix3_eq a) (zk_ix3_lt a) (by decide) d_M_perform_83 rfl ?_
    refine zk_goto (pc := 84) X (tgt := 261) d_M_perform_84 (by decide) ?_
    exact zk_vret (pc := 261) X hQ hRt hLk ((upd fr (zk_ix3 a) b), fc, mp, mi, me, ml, mo, fi, rw, rt, fb, jn, jm, jS, jl) ⟨hq.symm, (show rw ≤ 16 by omega), (show jn ≤ 300 by omega)⟩ [0, 1, 2, 3, 4, 5, 6] rfl (by decide) d_M_perform_261
  · have hq := hq.trans (if_neg h16_0)
    rcases Decidable.em (o = 1) with h16_1 | h16_1
    · have hq := hq.trans (if_pos h16_1)
      refine zk_tableIn (pc := 16) X (tgt := 87) 1 h16_1 d_M_perform_16 (by decide) (by decide) rfl (by decide) ?_
      refine zk_aload_n (pc := 87) X d_M_perform_87 rfl (q := 2) rfl ?_
      refine zk_get (pc := 88) X (ci := 5) (v := .ref mr) in_M 0 rfl rfl 0 (by decide) (zk_m tw_120) rfl d_M_perform_88 ?_
      refine zk_iload (pc := 91) X d_M_perform_91 (q := 1) rfl ?_
      refine zk_dup2 (pc := 93) X d_M_perform_93 rfl rfl ?_
      refine zk_iald (pc := 94) X 1 0 (zk_ix3 a) rfl rfl (zk_ix3_eq a) (zk_ix3_lt a) (by decide) d_M_perform_94 ?_
      refine zk_iload (pc := 95) X d_M_perform_95 (q := 0) rfl ?_
      refine zk_iadd (pc := 97) X (v := ((fr (zk_ix3 a)) + (fr (zk_ix3 b)))) d_M_perform_97 rfl ?_
      refine zk_iast (pc := 98) X 1 0 (ws' := [(hm, .inr (5, [.ref mr, .ref mc, .int mp, .int mb, .int mi, .int me, .int ml, .int mo, .int mt, .int (nI mS)])), (mr, .inl (cmr, 4, .inl (upd fr (zk_ix3 a) ((fr (zk_ix3 a)) + (fr (zk_ix3 b)))))), (mc, .inl (cmc, 32, .inl fc)), (hr, .inr (2, [.ref hj, .ref ri, .int (nI rw), .int rt, .int rq, .int rc])), (ri, .inl (cR, 16, .inl fi)), (hj, .inr (1, [.ref jb, .int (nI jn), .int jm, .int jS, .int jl])), (jb, .inl (cJ, 300, .inl fb))]) (zk_ix3 a) rfl rfl (zk_ix3_eq a) (zk_ix3_lt a) (by decide) d_M_perform_98 rfl ?_
      refine zk_goto (pc := 99) X (tgt := 261) d_M_perform_99 (by decide) ?_
      exact zk_vret (pc := 261) X hQ hRt hLk ((upd fr (zk_ix3 a) ((fr (zk_ix3 a)) + (fr (zk_ix3 b)))), fc, mp, mi, me, ml, mo, fi, rw, rt, fb, jn, jm, jS, jl) ⟨hq.symm, (show rw ≤ 16 by omega), (show jn ≤ 300 by omega)⟩ [0, 1, 2, 3, 4, 5, 6] rfl (by decide) d_M_perform_261
    · have hq := hq.trans (if_neg h16_1)
      rcases Decidable.em (o = 2) with h16_2 | h16_2
      · have hq := hq.trans (if_pos h16_2)
        refine zk_tableIn (pc := 16) X (tgt := 102) 2 h16_2 d_M_perform_16 (by decide) (by decide) rfl (by decide) ?_
        refine zk_aload_n (pc := 102) X d_M_perform_102 rfl (q := 2) rfl ?_
        refine zk_get (pc := 103) X (ci := 5) (v := .ref mr) in_M 0 rfl rfl 0 (by decide) (zk_m tw_120) rfl d_M_perform_103 ?_
        refine zk_iload (pc := 106) X d_M_perform_106 (q := 1) rfl ?_
        refine zk_dup2 (pc := 108) X d_M_perform_108 rfl rfl ?_
        refine zk_iald (pc := 109) X 1 0 (zk_ix3 a) rfl rfl (zk_ix3_eq a) (zk_ix3_lt a) (by decide) d_M_perform_109 ?_
        refine zk_iload (pc := 110) X d_M_perform_110 (q := 0) rfl ?_
        refine zk_isub (pc := 112) X (v := ((fr (zk_ix3 a)) - (fr (zk_ix3 b)))) d_M_perform_112 rfl ?_
        refine zk_iast (pc := 113) X 1 0 (ws' := [(hm, .inr (5, [.ref mr, .ref mc, .int mp, .int mb, .int mi, .int me, .int ml, .int mo, .int mt, .int (nI mS)])), (mr, .inl (cmr, 4, .inl (upd fr (zk_ix3 a) ((fr (zk_ix3 a)) - (fr (zk_ix3 b)))))), (mc, .inl (cmc, 32, .inl fc)), (hr, .inr (2, [.ref hj, .ref ri, .int (nI rw), .int rt, .int rq, .int rc])), (ri, .inl (cR, 16, .inl fi)), (hj, .inr (1, [.ref jb, .int (nI jn), .int jm, .int jS, .int jl])), (jb, .inl (cJ, 300, .inl fb))]) (zk_ix3 a) rfl rfl (zk_ix3_eq a) (zk_ix3_lt a) (by decide) d_M_perform_113 rfl ?_
        refine zk_goto (pc := 114) X (tgt := 261) d_M_perform_114 (by decide) ?_
        exact zk_vret (pc := 261) X hQ hRt hLk ((upd fr (zk_ix3 a) ((fr (zk_ix3 a)) - (fr (zk_ix3 b)))), fc, mp, mi, me, ml, mo, fi, rw, rt, fb, jn, jm, jS, jl) ⟨hq.symm, (show rw ≤ 16 by omega), (show jn ≤ 300 by omega)⟩ [0, 1, 2, 3, 4, 5, 6] rfl (by decide) d_M_perform_261
      · have hq := hq.trans (if_neg h16_2)
        rcases Decidable.em (o = 3) with h16_3 | h16_3
        · have hq := hq.trans (if_pos h16_3)
          refine zk_tableIn (pc := 16) X (tgt := 117) 3 h16_3 d_M_perform_16 (by decide) (by decide) rfl (by decide) ?_
          refine zk_aload_n (pc := 117) X d_M_perform_117 rfl (q := 2) rfl ?_
          refine zk_get (pc := 118) X (ci := 5) (v := .ref mr) in_M 0 rfl rfl 0 (by decide) (zk_m tw_120) rfl d_M_perform_118 ?_
          refine zk_iload (pc := 121) X d_M_perform_121 (q := 1) rfl ?_
          refine zk_aload_n (pc := 123) X d_M_perform_123 rfl (q := 2) rfl ?_
          refine zk_get (pc := 124) X (ci := 5) (v := .ref mc) in_M 0 rfl rfl 1 (by decide) (zk_m tw_121) rfl d_M_perform_124 ?_
          refine zk_iload (pc := 127) X d_M_perform_127 (q := 0) rfl ?_
          refine zk_bipush (pc := 129) X (v := 31) d_M_perform_129 (by decide) ?_
          refine zk_iand (pc := 131) X (v := ((fr (zk_ix3 b)) &&& 31)) d_M_perform_131 rfl ?_
          refine zk_iald (pc := 132) X 2 1 (zk_ix31 (fr (zk_ix3 b))) rfl rfl (zk_ix31_eq (fr (zk_ix3 b))) (zk_ix31_lt (fr (zk_ix3 b))) (by decide) d_M_perform_132 ?_
          refine zk_iast (pc := 133) X 1 0 (ws' := [(hm, .inr (5, [.ref mr, .ref mc, .int mp, .int mb, .int mi, .int me, .int ml, .int mo, .int mt, .int (nI mS)])), (mr, .inl (cmr, 4, .inl (upd fr (zk_ix3 a) (fc (zk_ix31 (fr (zk_ix3 b))))))), (mc, .inl (cmc, 32, .inl fc)), (hr, .inr (2, [.ref hj, .ref ri, .int (nI rw), .int rt, .int rq, .int rc])), (ri, .inl (cR, 16, .inl fi)), (hj, .inr (1, [.ref jb, .int (nI jn), .int jm, .int jS, .int jl])), (jb, .inl (cJ, 300, .inl fb))]) (zk_ix3 a) rfl rfl (zk_ix3_eq a) (zk_ix3_lt a) (by decide) d_M_perform_133 rfl ?_
          refine zk_goto (pc := 134) X (tgt := 261) d_M_perform_134 (by decide) ?_
          exact zk_vret (pc := 261) X hQ hRt hLk ((upd fr (zk_ix3 a) (fc (zk_ix31 (fr (zk_ix3 b))))), fc, mp, mi, me, ml, mo, fi, rw, rt, fb, jn, jm, jS, jl) ⟨hq.symm, (show rw ≤ 16 by omega), (show jn ≤ 300 by omega)⟩ [0, 1, 2, 3, 4, 5, 6] rfl (by decide) d_M_perform_261
        · have hq := hq.trans (if_neg h16_3)
          rcases Decidable.em (o = 4) with h16_4 | h16_4
          · have hq := hq.trans (if_pos h16_4)
            refine zk_tableIn (pc := 16) X (tgt := 137) 4 h16_4 d_M_perform_16 (by decide) (by decide) rfl (by decide) ?_
            refine zk_aload_n (pc := 137) X d_M_perform_137 rfl (q := 2) rfl ?_
            refine zk_get (pc := 138) X (ci := 5) (v := .ref mc) in_M 0 rfl rfl 1 (by decide) (zk_m tw_121) rfl d_M_perform_138 ?_
            refine zk_iload (pc := 141) X d_M_perform_141 (q := 0) rfl ?_
            refine zk_bipush (pc := 143) X (v := 31) d_M_perform_143 (by decide) ?_
            refine zk_iand (pc := 145) X (v := ((fr (zk_ix3 b)) &&& 31)) d_M_perform_145 rfl ?_
            refine zk_aload_n (pc := 146) X d_M_perform_146 rfl (q := 2) rfl ?_
            refine zk_get (pc := 147) X (ci := 5) (v := .ref mr) in_M 0 rfl rfl 0 (by decide) (zk_m tw_120) rfl d_M_perform_147 ?_
            refine zk_iload (pc := 150) X d_M_perform_150 (q := 1) rfl ?_
            refine zk_iald (pc := 152) X 1 0 (zk_ix3 a) rfl rfl (zk_ix3_eq a) (zk_ix3_lt a) (by decide) d_M_perform_152 ?_
            refine zk_iast (pc := 153) X 2 1 (ws' := [(hm, .inr (5, [.ref mr, .ref mc, .int mp, .int mb, .int mi, .int me, .int ml, .int mo, .int mt, .int (nI mS)])), (mr, .inl (cmr, 4, .inl fr)), (mc, .inl (cmc, 32, .inl (upd fc (zk_ix31 (fr (zk_ix3 b))) (fr (zk_ix3 a))))), (hr, .inr (2, [.ref hj, .ref ri, .int (nI rw), .int rt, .int rq, .int rc])), (ri, .inl (cR, 16, .inl fi)), (hj, .inr (1, [.ref jb, .int (nI jn), .int jm, .int jS, .int jl])), (jb, .inl (cJ, 300, .inl fb))]) (zk_ix31 (fr (zk_ix3 b))) rfl rfl (zk_ix31_eq (fr (zk_ix3 b))) (zk_ix31_lt (fr (zk_ix3 b))) (by decide) d_M_perform_153 rfl ?_
            refine zk_goto (pc := 154) X (tgt := 261) d_M_perform_154 (by decide) ?_
            exact zk_vret (pc := 261) X hQ hRt hLk (fr, (upd fc (zk_ix31 (fr (zk_ix3 b))) (fr (zk_ix3 a))), mp, mi, me, ml, mo, fi, rw, rt, fb, jn, jm, jS, jl) ⟨hq.symm, (show rw ≤ 16 by omega), (show jn ≤ 300 by omega)⟩ [0, 1, 2, 3, 4, 5, 6] rfl (by decide) d_M_perform_261
          · have hq := hq.trans (if_neg h16_4)
            rcases Decidable.em (o = 5) with h16_5 | h16_5
            · have hq := hq.trans (if_pos h16_5)
              refine zk_tableIn (pc := 16) X (tgt := 248) 5 h16_5 d_M_perform_16 (by decide) (by decide) rfl (by decide) ?_
              refine zk_aload_n (pc := 248) X d_M_perform_248 rfl (q := 2) rfl ?_
              refine zk_iload_n (pc := 249) X d_M_perform_249 rfl (q := 3) rfl ?_
              refine zk_aload_n (pc := 250) X d_M_perform_250 rfl (q := 2) rfl ?_
              refine zk_get (pc := 251) X (ci := 5) (v := .ref mr) in_M 0 rfl rfl 0 (by decide) (zk_m tw_120) rfl d_M_perform_251 ?_
              refine zk_iload (pc := 254) X d_M_perform_254 (q := 1) rfl ?_
              refine zk_iald (pc := 256) X 1 0 (zk_ix3 a) rfl rfl (zk_ix3_eq a) (zk_ix3_lt a) (by decide) d_M_perform_256 ?_
              refine zk_iload_n (pc := 257) X d_M_perform_257 rfl (q := 5) rfl ?_
              refine zk_callv (pc := 258) X (wc := [(hm, .inr (5, [.ref mr, .ref mc, .int mp, .int mb, .int mi, .int me, .int ml, .int mo, .int mt, .int (nI mS)])), (mr, .inl (cmr, 4, .inl fr)), (mc, .inl (cmc, 32, .inl fc))]) (wr := [(hr, .inr (2, [.ref hj, .ref ri, .int (nI rw), .int rt, .int rq, .int rc])), (ri, .inl (cR, 16, .inl fi)), (hj, .inr (1, [.ref jb, .int (nI jn), .int jm, .int jS, .int jl])), (jb, .inl (cJ, 300, .inl fb))]) [0, 1, 2] [3, 4, 5, 6] rfl rfl (by decide) (by decide) (by decide) (zk_runV X (C := R_M) (tysC := [(cmr, .int), (cmc, .int)]) (As := [.int o, .int (fr (zk_ix3 a)), .int b]) (rest := []) (c_M_turn l dC dI hm mr mc cmr cmc o (fr (zk_ix3 a)) b fr fc mp mb mi me ml mo mt mS) [0, 1] rfl (ci := 5) rfl 0 rfl (zk_cwV 3 X.1.2.2.2.2 (zk_goodT tw_278) rfl rfl rfl (zk_m tw_276) (zk_m tw_277) (zk_m tw_529) (zk_m tw_8) rfl (by decide +kernel) ⟨Nat.le_of_ble_eq_true rfl, Nat.le_of_ble_eq_true rfl⟩) rfl rfl (Nat.le_of_ble_eq_true rfl) ⟨Nat.zero_le _, Nat.zero_le _⟩ d_M_perform_258) ?_
              rintro ⟨mp_258, mi_258, me_258⟩ w258
              refine zk_ws (ws' := [(hr, .inr (2, [.ref hj, .ref ri, .int (nI rw), .int rt, .int rq, .int rc])), (ri, .inl (cR, 16, .inl fi)), (hj, .inr (1, [.ref jb, .int (nI jn), .int jm, .int jS, .int jl])), (jb, .inl (cJ, 300, .inl fb)), (hm, .inr (5, [.ref mr, .ref mc, .int mp_258, .int mb, .int mi_258, .int me_258, .int ml, .int mo, .int mt, .int (nI mS)])), (mr, .inl (cmr, 4, .inl fr)), (mc, .inl (cmc, 32, .inl fc))]) rfl ?_
              try dsimp only at w258
              rw [← w258] at hq
              try dsimp only at hq
              exact zk_vret (pc := 261) X hQ hRt hLk (fr, fc, mp_258, mi_258, me_258, ml, mo, fi, rw, rt, fb, jn, jm, jS, jl) ⟨hq.symm, (show rw ≤ 16 by omega), (show jn ≤ 300 by omega)⟩ [4, 5, 6, 0, 1, 2, 3] rfl (by decide) d_M_perform_261
            · have hq := hq.trans (if_neg h16_5)
              rcases Decidable.em (o = 6) with h16_6 | h16_6
              · have hq := hq.trans (if_pos h16_6)
                refine zk_tableIn (pc := 16) X (tgt := 248) 6 h16_6 d_M_perform_16 (by decide) (by decide) rfl (by decide) ?_
                refine zk_aload_n (pc := 248) X d_M_perform_248 rfl (q := 2) rfl ?_
                refine zk_iload_n (pc := 249) X d_M_perform_249 rfl (q := 3) rfl ?_
                refine zk_aload_n (pc := 250) X d_M_perform_250 rfl (q := 2) rfl ?_
                refine zk_get (pc := 251) X (ci := 5) (v := .ref mr) in_M 0 rfl rfl 0 (by decide) (zk_m tw_120) rfl d_M_perform_251 ?_
                refine zk_iload (pc := 254) X d_M_perform_254 (q := 1) rfl ?_
                refine zk_iald (pc := 256) X 1 0 (zk_ix3 a) rfl rfl (zk_ix3_eq a) (zk_ix3_lt a) (by decide) d_M_perform_256 ?_
                refine zk_iload_n (pc := 257) X d_M_perform_257 rfl (q := 5) rfl ?_
                refine zk_callv (pc := 258) X (wc := [(hm, .inr (5, [.ref mr, .ref mc, .int mp, .int mb, .int mi, .int me, .int ml, .int mo, .int mt, .int (nI mS)])), (mr, .inl (cmr, 4, .inl fr)), (mc, .inl (cmc, 32, .inl fc))]) (wr := [(hr, .inr (2, [.ref hj, .ref ri, .int (nI rw), .int rt, .int rq, .int rc])), (ri, .inl (cR, 16, .inl fi)), (hj, .inr (1, [.ref jb, .int (nI jn), .int jm, .int jS, .int jl])), (jb, .inl (cJ, 300, .inl fb))]) [0, 1, 2] [3, 4, 5, 6] rfl rfl (by decide) (by decide) (by decide) (zk_runV X (C := R_M) (tysC := [(cmr, .int), (cmc, .int)]) (As := [.int o, .int (fr (zk_ix3 a)), .int b]) (rest := []) (c_M_turn l dC dI hm mr mc cmr cmc o (fr (zk_ix3 a)) b fr fc mp mb mi me ml mo mt mS) [0, 1] rfl (ci := 5) rfl 0 rfl (zk_cwV 3 X.1.2.2.2.2 (zk_goodT tw_278) rfl rfl rfl (zk_m tw_276) (zk_m tw_277) (zk_m tw_529) (zk_m tw_8) rfl (by decide +kernel) ⟨Nat.le_of_ble_eq_true rfl, Nat.le_of_ble_eq_true rfl⟩) rfl rfl (Nat.le_of_ble_eq_true rfl) ⟨Nat.zero_le _, Nat.zero_le _⟩ d_M_perform_258) ?_
                rintro ⟨mp_258, mi_258, me_258⟩ w258
                refine zk_ws (ws' := [(hr, .inr (2, [.ref hj, .ref ri, .int (nI rw), .int rt, .int rq, .int rc])), (ri, .inl (cR, 16, .inl fi)), (hj, .inr (1, [.ref jb, .int (nI jn), .int jm, .int jS, .int jl])), (jb, .inl (cJ, 300, .inl fb)), (hm, .inr (5, [.ref mr, .ref mc, .int mp_258, .int mb, .int mi_258, .int me_258, .int ml, .int mo, .int mt, .int (nI mS)])), (mr, .inl (cmr, 4, .inl fr)), (mc, .inl (cmc, 32, .inl fc))]) rfl ?_
                try dsimp only at w258
                rw [← w258] at hq
                try dsimp only at hq
                exact zk_vret (pc := 261) X hQ hRt hLk (fr, fc, mp_258, mi_258, me_258, ml, mo, fi, rw, rt, fb, jn, jm, jS, jl) ⟨hq.symm, (show rw ≤ 16 by omega), (show jn ≤ 300 by omega)⟩ [4, 5, 6, 0, 1, 2, 3] rfl (by decide) d_M_perform_261
              · have hq := hq.trans (if_neg h16_6)
                rcases Decidable.em (o = 7) with h16_7 | h16_7
                · have hq := hq.trans (if_pos h16_7)
                  refine zk_tableIn (pc := 16) X (tgt := 157) 7 h16_7 d_M_perform_16 (by decide) (by decide) rfl (by decide) ?_
                  refine zk_aload_n (pc := 157) X d_M_perform_157 rfl (q := 2) rfl ?_
                  refine zk_get (pc := 158) X (ci := 5) (v := .ref mr) in_M 0 rfl rfl 0 (by decide) (zk_m tw_120) rfl d_M_perform_158 ?_
                  refine zk_iload (pc := 161) X d_M_perform_161 (q := 1) rfl ?_
                  refine zk_aload (pc := 163) X d_M_perform_163 (q := 6) rfl ?_
                  refine zk_aload_n (pc := 165) X d_M_perform_165 rfl (q := 2) rfl ?_
                  refine zk_get (pc := 166) X (ci := 5) (v := .int (nI mS)) in_M 0 rfl rfl 9 (by decide) (zk_m tw_129) rfl d_M_perform_166 ?_
                  refine zk_calli (pc := 169) X (wc := [(hr, .inr (2, [.ref hj, .ref ri, .int (nI rw), .int rt, .int rq, .int rc])), (ri, .inl (cR, 16, .inl fi)), (hj, .inr (1, [.ref jb, .int (nI jn), .int jm, .int jS, .int jl])), (jb, .inl (cJ, 300, .inl fb))]) (wr := [(hm, .inr (5, [.ref mr, .ref mc, .int mp, .int mb, .int mi, .int me, .int ml, .int mo, .int mt, .int (nI mS)])), (mr, .inl (cmr, 4, .inl fr)), (mc, .inl (cmc, 32, .inl fc))]) [3, 4, 5, 6] [0, 1, 2] rfl rfl (by decide) (by decide) (by decide) (zk_runU X (tysC := [(cR, .int), (cJ, .int)]) (As := [.int (nI mS)]) (rest := [.int (a &&& 3), .ref mr]) (c_R_takeInput l dC dI hr hj ri jb cR cJ (nI mS) fi rw rt rq rc fb jn jm jS jl (by omega) (by omega)) [2, 3] rfl (ci := 2) rfl 3 rfl (zk_cwA 1 X.1.2.2.2.2 (zk_goodT tw_259) rfl rfl rfl (zk_m tw_255) (zk_m tw_256) (zk_m tw_257) (zk_m tw_258) (zk_m tw_5) X.2.2.2.2.2.2.2.2.2.1 (by decide +kernel) ⟨Nat.le_of_ble_eq_true rfl, Nat.le_of_ble_eq_true rfl⟩) rfl rfl (Nat.le_of_ble_eq_true rfl) ⟨Nat.zero_le _, Nat.zero_le _⟩ d_M_perform_169) ?_
                  rintro r169 ⟨fi_169, rw_169, fb_169, jn_169, jm_169, jS_169, jl_169⟩ ⟨w169, f169_0, f169_1⟩
                  have f169_0 : rw_169 ≤ 16 := f169_0
                  have f169_1 : jn_169 ≤ 300 := f169_1
                  refine zk_ws (ws' := [(hm, .inr (5, [.ref mr, .ref mc, .int mp, .int mb, .int mi, .int me, .int ml, .int mo, .int mt, .int (nI mS)])), (mr, .inl (cmr, 4, .inl fr)), (mc, .inl (cmc, 32, .inl fc)), (hr, .inr (2, [.ref hj, .ref ri, .int (nI rw_169), .int rt, .int rq, .int rc])), (ri, .inl (cR, 16, .inl fi_169)), (hj, .inr (1, [.ref jb, .int (nI jn_169), .int jm_169, .int jS_169, .int jl_169])), (jb, .inl (cJ, 300, .inl fb_169))]) rfl ?_
                  try dsimp only at w169
                  rw [← w169] at hq
                  try dsimp only at hq
                  refine zk_iast (pc := 172) X 1 0 (ws' := [(hm, .inr (5, [.ref mr, .ref mc, .int mp, .int mb, .int mi, .int me, .int ml, .int mo, .int mt, .int (nI mS)])), (mr, .inl (cmr, 4, .inl (upd fr (zk_ix3 a) r169))), (mc, .inl (cmc, 32, .inl fc)), (hr, .inr (2, [.ref hj, .ref ri, .int (nI rw_169), .int rt, .int rq, .int rc])), (ri, .inl (cR, 16, .inl fi_169)), (hj, .inr (1, [.ref jb, .int (nI jn_169), .int jm_169, .int jS_169, .int jl_169])), (jb, .inl (cJ, 300, .inl fb_169))]) (zk_ix3 a) rfl rfl (zk_ix3_eq a) (zk_ix3_lt a) (by decide) d_M_perform_172 rfl ?_
                  refine zk_goto (pc := 173) X (tgt := 261) d_M_perform_173 (by decide) ?_
                  exact zk_vret (pc := 261) X hQ hRt hLk ((upd fr (zk_ix3 a) r169), fc, mp, mi, me, ml, mo, fi_169, rw_169, rt, fb_169, jn_169, jm_169, jS_169, jl_169) ⟨hq.symm, (show rw_169 ≤ 16 by omega), (show jn_169 ≤ 300 by omega)⟩ [0, 1, 2, 3, 4, 5, 6] rfl (by decide) d_M_perform_261
                · have hq := hq.trans (if_neg h16_7)
                  rcases Decidable.em (o = 8) with h16_8 | h16_8
                  · have hq := hq.trans (if_pos h16_8)
                    refine zk_tableIn (pc := 16) X (tgt := 176) 8 h16_8 d_M_perform_16 (by decide) (by decide) rfl (by decide) ?_
                    refine zk_aload_n (pc := 176) X d_M_perform_176 rfl (q := 2) rfl ?_
                    refine zk_get (pc := 177) X (ci := 5) (v := .ref mr) in_M 0 rfl rfl 0 (by decide) (zk_m tw_120) rfl d_M_perform_177 ?_
                    refine zk_iload (pc := 180) X d_M_perform_180 (q := 1) rfl ?_
                    refine zk_aload (pc := 182) X d_M_perform_182 (q := 6) rfl ?_
                    refine zk_aload_n (pc := 184) X d_M_perform_184 rfl (q := 2) rfl ?_
                    refine zk_get (pc := 185) X (ci := 5) (v := .int (nI mS)) in_M 0 rfl rfl 9 (by decide) (zk_m tw_129) rfl d_M_perform_185 ?_
                    refine zk_calli (pc := 188) X (wc := [(hr, .inr (2, [.ref hj, .ref ri, .int (nI rw), .int rt, .int rq, .int rc])), (ri, .inl (cR, 16, .inl fi)), (hj, .inr (1, [.ref jb, .int (nI jn), .int jm, .int jS, .int jl])), (jb, .inl (cJ, 300, .inl fb))]) (wr := [(hm, .inr (5, [.ref mr, .ref mc, .int mp, .int mb, .int mi, .int me, .int ml, .int mo, .int mt, .int (nI mS)])), (mr, .inl (cmr, 4, .inl fr)), (mc, .inl (cmc, 32, .inl fc))]) [3, 4, 5, 6] [0, 1, 2] rfl rfl (by decide) (by decide) (by decide) (zk_runU X (tysC := [(cR, .int), (cJ, .int)]) (As := [.int (nI mS)]) (rest := [.int (a &&& 3), .ref mr]) (c_R_readClock l dC dI hr hj ri jb cR cJ (nI mS) fi rw rt rq rc fb jn jm jS jl (by omega)) [2, 3] rfl (ci := 2) rfl 3 rfl (zk_cwA 1 X.1.2.2.2.2 (zk_goodT tw_271) rfl rfl rfl (zk_m tw_267) (zk_m tw_268) (zk_m tw_269) (zk_m tw_270) (zk_m tw_5) X.2.2.2.2.2.2.2.2.2.2.1 (by decide +kernel) ⟨Nat.le_of_ble_eq_true rfl, Nat.le_of_ble_eq_true rfl⟩) rfl rfl (Nat.le_of_ble_eq_true rfl) ⟨Nat.zero_le _, Nat.zero_le _⟩ d_M_perform_188) ?_
                    rintro r188 ⟨rt_188, fb_188, jn_188, jm_188, jS_188, jl_188⟩ ⟨w188, f188_0⟩
                    have f188_0 : jn_188 ≤ 300 := f188_0
                    refine zk_ws (ws' := [(hm, .inr (5, [.ref mr, .ref mc, .int mp, .int mb, .int mi, .int me, .int ml, .int mo, .int mt, .int (nI mS)])), (mr, .inl (cmr, 4, .inl fr)), (mc, .inl (cmc, 32, .inl fc)), (hr, .inr (2, [.ref hj, .ref ri, .int (nI rw), .int rt_188, .int rq, .int rc])), (ri, .inl (cR, 16, .inl fi)), (hj, .inr (1, [.ref jb, .int (nI jn_188), .int jm_188, .int jS_188, .int jl_188])), (jb, .inl (cJ, 300, .inl fb_188))]) rfl ?_
                    try dsimp only at w188
                    rw [← w188] at hq
                    try dsimp only at hq
                    refine zk_iast (pc := 191) X 1 0 (ws' := [(hm, .inr (5, [.ref mr, .ref mc, .int mp, .int mb, .int mi, .int me, .int ml, .int mo, .int mt, .int (nI mS)])), (mr, .inl (cmr, 4, .inl (upd fr (zk_ix3 a) r188))), (mc, .inl (cmc, 32, .inl fc)), (hr, .inr (2, [.ref hj, .ref ri, .int (nI rw), .int rt_188, .int rq, .int rc])), (ri, .inl (cR, 16, .inl fi)), (hj, .inr (1, [.ref jb, .int (nI jn_188), .int jm_188, .int jS_188, .int jl_188])), (jb, .inl (cJ, 300, .inl fb_188))]) (zk_ix3 a) rfl rfl (zk_ix3_eq a) (zk_ix3_lt a) (by decide) d_M_perform_191 rfl ?_
                    refine zk_goto (pc := 192) X (tgt := 261) d_M_perform_192 (by decide) ?_
                    exact zk_vret (pc := 261) X hQ hRt hLk ((upd fr (zk_ix3 a) r188), fc, mp, mi, me, ml, mo, fi, rw, rt_188, fb_188, jn_188, jm_188, jS_188, jl_188) ⟨hq.symm, (show rw ≤ 16 by omega), (show jn_188 ≤ 300 by omega)⟩ [0, 1, 2, 3, 4, 5, 6] rfl (by decide) d_M_perform_261
                  · have hq := hq.trans (if_neg h16_8)
                    rcases Decidable.em (o = 9) with h16_9 | h16_9
                    · have hq := hq.trans (if_pos h16_9)
                      refine zk_tableIn (pc := 16) X (tgt := 195) 9 h16_9 d_M_perform_16 (by decide) (by decide) rfl (by decide) ?_
                      refine zk_aload_n (pc := 195) X d_M_perform_195 rfl (q := 2) rfl ?_
                      refine zk_aload_n (pc := 196) X d_M_perform_196 rfl (q := 2) rfl ?_
                      refine zk_get (pc := 197) X (ci := 5) (v := .int ml) in_M 0 rfl rfl 6 (by decide) (zk_m tw_126) rfl d_M_perform_197 ?_
                      refine zk_ldc (pc := 200) X (v := 1103515245) d_M_perform_200 (zk_m tw_275) ?_
                      refine zk_imul (pc := 202) X (v := (ml * 1103515245)) d_M_perform_202 rfl ?_
                      refine zk_sipush (pc := 203) X (v := 12345) d_M_perform_203 (by decide) ?_
                      refine zk_iadd (pc := 206) X (v := ((ml * 1103515245) + 12345)) d_M_perform_206 rfl ?_
                      refine zk_put (pc := 207) X (ty := .int) (v := .int ((ml * 1103515245) + 12345)) (ws' := [(hm, .inr (5, [.ref mr, .ref mc, .int mp, .int mb, .int mi, .int me, .int ((ml * 1103515245) + 12345), .int mo, .int mt, .int (nI mS)])), (mr, .inl (cmr, 4, .inl fr)), (mc, .inl (cmc, 32, .inl fc)), (hr, .inr (2, [.ref hj, .ref ri, .int (nI rw), .int rt, .int rq, .int rc])), (ri, .inl (cR, 16, .inl fi)), (hj, .inr (1, [.ref jb, .int (nI jn), .int jm, .int jS, .int jl])), (jb, .inl (cJ, 300, .inl fb))]) in_M tok_M nok_M 0 rfl rfl 6 (by decide) (zk_m tw_126) rfl rfl rfl rfl (Nat.le_of_ble_eq_true rfl) d_M_perform_207 rfl ?_
                      refine zk_aload_n (pc := 210) X d_M_perform_210 rfl (q := 2) rfl ?_
                      refine zk_get (pc := 211) X (ci := 5) (v := .ref mr) in_M 0 rfl rfl 0 (by decide) (zk_m tw_120) rfl d_M_perform_211 ?_
                      refine zk_iload (pc := 214) X d_M_perform_214 (q := 1) rfl ?_
                      refine zk_aload_n (pc := 216) X d_M_perform_216 rfl (q := 2) rfl ?_
                      refine zk_get (pc := 217) X (ci := 5) (v := .int ((ml * 1103515245) + 12345)) in_M 0 rfl rfl 6 (by decide) (zk_m tw_126) rfl d_M_perform_217 ?_
                      refine zk_bipush (pc := 220) X (v := 16) d_M_perform_220 (by decide) ?_
                      refine zk_iushr (pc := 222) X (v := (zf_ushr ((ml * 1103515245) + 12345) 16)) d_M_perform_222 rfl ?_
                      refine zk_iast (pc := 223) X 1 0 (ws' := [(hm, .inr (5, [.ref mr, .ref mc, .int mp, .int mb, .int mi, .int me, .int ((ml * 1103515245) + 12345), .int mo, .int mt, .int (nI mS)])), (mr, .inl (cmr, 4, .inl (upd fr (zk_ix3 a) (zf_ushr ((ml * 1103515245) + 12345) 16)))), (mc, .inl (cmc, 32, .inl fc)), (hr, .inr (2, [.ref hj, .ref ri, .int (nI rw), .int rt, .int rq, .int rc])), (ri, .inl (cR, 16, .inl fi)), (hj, .inr (1, [.ref jb, .int (nI jn), .int jm, .int jS, .int jl])), (jb, .inl (cJ, 300, .inl fb))]) (zk_ix3 a) rfl rfl (zk_ix3_eq a) (zk_ix3_lt a) (by decide) d_M_perform_223 rfl ?_
                      refine zk_goto (pc := 224) X (tgt := 261) d_M_perform_224 (by decide) ?_
                      exact zk_vret (pc := 261) X hQ hRt hLk ((upd fr (zk_ix3 a) (zf_ushr ((ml * 1103515245) + 12345) 16)), fc, mp, mi, me, ((ml * 1103515245) + 12345), mo, fi, rw, rt, fb, jn, jm, jS, jl) ⟨hq.symm, (show rw ≤ 16 by omega), (show jn ≤ 300 by omega)⟩ [0, 1, 2, 3, 4, 5, 6] rfl (by decide) d_M_perform_261
                    · have hq := hq.trans (if_neg h16_9)
                      rcases Decidable.em (o = 10) with h16_10 | h16_10
                      · have hq := hq.trans (if_pos h16_10)
                        refine zk_tableIn (pc := 16) X (tgt := 227) 10 h16_10 d_M_perform_16 (by decide) (by decide) rfl (by decide) ?_
                        refine zk_aload_n (pc := 227) X d_M_perform_227 rfl (q := 2) rfl ?_
                        refine zk_aload_n (pc := 228) X d_M_perform_228 rfl (q := 2) rfl ?_
                        refine zk_get (pc := 229) X (ci := 5) (v := .int mo) in_M 0 rfl rfl 7 (by decide) (zk_m tw_127) rfl d_M_perform_229 ?_
                        refine zk_aload_n (pc := 232) X d_M_perform_232 rfl (q := 2) rfl ?_
                        refine zk_get (pc := 233) X (ci := 5) (v := .ref mr) in_M 0 rfl rfl 0 (by decide) (zk_m tw_120) rfl d_M_perform_233 ?_
                        refine zk_iload (pc := 236) X d_M_perform_236 (q := 1) rfl ?_
                        refine zk_iald (pc := 238) X 1 0 (zk_ix3 a) rfl rfl (zk_ix3_eq a) (zk_ix3_lt a) (by decide) d_M_perform_238 ?_
                        refine zk_calli (pc := 239) X (wc := []) (wr := [(hm, .inr (5, [.ref mr, .ref mc, .int mp, .int mb, .int mi, .int me, .int ml, .int mo, .int mt, .int (nI mS)])), (mr, .inl (cmr, 4, .inl fr)), (mc, .inl (cmc, 32, .inl fc)), (hr, .inr (2, [.ref hj, .ref ri, .int (nI rw), .int rt, .int rq, .int rc])), (ri, .inl (cR, 16, .inl fi)), (hj, .inr (1, [.ref jb, .int (nI jn), .int jm, .int jS, .int jl])), (jb, .inl (cJ, 300, .inl fb))]) [] [0, 1, 2, 3, 4, 5, 6] rfl rfl (by decide) (by decide) (by decide) (zk_runSN X (tysC := []) (As := [.int mo, .int (fr (zk_ix3 a))]) (rest := [.ref hm]) (c_X_mix l dC dI mo (fr (zk_ix3 a))) [] rfl ⟨va_cnB 2 X.1.2.2.2.2 (zk_goodT tw_233) rfl rfl rfl X.2.2.2.2.2.2.2.2.2.2.2 (X.1.2.2.2.2 _ (zk_m tw_1)) (by decide +kernel) ⟨Nat.le_of_ble_eq_true rfl, Nat.le_of_ble_eq_true rfl⟩, X.1.2.2.2.2 _ (zk_m tw_232), trivial⟩ rfl rfl (Nat.le_of_ble_eq_true rfl) ⟨Nat.zero_le _, Nat.zero_le _⟩ d_M_perform_239) ?_
                        rintro r239 ⟨⟩ w239
                        refine zk_ws (ws' := [(hm, .inr (5, [.ref mr, .ref mc, .int mp, .int mb, .int mi, .int me, .int ml, .int mo, .int mt, .int (nI mS)])), (mr, .inl (cmr, 4, .inl fr)), (mc, .inl (cmc, 32, .inl fc)), (hr, .inr (2, [.ref hj, .ref ri, .int (nI rw), .int rt, .int rq, .int rc])), (ri, .inl (cR, 16, .inl fi)), (hj, .inr (1, [.ref jb, .int (nI jn), .int jm, .int jS, .int jl])), (jb, .inl (cJ, 300, .inl fb))]) rfl ?_
                        subst w239
                        refine zk_put (pc := 242) X (ty := .int) (v := .int (sp_X_mix mo (fr (zk_ix3 a)))) (ws' := [(hm, .inr (5, [.ref mr, .ref mc, .int mp, .int mb, .int mi, .int me, .int ml, .int (sp_X_mix mo (fr (zk_ix3 a))), .int mt, .int (nI mS)])), (mr, .inl (cmr, 4, .inl fr)), (mc, .inl (cmc, 32, .inl fc)), (hr, .inr (2, [.ref hj, .ref ri, .int (nI rw), .int rt, .int rq, .int rc])), (ri, .inl (cR, 16, .inl fi)), (hj, .inr (1, [.ref jb, .int (nI jn), .int jm, .int jS, .int jl])), (jb, .inl (cJ, 300, .inl fb))]) in_M tok_M nok_M 0 rfl rfl 7 (by decide) (zk_m tw_127) rfl rfl rfl rfl (Nat.le_of_ble_eq_true rfl) d_M_perform_242 rfl ?_
                        refine zk_goto (pc := 245) X (tgt := 261) d_M_perform_245 (by decide) ?_
                        exact zk_vret (pc := 261) X hQ hRt hLk (fr, fc, mp, mi, me, ml, (sp_X_mix mo (fr (zk_ix3 a))), fi, rw, rt, fb, jn, jm, jS, jl) ⟨hq.symm, (show rw ≤ 16 by omega), (show jn ≤ 300 by omega)⟩ [0, 1, 2, 3, 4, 5, 6] rfl (by decide) d_M_perform_261
                      · have hq := hq.trans (if_neg h16_10)
                        refine zk_tableOut (pc := 16) X (tgt := 248) d_M_perform_16 (by have g0 := lv_neT (k := 0) (a := 0) h16_0 (by decide); have g1 := lv_neT (k := 1) (a := 1) h16_1 (by decide); have g2 := lv_neT (k := 2) (a := 2) h16_2 (by decide); have g3 := lv_neT (k := 3) (a := 3) h16_3 (by decide); have g4 := lv_neT (k := 4) (a := 4) h16_4 (by decide); have g5 := lv_neT (k := 5) (a := 5) h16_5 (by decide); have g6 := lv_neT (k := 6) (a := 6) h16_6 (by decide); have g7 := lv_neT (k := 7) (a := 7) h16_7 (by decide); have g8 := lv_neT (k := 8) (a := 8) h16_8 (by decide); have g9 := lv_neT (k := 9) (a := 9) h16_9 (by decide); have g10 := lv_neT (k := 10) (a := 10) h16_10 (by decide); omega) (by decide) ?_
                        refine zk_aload_n (pc := 248) X d_M_perform_248 rfl (q := 2) rfl ?_
                        refine zk_iload_n (pc := 249) X d_M_perform_249 rfl (q := 3) rfl ?_
                        refine zk_aload_n (pc := 250) X d_M_perform_250 rfl (q := 2) rfl ?_
                        refine zk_get (pc := 251) X (ci := 5) (v := .ref mr) in_M 0 rfl rfl 0 (by decide) (zk_m tw_120) rfl d_M_perform_251 ?_
                        refine zk_iload (pc := 254) X d_M_perform_254 (q := 1) rfl ?_
                        refine zk_iald (pc := 256) X 1 0 (zk_ix3 a) rfl rfl (zk_ix3_eq a) (zk_ix3_lt a) (by decide) d_M_perform_256 ?_
                        refine zk_iload_n (pc := 257) X d_M_perform_257 rfl (q := 5) rfl ?_
                        refine zk_callv (pc := 258) X (wc := [(hm, .inr (5, [.ref mr, .ref mc, .int mp, .int mb, .int mi, .int me, .int ml, .int mo, .int mt, .int (nI mS)])), (mr, .inl (cmr, 4, .inl fr)), (mc, .inl (cmc, 32, .inl fc))]) (wr := [(hr, .inr (2, [.ref hj, .ref ri, .int (nI rw), .int rt, .int rq, .int rc])), (ri, .inl (cR, 16, .inl fi)), (hj, .inr (1, [.ref jb, .int (nI jn), .int jm, .int jS, .int jl])), (jb, .inl (cJ, 300, .inl fb))]) [0, 1, 2] [3, 4, 5, 6] rfl rfl (by decide) (by decide) (by decide) (zk_runV X (C := R_M) (tysC := [(cmr, .int), (cmc, .int)]) (As := [.int o, .int (fr (zk_ix3 a)), .int b]) (rest := []) (c_M_turn l dC dI hm mr mc cmr cmc o (fr (zk_ix3 a)) b fr fc mp mb mi me ml mo mt mS) [0, 1] rfl (ci := 5) rfl 0 rfl (zk_cwV 3 X.1.2.2.2.2 (zk_goodT tw_278) rfl rfl rfl (zk_m tw_276) (zk_m tw_277) (zk_m tw_529) (zk_m tw_8) rfl (by decide +kernel) ⟨Nat.le_of_ble_eq_true rfl, Nat.le_of_ble_eq_true rfl⟩) rfl rfl (Nat.le_of_ble_eq_true rfl) ⟨Nat.zero_le _, Nat.zero_le _⟩ d_M_perform_258) ?_
                        rintro ⟨mp_258, mi_258, me_258⟩ w258
                        refine zk_ws (ws' := [(hr, .inr (2, [.ref hj, .ref ri, .int (nI rw), .int rt, .int rq, .int rc])), (ri, .inl (cR, 16, .inl fi)), (hj, .inr (1, [.ref jb, .int (nI jn), .int jm, .int jS, .int jl])), (jb, .inl (cJ, 300, .inl fb)), (hm, .inr (5, [.ref mr, .ref mc, .int mp_258, .int mb, .int mi_258, .int me_258, .int ml, .int mo, .int mt, .int (nI mS)])), (mr, .inl (cmr, 4, .inl fr)), (mc, .inl (cmc, 32, .inl fc))]) rfl ?_
                        try dsimp only at w258
                        rw [← w258] at hq
                        try dsimp only at hq
                        exact zk_vret (pc := 261) X hQ hRt hLk (fr, fc, mp_258, mi_258, me_258, ml, mo, fi, rw, rt, fb, jn, jm, jS, jl) ⟨hq.symm, (show rw ≤ 16 by omega), (show jn ≤ 300 by omega)⟩ [4, 5, 6, 0, 1, 2, 3] rfl (by decide) d_M_perform_261
def sp_M_stepR_125 (mt : Int32) (mS : Nat) (fr1 : Nat → Int32) (fc1 : Nat → Int32) (mp1 : Int32) (mb1 : Int32) (mi1 : Int32) (me1 : Int32) (ml1 : Int32) (mo1 : Int32) (fi1 : Nat → Int32) (rw1 : Nat) (rt1 : Int32) (rq1 : Int32) (fb1 : Nat → Int32) (jn1 : Nat) (jm1 : Int32) (jS1 : Int32) (jl1 : Int32) : Int32 × (Nat → Int32) × (Nat → Int32) × Int32 × Int32 × Int32 × Int32 × Int32 × Int32 × Int32 × Nat × Int32 × (Nat → Int32) × Nat × Int32 × (Nat → Int32) × Nat × Int32 × Int32 × Int32 :=
  (fun mt_126 =>
    (1, fr1, fc1, mp1, mb1, mi1, me1, ml1, mo1, mt_126, mS + 1, rq1, fi1, rw1, rt1, fb1, jn1, jm1, jS1, jl1)) (sp_M_followTrace fr1 mp1 mo1 mt)
def sp_M_stepR_68 (fr : Nat → Int32) (fc : Nat → Int32) (mp : Int32) (mb : Int32) (mi : Int32) (me : Int32) (ml : Int32) (mo : Int32) (mt : Int32) (mS : Nat) (fo : Nat → Int32) (ff : Nat → Int32) (fs : Nat → Int32) (pn : Nat) (fi : Nat → Int32) (rw : Nat) (rt : Int32) (rc : Int32) (rq1 : Int32) (fb1 : Nat → Int32) (jn1 : Nat) (jm1 : Int32) (jS1 : Int32) (jl1 : Int32) : Int32 × (Nat → Int32) × (Nat → Int32) × Int32 × Int32 × Int32 × Int32 × Int32 × Int32 × Int32 × Nat × Int32 × (Nat → Int32) × Nat × Int32 × (Nat → Int32) × Nat × Int32 × Int32 × Int32 :=
  if (sp_P_has mp pn) = 0 then
    sp_M_stepR_125 mt mS fr fc mp mb mi 1 ml mo fi rw rt rq1 fb1 jn1 jm1 jS1 jl1
  else
    (match sp_M_performR (fo mp.toNatClampNeg) (ff mp.toNatClampNeg) (fs mp.toNatClampNeg) fr fc (mp + 1) mb mi me ml mo (mS + 1) fi rw rt rc fb1 jn1 jm1 jS1 jl1 with
    | (fr_114, fc_114, mp_114, mi_114, me_114, ml_114, mo_114, fi_114, rw_114, rt_114, fb_114, jn_114, jm_114, jS_114, jl_114) =>
      sp_M_stepR_125 mt mS fr_114 fc_114 mp_114 mb mi_114 me_114 ml_114 mo_114 fi_114 rw_114 rt_114 rq1 fb_114 jn_114 jm_114 jS_114 jl_114)
def sp_M_stepR (fr : Nat → Int32) (fc : Nat → Int32) (mp : Int32) (mb : Int32) (mi : Int32) (me : Int32) (ml : Int32) (mo : Int32) (mt : Int32) (mS : Nat) (fo : Nat → Int32) (ff : Nat → Int32) (fs : Nat → Int32) (pn : Nat) (fi : Nat → Int32) (rw : Nat) (rt : Int32) (rq : Int32) (rc : Int32) (fb : Nat → Int32) (jn : Nat) (jm : Int32) (jS : Int32) (jl : Int32) : Int32 × (Nat → Int32) × (Nat → Int32) × Int32 × Int32 × Int32 × Int32 × Int32 × Int32 × Int32 × Nat × Int32 × (Nat → Int32) × Nat × Int32 × (Nat → Int32) × Nat × Int32 × Int32 × Int32 :=
  if me = 0 then
    if mi = 0 then
      if (sp_P_has 16 pn) = 0 then
        sp_M_stepR_68 fr fc mp mb mi me ml mo mt mS fo ff fs pn fi rw rt rc rq fb jn jm jS jl
      else
        (match sp_R_takeInterrupt (nI (mS + 1)) rq fb jn jm jS jl with
        | (r40, rq_40, fb_40, jn_40, jm_40, jS_40, jl_40) =>
          if r40 = 0 then
            sp_M_stepR_68 fr fc mp mb mi me ml mo mt mS fo ff fs pn fi rw rt rc rq_40 fb_40 jn_40 jm_40 jS_40 jl_40
          else
            sp_M_stepR_125 mt mS fr fc 16 mp 1 me ml mo fi rw rt rq_40 fb_40 jn_40 jm_40 jS_40 jl_40)
    else
      sp_M_stepR_68 fr fc mp mb mi me ml mo mt mS fo ff fs pn fi rw rt rc rq fb jn jm jS jl
  else
    (0, fr, fc, mp, mb, mi, me, ml, mo, mt, mS, rq, fi, rw, rt, fb, jn, jm, jS, jl)
abbrev rm_M_stepR : Room := { frames := 6, cells := 0, slots := 0, locals := 138 }
set_option maxHeartbeats 4000000 in
set_option maxRecDepth 100000 in
theorem c_M_stepR (l : Launch) (dC : Nat → ClassId) (dI : Nat → Nat → Nat) (hm mr mc hp po pf ps hr hj ri jb : Nat) (cmr cmc cPo cPf cPs cR cJ : ClassId) (fr : Nat → Int32) (fc : Nat → Int32) (mp : Int32) (mb : Int32) (mi : Int32) (me : Int32) (ml : Int32) (mo : Int32) (mt : Int32) (mS : Nat) (fo : Nat → Int32) (ff : Nat → Int32) (fs : Nat → Int32) (pn : Nat) (fi : Nat → Int32) (rw : Nat) (rt : Int32) (rq : Int32) (rc : Int32) (fb : Nat → Int32) (jn : Nat) (jm : Int32) (jS : Int32) (jl : Int32) (hpn : pn ≤ 24) (hrw : rw ≤ 16) (hjn : jn ≤ 300) : zk_Ci l y_M_step w_M_step rm_M_stepR (dC, dI) vwCl [.ref hm, .ref hp, .ref hr] [(hm, .inr (5, [.ref mr, .ref mc, .int mp, .int mb, .int mi, .int me, .int ml, .int mo, .int mt, .int (nI mS)])), (mr, .inl (cmr, 4, .inl fr)), (mc, .inl (cmc, 32, .inl fc)), (hp, .inr (0, [.ref po, .ref pf, .ref ps, .int (nI pn)])), (po, .inl (cPo, 24, .inl fo)), (pf, .inl (cPf, 24, .inl ff)), (ps, .inl (cPs, 24, .inl fs)), (hr, .inr (2, [.ref hj, .ref ri, .int (nI rw), .int rt, .int rq, .int rc])), (ri, .inl (cR, 16, .inl fi)), (hj, .inr (1, [.ref jb, .int (nI jn), .int jm, .int jS, .int jl])), (jb, .inl (cJ, 300, .inl fb))] [(cmr, .int), (cmc, .int), (cPo, .int), (cPf, .int), (cPs, .int), (cR, .int), (cJ, .int)] (fun (r : Int32) (u : (Nat → Int32) × (Nat → Int32) × Int32 × Int32 × Int32 × Int32 × Int32 × Int32 × Int32 × Nat × Int32 × (Nat → Int32) × Nat × Int32 × (Nat → Int32) × Nat × Int32 × Int32 × Int32) => (r, u) = sp_M_stepR fr fc mp mb mi me ml mo mt mS fo ff fs pn fi rw rt rq rc fb jn jm jS jl ∧ (u.2.2.2.2.2.2.2.2.2.2.2.2.1 ≤ 16) ∧ (u.2.2.2.2.2.2.2.2.2.2.2.2.2.2.2.1 ≤ 300)) (fun u => [(hm, .inr (5, [.ref mr, .ref mc, .int u.2.2.1, .int u.2.2.2.1, .int u.2.2.2.2.1, .int u.2.2.2.2.2.1, .int u.2.2.2.2.2.2.1, .int u.2.2.2.2.2.2.2.1, .int u.2.2.2.2.2.2.2.2.1, .int (nI u.2.2.2.2.2.2.2.2.2.1)])), (mr, .inl (cmr, 4, .inl u.1)), (mc, .inl (cmc, 32, .inl u.2.1)), (hp, .inr (0, [.ref po, .ref pf, .ref ps, .int (nI pn)])), (po, .inl (cPo, 24, .inl fo)), (pf, .inl (cPf, 24, .inl ff)), (ps, .inl (cPs, 24, .inl fs)), (hr, .inr (2, [.ref hj, .ref ri, .int (nI u.2.2.2.2.2.2.2.2.2.2.2.2.1), .int u.2.2.2.2.2.2.2.2.2.2.2.2.2.1, .int u.2.2.2.2.2.2.2.2.2.2.1, .int rc])), (ri, .inl (cR, 16, .inl u.2.2.2.2.2.2.2.2.2.2.2.1)), (hj, .inr (1, [.ref jb, .int (nI u.2.2.2.2.2.2.2.2.2.2.2.2.2.2.2.1), .int u.2.2.2.2.2.2.2.2.2.2.2.2.2.2.2.2.1, .int u.2.2.2.2.2.2.2.2.2.2.2.2.2.2.2.2.2.1, .int u.2.2.2.2.2.2.2.2.2.2.2.2.2.2.2.2.2.2])), (jb, .inl (cJ, 300, .inl u.2.2.2.2.2.2.2.2.2.2.2.2.2.2.1))]) := by
  refine zk_enteri (cc := b_M_step) (maxL := 4) (ret := some .boolean) (by decide) rfl (Nat.le_of_ble_eq_true rfl) ?_
  intro p e s m args below meth c A Q hQ X hRt hLk
  have cut125 : ∀ (fr1 : Nat → Int32) (fc1 : Nat → Int32) (mp1 : Int32) (mb1 : Int32) (mi1 : Int32) (me1 : Int32) (ml1 : Int32) (mo1 : Int32) (fi1 : Nat → Int32) (rw1 : Nat) (rt1 : Int32) (rq1 : Int32) (fb1 : Nat → Int32) (jn1 : Nat) (jm1 : Int32) (jS1 : Int32) (jl1 : Int32), (rw1 ≤ 16) → (jn1 ≤ 300) → sp_M_stepR fr fc mp mb mi me ml mo mt mS fo ff fs pn fi rw rt rq rc fb jn jm jS jl = sp_M_stepR_125 mt mS fr1 fc1 mp1 mb1 mi1 me1 ml1 mo1 fi1 rw1 rt1 rq1 fb1 jn1 jm1 jS1 jl1 → zk_Z p l e rm_M_stepR s m args below meth c Q A (dC, dI) vwCl 4 0 0 [(hm, .inr (5, [.ref mr, .ref mc, .int mp1, .int mb1, .int mi1, .int me1, .int ml1, .int mo1, .int mt, .int (nI (mS + 1))])), (mr, .inl (cmr, 4, .inl fr1)), (mc, .inl (cmc, 32, .inl fc1)), (hp, .inr (0, [.ref po, .ref pf, .ref ps, .int (nI pn)])), (po, .inl (cPo, 24, .inl fo)), (pf, .inl (cPf, 24, .inl ff)), (ps, .inl (cPs, 24, .inl fs)), (hr, .inr (2, [.ref hj, .ref ri, .int (nI rw1), .int rt1, .int rq1, .int rc])), (ri, .inl (cR, 16, .inl fi1)), (hj, .inr (1, [.ref jb, .int (nI jn1), .int jm1, .int jS1, .int jl1])), (jb, .inl (cJ, 300, .inl fb1))] [(0, .ref hm), (1, .ref hp), (2, .ref hr)] [] 125 := by
    intro fr1 fc1 mp1 mb1 mi1 me1 ml1 mo1 fi1 rw1 rt1 rq1 fb1 jn1 jm1 jS1 jl1 hw1 hn1 hq
    rw [sp_M_stepR_125] at hq
    refine zk_aload_n (pc := 125) X d_M_step_125 rfl (q := 0) rfl ?_
    refine zk_callv (pc := 126) X (wc := [(hm, .inr (5, [.ref mr, .ref mc, .int mp1, .int mb1, .int mi1, .int me1, .int ml1, .int mo1, .int mt, .int (nI (mS + 1))])), (mr, .inl (cmr, 4, .inl fr1)), (mc, .inl (cmc, 32, .inl fc1))]) (wr := [(hp, .inr (0, [.ref po, .ref pf, .ref ps, .int (nI pn)])), (po, .inl (cPo, 24, .inl fo)), (pf, .inl (cPf, 24, .inl ff)), (ps, .inl (cPs, 24, .inl fs)), (hr, .inr (2, [.ref hj, .ref ri, .int (nI rw1), .int rt1, .int rq1, .int rc])), (ri, .inl (cR, 16, .inl fi1)), (hj, .inr (1, [.ref jb, .int (nI jn1), .int jm1, .int jS1, .int jl1])), (jb, .inl (cJ, 300, .inl fb1))]) [0, 1, 2] [3, 4, 5, 6, 7, 8, 9, 10] rfl rfl (by decide) (by decide) (by decide) (zk_runV X (C := R_M) (tysC := [(cmr, .int), (cmc, .int)]) (As := []) (rest := []) (c_M_followTrace l dC dI hm mr mc cmr cmc fr1 fc1 mp1 mb1 mi1 me1 ml1 mo1 mt (mS + 1)) [0, 1] rfl (ci := 5) rfl 0 rfl (zk_cwV 0 X.1.2.2.2.2 (zk_goodT tw_281) rfl rfl rfl (zk_m tw_279) (zk_m tw_280) (zk_m tw_530) (zk_m tw_8) rfl (by decide +kernel) ⟨Nat.le_of_ble_eq_true rfl, Nat.le_of_ble_eq_true rfl⟩) rfl rfl (Nat.le_of_ble_eq_true rfl) ⟨Nat.zero_le _, Nat.zero_le _⟩ d_M_step_126) ?_
    rintro mt_126 w126
    refine zk_ws (ws' := [(hp, .inr (0, [.ref po, .ref pf, .ref ps, .int (nI pn)])), (po, .inl (cPo, 24, .inl fo)), (pf, .inl (cPf, 24, .inl ff)), (ps, .inl (cPs, 24, .inl fs)), (hr, .inr (2, [.ref hj, .ref ri, .int (nI rw1), .int rt1, .int rq1, .int rc])), (ri, .inl (cR, 16, .inl fi1)), (hj, .inr (1, [.ref jb, .int (nI jn1), .int jm1, .int jS1, .int jl1])), (jb, .inl (cJ, 300, .inl fb1)), (hm, .inr (5, [.ref mr, .ref mc, .int mp1, .int mb1, .int mi1, .int me1, .int ml1, .int mo1, .int mt_126, .int (nI (mS + 1))])), (mr, .inl (cmr, 4, .inl fr1)), (mc, .inl (cmc, 32, .inl fc1))]) rfl ?_
    try dsimp only at w126
    rw [← w126] at hq
    try dsimp only at hq
    refine zk_iconst (pc := 129) X (v := 1) d_M_step_129 rfl ?_
    exact zk_zret (pc := 130) X hQ hRt hLk rfl (fr1, fc1, mp1, mb1, mi1, me1, ml1, mo1, mt_126, mS + 1, rq1, fi1, rw1, rt1, fb1, jn1, jm1, jS1, jl1) ⟨hq.symm, (show rw1 ≤ 16 by omega), (show jn1 ≤ 300 by omega)⟩ [8, 9, 10, 0, 1, 2, 3, 4, 5, 6, 7] rfl (by decide) d_M_step_130
  have cut68 : ∀ (rq1 : Int32) (fb1 : Nat → Int32) (jn1 : Nat) (jm1 : Int32) (jS1 : Int32) (jl1 : Int32), (jn1 ≤ 300) → sp_M_stepR fr fc mp mb mi me ml mo mt mS fo ff fs pn fi rw rt rq rc fb jn jm jS jl = sp_M_stepR_68 fr fc mp mb mi me ml mo mt mS fo ff fs pn fi rw rt rc rq1 fb1 jn1 jm1 jS1 jl1 → zk_Z p l e rm_M_stepR s m args below meth c Q A (dC, dI) vwCl 4 0 0 [(hm, .inr (5, [.ref mr, .ref mc, .int mp, .int mb, .int mi, .int me, .int ml, .int mo, .int mt, .int (nI (mS + 1))])), (mr, .inl (cmr, 4, .inl fr)), (mc, .inl (cmc, 32, .inl fc)), (hp, .inr (0, [.ref po, .ref pf, .ref ps, .int (nI pn)])), (po, .inl (cPo, 24, .inl fo)), (pf, .inl (cPf, 24, .inl ff)), (ps, .inl (cPs, 24, .inl fs)), (hr, .inr (2, [.ref hj, .ref ri, .int (nI rw), .int rt, .int rq1, .int rc])), (ri, .inl (cR, 16, .inl fi)), (hj, .inr (1, [.ref jb, .int (nI jn1), .int jm1, .int jS1, .int jl1])), (jb, .inl (cJ, 300, .inl fb1))] [(0, .ref hm), (1, .ref hp), (2, .ref hr)] [] 68 := by
    intro rq1 fb1 jn1 jm1 jS1 jl1 hn1 hq
    rw [sp_M_stepR_68] at hq
    refine zk_aload_n (pc := 68) X d_M_step_68 rfl (q := 1) rfl ?_
    refine zk_aload_n (pc := 69) X d_M_step_69 rfl (q := 0) rfl ?_
    refine zk_get (pc := 70) X (ci := 5) (v := .int mp) in_M 0 rfl rfl 2 (by decide) (zk_m tw_122) rfl d_M_step_70 ?_
    refine zk_calli (pc := 73) X (wc := [(hp, .inr (0, [.ref po, .ref pf, .ref ps, .int (nI pn)])), (po, .inl (cPo, 24, .inl fo)), (pf, .inl (cPf, 24, .inl ff)), (ps, .inl (cPs, 24, .inl fs))]) (wr := [(hm, .inr (5, [.ref mr, .ref mc, .int mp, .int mb, .int mi, .int me, .int ml, .int mo, .int mt, .int (nI (mS + 1))])), (mr, .inl (cmr, 4, .inl fr)), (mc, .inl (cmc, 32, .inl fc)), (hr, .inr (2, [.ref hj, .ref ri, .int (nI rw), .int rt, .int rq1, .int rc])), (ri, .inl (cR, 16, .inl fi)), (hj, .inr (1, [.ref jb, .int (nI jn1), .int jm1, .int jS1, .int jl1])), (jb, .inl (cJ, 300, .inl fb1))]) [3, 4, 5, 6] [0, 1, 2, 7, 8, 9, 10] rfl rfl (by decide) (by decide) (by decide) (zk_runV X (C := R_P) (tysC := [(cPo, .int), (cPf, .int), (cPs, .int)]) (As := [.int mp]) (rest := []) (c_P_has l dC dI hp po pf ps cPo cPf cPs mp fo ff fs pn) [2, 3, 4] rfl (ci := 0) rfl 3 rfl (zk_cwV 1 X.1.2.2.2.2 (zk_goodT tw_215) rfl rfl rfl (zk_m tw_212) (zk_m tw_213) (zk_m tw_214) (zk_m tw_2) rfl (by decide +kernel) ⟨Nat.le_of_ble_eq_true rfl, Nat.le_of_ble_eq_true rfl⟩) rfl rfl (Nat.le_of_ble_eq_true rfl) ⟨Nat.zero_le _, Nat.zero_le _⟩ d_M_step_73) ?_
    rintro r73 ⟨⟩ ⟨w73, f73_0⟩
    have f73_0 : zk_hs r73 mp pn := f73_0
    refine zk_ws (ws' := [(hm, .inr (5, [.ref mr, .ref mc, .int mp, .int mb, .int mi, .int me, .int ml, .int mo, .int mt, .int (nI (mS + 1))])), (mr, .inl (cmr, 4, .inl fr)), (mc, .inl (cmc, 32, .inl fc)), (hr, .inr (2, [.ref hj, .ref ri, .int (nI rw), .int rt, .int rq1, .int rc])), (ri, .inl (cR, 16, .inl fi)), (hj, .inr (1, [.ref jb, .int (nI jn1), .int jm1, .int jS1, .int jl1])), (jb, .inl (cJ, 300, .inl fb1)), (hp, .inr (0, [.ref po, .ref pf, .ref ps, .int (nI pn)])), (po, .inl (cPo, 24, .inl fo)), (pf, .inl (cPf, 24, .inl ff)), (ps, .inl (cPs, 24, .inl fs))]) rfl ?_
    subst w73
    refine zk_if_eq (pc := 76) X (tgt := 120) d_M_step_76 (by decide) (fun h76 => ?_) (fun h76 => ?_)
    · have hq := hq.trans (if_pos h76)
      refine zk_aload_n (pc := 120) X d_M_step_120 rfl (q := 0) rfl ?_
      refine zk_iconst (pc := 121) X (v := 1) d_M_step_121 rfl ?_
      refine zk_put (pc := 122) X (ty := .boolean) (v := .int 1) (ws' := [(hm, .inr (5, [.ref mr, .ref mc, .int mp, .int mb, .int mi, .int 1, .int ml, .int mo, .int mt, .int (nI (mS + 1))])), (mr, .inl (cmr, 4, .inl fr)), (mc, .inl (cmc, 32, .inl fc)), (hr, .inr (2, [.ref hj, .ref ri, .int (nI rw), .int rt, .int rq1, .int rc])), (ri, .inl (cR, 16, .inl fi)), (hj, .inr (1, [.ref jb, .int (nI jn1), .int jm1, .int jS1, .int jl1])), (jb, .inl (cJ, 300, .inl fb1)), (hp, .inr (0, [.ref po, .ref pf, .ref ps, .int (nI pn)])), (po, .inl (cPo, 24, .inl fo)), (pf, .inl (cPf, 24, .inl ff)), (ps, .inl (cPs, 24, .inl fs))]) in_M tok_M nok_M 0 rfl rfl 5 (by decide) (zk_m tw_125) rfl rfl rfl rfl (Nat.le_of_ble_eq_true rfl) d_M_step_122 rfl ?_
      refine zk_perm (ws' := [(hm, .inr (5, [.ref mr, .ref mc, .int mp, .int mb, .int mi, .int 1, .int ml, .int mo, .int mt, .int (nI (mS + 1))])), (mr, .inl (cmr, 4, .inl fr)), (mc, .inl (cmc, 32, .inl fc)), (hp, .inr (0, [.ref po, .ref pf, .ref ps, .int (nI pn)])), (po, .inl (cPo, 24, .inl fo)), (pf, .inl (cPf, 24, .inl ff)), (ps, .inl (cPs, 24, .inl fs)), (hr, .inr (2, [.ref hj, .ref ri, .int (nI rw), .int rt, .int rq1, .int rc])), (ri, .inl (cR, 16, .inl fi)), (hj, .inr (1, [.ref jb, .int (nI jn1), .int jm1, .int jS1, .int jl1])), (jb, .inl (cJ, 300, .inl fb1))]) [0, 1, 2, 7, 8, 9, 10, 3, 4, 5, 6] rfl (by decide) ?_
      exact cut125 fr fc mp mb mi 1 ml mo fi rw rt rq1 fb1 jn1 jm1 jS1 jl1 (by omega) (by omega) hq
    · have hq := hq.trans (if_neg h76)
      refine zk_aload_n (pc := 79) X d_M_step_79 rfl (q := 0) rfl ?_
      refine zk_get (pc := 80) X (ci := 5) (v := .int mp) in_M 0 rfl rfl 2 (by decide) (zk_m tw_122) rfl d_M_step_80 ?_
      refine zk_istore_n (pc := 83) X (i := 3) (lv' := [(3, .int mp), (0, .ref hm), (1, .ref hp), (2, .ref hr)]) d_M_step_83 rfl (by decide) rfl ?_
      refine zk_aload_n (pc := 84) X d_M_step_84 rfl (q := 1) rfl ?_
      refine zk_dup (pc := 85) X d_M_step_85 rfl ?_
      refine zk_get (pc := 86) X (ci := 5) (v := .int mp) in_M 0 rfl rfl 2 (by decide) (zk_m tw_122) rfl d_M_step_86 ?_
      refine zk_iconst (pc := 89) X (v := 1) d_M_step_89 rfl ?_
      refine zk_iadd (pc := 90) X (v := (mp + 1)) d_M_step_90 rfl ?_
      refine zk_put (pc := 91) X (ty := .int) (v := .int (mp + 1)) (ws' := [(hm, .inr (5, [.ref mr, .ref mc, .int (mp + 1), .int mb, .int mi, .int me, .int ml, .int mo, .int mt, .int (nI (mS + 1))])), (mr, .inl (cmr, 4, .inl fr)), (mc, .inl (cmc, 32, .inl fc)), (hr, .inr (2, [.ref hj, .ref ri, .int (nI rw), .int rt, .int rq1, .int rc])), (ri, .inl (cR, 16, .inl fi)), (hj, .inr (1, [.ref jb, .int (nI jn1), .int jm1, .int jS1, .int jl1])), (jb, .inl (cJ, 300, .inl fb1)), (hp, .inr (0, [.ref po, .ref pf, .ref ps, .int (nI pn)])), (po, .inl (cPo, 24, .inl fo)), (pf, .inl (cPf, 24, .inl ff)), (ps, .inl (cPs, 24, .inl fs))]) in_M tok_M nok_M 0 rfl rfl 2 (by decide) (zk_m tw_122) rfl rfl rfl rfl (Nat.le_of_ble_eq_true rfl) d_M_step_91 rfl ?_
      refine zk_aload_n (pc := 94) X d_M_step_94 rfl (q := 1) rfl ?_
      refine zk_aload_n (pc := 95) X d_M_step_95 rfl (q := 2) rfl ?_
      refine zk_get (pc := 96) X (ci := 0) (v := .ref po) in_P 7 rfl rfl 0 (by decide) (zk_m tw_26) rfl d_M_step_96 ?_
      refine zk_iload_n (pc := 99) X d_M_step_99 rfl (q := 0) rfl ?_
      refine zk_iald (pc := 100) X 8 2 (mp.toNatClampNeg) rfl rfl (zk_hasI f73_0 h76).1 (zk_hasL f73_0 h76 hpn) (by decide) d_M_step_100 ?_
      refine zk_aload_n (pc := 101) X d_M_step_101 rfl (q := 2) rfl ?_
      refine zk_get (pc := 102) X (ci := 0) (v := .ref pf) in_P 7 rfl rfl 1 (by decide) (zk_m tw_28) rfl d_M_step_102 ?_
      refine zk_iload_n (pc := 105) X d_M_step_105 rfl (q := 0) rfl ?_
      refine zk_iald (pc := 106) X 9 3 (mp.toNatClampNeg) rfl rfl (zk_hasI f73_0 h76).1 (zk_hasL f73_0 h76 hpn) (by decide) d_M_step_106 ?_
      refine zk_aload_n (pc := 107) X d_M_step_107 rfl (q := 2) rfl ?_
      refine zk_get (pc := 108) X (ci := 0) (v := .ref ps) in_P 7 rfl rfl 2 (by decide) (zk_m tw_30) rfl d_M_step_108 ?_
      refine zk_iload_n (pc := 111) X d_M_step_111 rfl (q := 0) rfl ?_
      refine zk_iald (pc := 112) X 10 4 (mp.toNatClampNeg) rfl rfl (zk_hasI f73_0 h76).1 (zk_hasL f73_0 h76 hpn) (by decide) d_M_step_112 ?_
      refine zk_aload_n (pc := 113) X d_M_step_113 rfl (q := 3) rfl ?_
      refine zk_callv (pc := 114) X (wc := [(hm, .inr (5, [.ref mr, .ref mc, .int (mp + 1), .int mb, .int mi, .int me, .int ml, .int mo, .int mt, .int (nI (mS + 1))])), (mr, .inl (cmr, 4, .inl fr)), (mc, .inl (cmc, 32, .inl fc)), (hr, .inr (2, [.ref hj, .ref ri, .int (nI rw), .int rt, .int rq1, .int rc])), (ri, .inl (cR, 16, .inl fi)), (hj, .inr (1, [.ref jb, .int (nI jn1), .int jm1, .int jS1, .int jl1])), (jb, .inl (cJ, 300, .inl fb1))]) (wr := [(hp, .inr (0, [.ref po, .ref pf, .ref ps, .int (nI pn)])), (po, .inl (cPo, 24, .inl fo)), (pf, .inl (cPf, 24, .inl ff)), (ps, .inl (cPs, 24, .inl fs))]) [0, 1, 2, 3, 4, 5, 6] [7, 8, 9, 10] rfl rfl (by decide) (by decide) (by decide) (zk_runV X (C := R_M) (tysC := [(cmr, .int), (cmc, .int), (cR, .int), (cJ, .int)]) (As := [.int (fo mp.toNatClampNeg), .int (ff mp.toNatClampNeg), .int (fs mp.toNatClampNeg), .ref hr]) (rest := []) (c_M_performR l dC dI hm mr mc hr hj ri jb cmr cmc cR cJ (fo mp.toNatClampNeg) (ff mp.toNatClampNeg) (fs mp.toNatClampNeg) fr fc (mp + 1) mb mi me ml mo mt (mS + 1) fi rw rt rq1 rc fb1 jn1 jm1 jS1 jl1 (by omega) (by omega)) [0, 1, 5, 6] rfl (ci := 5) rfl 0 rfl (zk_cwV 4 X.1.2.2.2.2 (zk_goodT tw_254) rfl rfl rfl (zk_m tw_252) (zk_m tw_253) (zk_m tw_528) (zk_m tw_8) rfl (by decide +kernel) ⟨Nat.le_of_ble_eq_true rfl, Nat.le_of_ble_eq_true rfl⟩) rfl rfl (Nat.le_of_ble_eq_true rfl) ⟨Nat.zero_le _, Nat.zero_le _⟩ d_M_step_114) ?_
      rintro ⟨fr_114, fc_114, mp_114, mi_114, me_114, ml_114, mo_114, fi_114, rw_114, rt_114, fb_114, jn_114, jm_114, jS_114, jl_114⟩ ⟨w114, f114_0, f114_1⟩
      have f114_0 : rw_114 ≤ 16 := f114_0
      have f114_1 : jn_114 ≤ 300 := f114_1
      refine zk_ws (ws' := [(hp, .inr (0, [.ref po, .ref pf, .ref ps, .int (nI pn)])), (po, .inl (cPo, 24, .inl fo)), (pf, .inl (cPf, 24, .inl ff)), (ps, .inl (cPs, 24, .inl fs)), (hm, .inr (5, [.ref mr, .ref mc, .int mp_114, .int mb, .int mi_114, .int me_114, .int ml_114, .int mo_114, .int mt, .int (nI (mS + 1))])), (mr, .inl (cmr, 4, .inl fr_114)), (mc, .inl (cmc, 32, .inl fc_114)), (hr, .inr (2, [.ref hj, .ref ri, .int (nI rw_114), .int rt_114, .int rq1, .int rc])), (ri, .inl (cR, 16, .inl fi_114)), (hj, .inr (1, [.ref jb, .int (nI jn_114), .int jm_114, .int jS_114, .int jl_114])), (jb, .inl (cJ, 300, .inl fb_114))]) rfl ?_
      try dsimp only at w114
      rw [← w114] at hq
      try dsimp only at hq
      refine zk_goto (pc := 117) X (tgt := 125) d_M_step_117 (by decide) ?_
      refine zk_perm (ws' := [(hm, .inr (5, [.ref mr, .ref mc, .int mp_114, .int mb, .int mi_114, .int me_114, .int ml_114, .int mo_114, .int mt, .int (nI (mS + 1))])), (mr, .inl (cmr, 4, .inl fr_114)), (mc, .inl (cmc, 32, .inl fc_114)), (hp, .inr (0, [.ref po, .ref pf, .ref ps, .int (nI pn)])), (po, .inl (cPo, 24, .inl fo)), (pf, .inl (cPf, 24, .inl ff)), (ps, .inl (cPs, 24, .inl fs)), (hr, .inr (2, [.ref hj, .ref ri, .int (nI rw_114), .int rt_114, .int rq1, .int rc])), (ri, .inl (cR, 16, .inl fi_114)), (hj, .inr (1, [.ref jb, .int (nI jn_114), .int jm_114, .int jS_114, .int jl_114])), (jb, .inl (cJ, 300, .inl fb_114))]) [4, 5, 6, 0, 1, 2, 3, 7, 8, 9, 10] rfl (by decide) ?_
      refine zk_lv (lv' := [(0, .ref hm), (1, .ref hp), (2, .ref hr)]) [1, 2, 3] rfl ?_
      exact cut125 fr_114 fc_114 mp_114 mb mi_114 me_114 ml_114 mo_114 fi_114 rw_114 rt_114 rq1 fb_114 jn_114 jm_114 jS_114 jl_114 (by omega) (by omega) hq
  have hq := sp_M_stepR.eq_1 fr fc mp mb mi me ml mo mt mS fo ff fs pn fi rw rt rq rc fb jn jm jS jl
  refine zk_lv (lv' := [(0, .ref hm), (1, .ref hp), (2, .ref hr)]) [0, 1, 2] rfl ?_
  refine zk_aload_n (pc := 0) X d_M_step_0 rfl (q := 0) rfl ?_
  refine zk_get (pc := 1) X (ci := 5) (v := .int me) in_M 0 rfl rfl 5 (by decide) (zk_m tw_125) rfl d_M_step_1 ?_
  refine zk_if_eq (pc := 4) X (tgt := 9) d_M_step_4 (by decide) (fun h4 => ?_) (fun h4 => ?_)
  · have hq := hq.trans (if_pos h4)
    refine zk_aload_n (pc := 9) X d_M_step_9 rfl (q := 0) rfl ?_
    refine zk_dup (pc := 10) X d_M_step_10 rfl ?_
    refine zk_get (pc := 11) X (ci := 5) (v := .int (nI mS)) in_M 0 rfl rfl 9 (by decide) (zk_m tw_129) rfl d_M_step_11 ?_
    refine zk_iconst (pc := 14) X (v := 1) d_M_step_14 rfl ?_
    refine zk_iadd (pc := 15) X (v := nI (mS + 1)) d_M_step_15 (nI_add (mS) (1)) ?_
    refine zk_put (pc := 16) X (ty := .int) (v := .int (nI (mS + 1))) (ws' := [(hm, .inr (5, [.ref mr, .ref mc, .int mp, .int mb, .int mi, .int me, .int ml, .int mo, .int mt, .int (nI (mS + 1))])), (mr, .inl (cmr, 4, .inl fr)), (mc, .inl (cmc, 32, .inl fc)), (hp, .inr (0, [.ref po, .ref pf, .ref ps, .int (nI pn)])), (po, .inl (cPo, 24, .inl fo)), (pf, .inl (cPf, 24, .inl ff)), (ps, .inl (cPs, 24, .inl fs)), (hr, .inr (2, [.ref hj, .ref ri, .int (nI rw), .int rt, .int rq, .int rc])), (ri, .inl (cR, 16, .inl fi)), (hj, .inr (1, [.ref jb, .int (nI jn), .int jm, .int jS, .int jl])), (jb, .inl (cJ, 300, .inl fb))]) in_M tok_M nok_M 0 rfl rfl 9 (by decide) (zk_m tw_129) rfl rfl rfl rfl (Nat.le_of_ble_eq_true rfl) d_M_step_16 rfl ?_
    refine zk_aload_n (pc := 19) X d_M_step_19 rfl (q := 0) rfl ?_
    refine zk_get (pc := 20) X (ci := 5) (v := .int mi) in_M 0 rfl rfl 4 (by decide) (zk_m tw_124) rfl d_M_step_20 ?_
    refine zk_if_ne (pc := 23) X (tgt := 68) d_M_step_23 (by decide) (fun h23 => ?_) (fun h23 => ?_)
    · have hq := hq.trans (if_neg h23)
      exact cut68 rq fb jn jm jS jl (by omega) hq
    · have hq := hq.trans (if_pos h23)
      refine zk_aload_n (pc := 26) X d_M_step_26 rfl (q := 1) rfl ?_
      refine zk_bipush (pc := 27) X (v := 16) d_M_step_27 (by decide) ?_
      refine zk_calli (pc := 29) X (wc := [(hp, .inr (0, [.ref po, .ref pf, .ref ps, .int (nI pn)])), (po, .inl (cPo, 24, .inl fo)), (pf, .inl (cPf, 24, .inl ff)), (ps, .inl (cPs, 24, .inl fs))]) (wr := [(hm, .inr (5, [.ref mr, .ref mc, .int mp, .int mb, .int mi, .int me, .int ml, .int mo, .int mt, .int (nI (mS + 1))])), (mr, .inl (cmr, 4, .inl fr)), (mc, .inl (cmc, 32, .inl fc)), (hr, .inr (2, [.ref hj, .ref ri, .int (nI rw), .int rt, .int rq, .int rc])), (ri, .inl (cR, 16, .inl fi)), (hj, .inr (1, [.ref jb, .int (nI jn), .int jm, .int jS, .int jl])), (jb, .inl (cJ, 300, .inl fb))]) [3, 4, 5, 6] [0, 1, 2, 7, 8, 9, 10] rfl rfl (by decide) (by decide) (by decide) (zk_runV X (C := R_P) (tysC := [(cPo, .int), (cPf, .int), (cPs, .int)]) (As := [.int 16]) (rest := []) (c_P_has l dC dI hp po pf ps cPo cPf cPs 16 fo ff fs pn) [2, 3, 4] rfl (ci := 0) rfl 3 rfl (zk_cwV 1 X.1.2.2.2.2 (zk_goodT tw_215) rfl rfl rfl (zk_m tw_212) (zk_m tw_213) (zk_m tw_214) (zk_m tw_2) rfl (by decide +kernel) ⟨Nat.le_of_ble_eq_true rfl, Nat.le_of_ble_eq_true rfl⟩) rfl rfl (Nat.le_of_ble_eq_true rfl) ⟨Nat.zero_le _, Nat.zero_le _⟩ d_M_step_29) ?_
      rintro r29 ⟨⟩ ⟨w29, f29_0⟩
      have f29_0 : zk_hs r29 16 pn := f29_0
      refine zk_ws (ws' := [(hm, .inr (5, [.ref mr, .ref mc, .int mp, .int mb, .int mi, .int me, .int ml, .int mo, .int mt, .int (nI (mS + 1))])), (mr, .inl (cmr, 4, .inl fr)), (mc, .inl (cmc, 32, .inl fc)), (hr, .inr (2, [.ref hj, .ref ri, .int (nI rw), .int rt, .int rq, .int rc])), (ri, .inl (cR, 16, .inl fi)), (hj, .inr (1, [.ref jb, .int (nI jn), .int jm, .int jS, .int jl])), (jb, .inl (cJ, 300, .inl fb)), (hp, .inr (0, [.ref po, .ref pf, .ref ps, .int (nI pn)])), (po, .inl (cPo, 24, .inl fo)), (pf, .inl (cPf, 24, .inl ff)), (ps, .inl (cPs, 24, .inl fs))]) rfl ?_
      subst w29
      refine zk_if_eq (pc := 32) X (tgt := 68) d_M_step_32 (by decide) (fun h32 => ?_) (fun h32 => ?_)
      · have hq := hq.trans (if_pos h32)
        refine zk_perm (ws' := [(hm, .inr (5, [.ref mr, .ref mc, .int mp, .int mb, .int mi, .int me, .int ml, .int mo, .int mt, .int (nI (mS + 1))])), (mr, .inl (cmr, 4, .inl fr)), (mc, .inl (cmc, 32, .inl fc)), (hp, .inr (0, [.ref po, .ref pf, .ref ps, .int (nI pn)])), (po, .inl (cPo, 24, .inl fo)), (pf, .inl (cPf, 24, .inl ff)), (ps, .inl (cPs, 24, .inl fs)), (hr, .inr (2, [.ref hj, .ref ri, .int (nI rw), .int rt, .int rq, .int rc])), (ri, .inl (cR, 16, .inl fi)), (hj, .inr (1, [.ref jb, .int (nI jn), .int jm, .int jS, .int jl])), (jb, .inl (cJ, 300, .inl fb))]) [0, 1, 2, 7, 8, 9, 10, 3, 4, 5, 6] rfl (by decide) ?_
        exact cut68 rq fb jn jm jS jl (by omega) hq
      · have hq := hq.trans (if_neg h32)
        refine zk_aload_n (pc := 35) X d_M_step_35 rfl (q := 2) rfl ?_
        refine zk_aload_n (pc := 36) X d_M_step_36 rfl (q := 0) rfl ?_
        refine zk_get (pc := 37) X (ci := 5) (v := .int (nI (mS + 1))) in_M 0 rfl rfl 9 (by decide) (zk_m tw_129) rfl d_M_step_37 ?_
        refine zk_calli (pc := 40) X (wc := [(hr, .inr (2, [.ref hj, .ref ri, .int (nI rw), .int rt, .int rq, .int rc])), (ri, .inl (cR, 16, .inl fi)), (hj, .inr (1, [.ref jb, .int (nI jn), .int jm, .int jS, .int jl])), (jb, .inl (cJ, 300, .inl fb))]) (wr := [(hm, .inr (5, [.ref mr, .ref mc, .int mp, .int mb, .int mi, .int me, .int ml, .int mo, .int mt, .int (nI (mS + 1))])), (mr, .inl (cmr, 4, .inl fr)), (mc, .inl (cmc, 32, .inl fc)), (hp, .inr (0, [.ref po, .ref pf, .ref ps, .int (nI pn)])), (po, .inl (cPo, 24, .inl fo)), (pf, .inl (cPf, 24, .inl ff)), (ps, .inl (cPs, 24, .inl fs))]) [3, 4, 5, 6] [0, 1, 2, 7, 8, 9, 10] rfl rfl (by decide) (by decide) (by decide) (zk_runU X (tysC := [(cR, .int), (cJ, .int)]) (As := [.int (nI (mS + 1))]) (rest := []) (c_R_takeInterrupt l dC dI hr hj ri jb cR cJ (nI (mS + 1)) fi rw rt rq rc fb jn jm jS jl (by omega)) [5, 6] rfl (ci := 2) rfl 3 rfl (zk_cwA 1 X.1.2.2.2.2 (zk_goodT tw_220) rfl rfl rfl (zk_m tw_216) (zk_m tw_217) (zk_m tw_218) (zk_m tw_219) (zk_m tw_5) X.2.2.2.2.2.2.2.1 (by decide +kernel) ⟨Nat.le_of_ble_eq_true rfl, Nat.le_of_ble_eq_true rfl⟩) rfl rfl (Nat.le_of_ble_eq_true rfl) ⟨Nat.zero_le _, Nat.zero_le _⟩ d_M_step_40) ?_
        rintro r40 ⟨rq_40, fb_40, jn_40, jm_40, jS_40, jl_40⟩ ⟨w40, f40_0⟩
        have f40_0 : jn_40 ≤ 300 := f40_0
        refine zk_ws (ws' := [(hm, .inr (5, [.ref mr, .ref mc, .int mp, .int mb, .int mi, .int me, .int ml, .int mo, .int mt, .int (nI (mS + 1))])), (mr, .inl (cmr, 4, .inl fr)), (mc, .inl (cmc, 32, .inl fc)), (hp, .inr (0, [.ref po, .ref pf, .ref ps, .int (nI pn)])), (po, .inl (cPo, 24, .inl fo)), (pf, .inl (cPf, 24, .inl ff)), (ps, .inl (cPs, 24, .inl fs)), (hr, .inr (2, [.ref hj, .ref ri, .int (nI rw), .int rt, .int rq_40, .int rc])), (ri, .inl (cR, 16, .inl fi)), (hj, .inr (1, [.ref jb, .int (nI jn_40), .int jm_40, .int jS_40, .int jl_40])), (jb, .inl (cJ, 300, .inl fb_40))]) rfl ?_
        try dsimp only at w40
        rw [← w40] at hq
        try dsimp only at hq
        refine zk_if_eq (pc := 43) X (tgt := 68) d_M_step_43 (by decide) (fun h43 => ?_) (fun h43 => ?_)
        · have hq := hq.trans (if_pos h43)
          exact cut68 rq_40 fb_40 jn_40 jm_40 jS_40 jl_40 (by omega) hq
        · have hq := hq.trans (if_neg h43)
          refine zk_aload_n (pc := 46) X d_M_step_46 rfl (q := 0) rfl ?_
          refine zk_aload_n (pc := 47) X d_M_step_47 rfl (q := 0) rfl ?_
          refine zk_get (pc := 48) X (ci := 5) (v := .int mp) in_M 0 rfl rfl 2 (by decide) (zk_m tw_122) rfl d_M_step_48 ?_
          refine zk_put (pc := 51) X (ty := .int) (v := .int mp) (ws' := [(hm, .inr (5, [.ref mr, .ref mc, .int mp, .int mp, .int mi, .int me, .int ml, .int mo, .int mt, .int (nI (mS + 1))])), (mr, .inl (cmr, 4, .inl fr)), (mc, .inl (cmc, 32, .inl fc)), (hp, .inr (0, [.ref po, .ref pf, .ref ps, .int (nI pn)])), (po, .inl (cPo, 24, .inl fo)), (pf, .inl (cPf, 24, .inl ff)), (ps, .inl (cPs, 24, .inl fs)), (hr, .inr (2, [.ref hj, .ref ri, .int (nI rw), .int rt, .int rq_40, .int rc])), (ri, .inl (cR, 16, .inl fi)), (hj, .inr (1, [.ref jb, .int (nI jn_40), .int jm_40, .int jS_40, .int jl_40])), (jb, .inl (cJ, 300, .inl fb_40))]) in_M tok_M nok_M 0 rfl rfl 3 (by decide) (zk_m tw_123) rfl rfl rfl rfl (Nat.le_of_ble_eq_true rfl) d_M_step_51 rfl ?_
          refine zk_aload_n (pc := 54) X d_M_step_54 rfl (q := 0) rfl ?_
          refine zk_bipush (pc := 55) X (v := 16) d_M_step_55 (by decide) ?_
          refine zk_put (pc := 57) X (ty := .int) (v := .int 16) (ws' := [(hm, .inr (5, [.ref mr, .ref mc, .int 16, .int mp, .int mi, .int me, .int ml, .int mo, .int mt, .int (nI (mS + 1))])), (mr, .inl (cmr, 4, .inl fr)), (mc, .inl (cmc, 32, .inl fc)), (hp, .inr (0, [.ref po, .ref pf, .ref ps, .int (nI pn)])), (po, .inl (cPo, 24, .inl fo)), (pf, .inl (cPf, 24, .inl ff)), (ps, .inl (cPs, 24, .inl fs)), (hr, .inr (2, [.ref hj, .ref ri, .int (nI rw), .int rt, .int rq_40, .int rc])), (ri, .inl (cR, 16, .inl fi)), (hj, .inr (1, [.ref jb, .int (nI jn_40), .int jm_40, .int jS_40, .int jl_40])), (jb, .inl (cJ, 300, .inl fb_40))]) in_M tok_M nok_M 0 rfl rfl 2 (by decide) (zk_m tw_122) rfl rfl rfl rfl (Nat.le_of_ble_eq_true rfl) d_M_step_57 rfl ?_
          refine zk_aload_n (pc := 60) X d_M_step_60 rfl (q := 0) rfl ?_
          refine zk_iconst (pc := 61) X (v := 1) d_M_step_61 rfl ?_
          refine zk_put (pc := 62) X (ty := .boolean) (v := .int 1) (ws' := [(hm, .inr (5, [.ref mr, .ref mc, .int 16, .int mp, .int 1, .int me, .int ml, .int mo, .int mt, .int (nI (mS + 1))])), (mr, .inl (cmr, 4, .inl fr)), (mc, .inl (cmc, 32, .inl fc)), (hp, .inr (0, [.ref po, .ref pf, .ref ps, .int (nI pn)])), (po, .inl (cPo, 24, .inl fo)), (pf, .inl (cPf, 24, .inl ff)), (ps, .inl (cPs, 24, .inl fs)), (hr, .inr (2, [.ref hj, .ref ri, .int (nI rw), .int rt, .int rq_40, .int rc])), (ri, .inl (cR, 16, .inl fi)), (hj, .inr (1, [.ref jb, .int (nI jn_40), .int jm_40, .int jS_40, .int jl_40])), (jb, .inl (cJ, 300, .inl fb_40))]) in_M tok_M nok_M 0 rfl rfl 4 (by decide) (zk_m tw_124) rfl rfl rfl rfl (Nat.le_of_ble_eq_true rfl) d_M_step_62 rfl ?_
          refine zk_goto (pc := 65) X (tgt := 125) d_M_step_65 (by decide) ?_
          exact cut125 fr fc 16 mp 1 me ml mo fi rw rt rq_40 fb_40 jn_40 jm_40 jS_40 jl_40 (by omega) (by omega) hq
  · have hq := hq.trans (if_neg h4)
    refine zk_iconst (pc := 7) X (v := 0) d_M_step_7 rfl ?_
    exact zk_zret (pc := 8) X hQ hRt hLk rfl (fr, fc, mp, mb, mi, me, ml, mo, mt, mS, rq, fi, rw, rt, fb, jn, jm, jS, jl) ⟨hq.symm, (show rw ≤ 16 by omega), (show jn ≤ 300 by omega)⟩ [0, 1, 2, 3, 4, 5, 6, 7, 8, 9, 10] rfl (by decide) d_M_step_8
