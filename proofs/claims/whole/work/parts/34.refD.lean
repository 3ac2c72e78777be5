def sp_Y_trace (M : Nat) (x : Int32) (gm : Nat → Int32) : (Nat → Int32) :=
  (upd gm (M + 6) (((gm (M + 6)) ^^^ x) * 16777619))
abbrev rm_Y_trace : Room := { frames := 0, cells := 0, slots := 0, locals := 0 }
set_option maxHeartbeats 4000000 in
set_option maxRecDepth 100000 in
theorem c_Y_trace (l : Launch) (dC : Nat → ClassId) (dI : Nat → Nat → Nat) (hy yo yf yb ym yi yL yT yK yV : Nat) (cYm : ClassId) (M : Nat) (x : Int32) (gm : Nat → Int32) (ys : Int32) (yn : Nat) (yg : Int32) (yc : Int32) (yw : Nat) (yq : Int32) (yl : Nat) (ye : Int32) (yt : Int32) (yS : Int32) (yr : Nat) (ya : Nat) (hM : M ≤ 48) : zk_Cv l y_Y_trace w_Y_trace rm_Y_trace (dC, dI) vwCl [.ref hy, .int (nI M), .int x] [(hy, .inr (7, [.int ys, .int (nI yn), .ref yo, .ref yf, .ref yb, .int yg, .ref ym, .int yc, .int (nI yw), .ref yi, .int yq, .int (nI yl), .ref yL, .int ye, .int yt, .int yS, .int (nI yr), .int (nI ya), .ref yT, .ref yK, .ref yV])), (ym, .inl (cYm, 96, .inl gm))] [(cYm, .int)] (fun (u : (Nat → Int32)) => u = sp_Y_trace M x gm) (fun u => [(hy, .inr (7, [.int ys, .int (nI yn), .ref yo, .ref yf, .ref yb, .int yg, .ref ym, .int yc, .int (nI yw), .ref yi, .int yq, .int (nI yl), .ref yL, .int ye, .int yt, .int yS, .int (nI yr), .int (nI ya), .ref yT, .ref yK, .ref yV])), (ym, .inl (cYm, 96, .inl u))]) := by
  refine zk_enterv (cc := b_Y_trace) (maxL := 3) (ret := none) (by decide) rfl (Nat.le_of_ble_eq_true rfl) ?_
  intro p e s m args below meth c A Q hQ X hRt hLk
  have hq := sp_Y_trace.eq_1 M x gm
  refine zk_lv (lv' := [(0, .ref hy), (1, .int (nI M)), (2, .int x)]) [0, 1, 2] rfl ?_
  refine zk_aload_n (pc := 0) X d_Y_trace_0 rfl (q := 0) rfl ?_
  refine zk_get (pc := 1) X (ci := 7) (v := .ref ym) in_Y 0 rfl rfl 6 (by decide) (zk_m tw_368) rfl d_Y_trace_1 ?_
  refine zk_iload_n (pc := 4) X d_Y_trace_4 rfl (q := 1) rfl ?_
  refine zk_bipush (pc := 5) X (v := 6) d_Y_trace_5 (by decide) ?_
  refine zk_iadd (pc := 7) X (v := nI (M + 6)) d_Y_trace_7 (nI_add (M) (6)) ?_
  refine zk_aload_n (pc := 8) X d_Y_trace_8 rfl (q := 0) rfl ?_
  refine zk_get (pc := 9) X (ci := 7) (v := .ref ym) in_Y 0 rfl rfl 6 (by decide) (zk_m tw_368) rfl d_Y_trace_9 ?_
  refine zk_iload_n (pc := 12) X d_Y_trace_12 rfl (q := 1) rfl ?_
  refine zk_bipush (pc := 13) X (v := 6) d_Y_trace_13 (by decide) ?_
  refine zk_iadd (pc := 15) X (v := nI (M + 6)) d_Y_trace_15 (nI_add (M) (6)) ?_
  refine zk_iald (pc := 16) X 1 0 (M + 6) rfl rfl rfl (by omega) (by decide) d_Y_trace_16 ?_
  refine zk_iload_n (pc := 17) X d_Y_trace_17 rfl (q := 2) rfl ?_
  refine zk_ixor (pc := 18) X (v := ((gm (M + 6)) ^^^ x)) d_Y_trace_18 rfl ?_
  refine zk_ldc (pc := 19) X (v := 16777619) d_Y_trace_19 (zk_m tw_459) ?_
  refine zk_imul (pc := 21) X (v := (((gm (M + 6)) ^^^ x) * 16777619)) d_Y_trace_21 rfl ?_
  refine zk_iast (pc := 22) X 1 0 (ws' := [(hy, .inr (7, [.int ys, .int (nI yn), .ref yo, .ref yf, .ref yb, .int yg, .ref ym, .int yc, .int (nI yw), .ref yi, .int yq, .int (nI yl), .ref yL, .int ye, .int yt, .int yS, .int (nI yr), .int (nI ya), .ref yT, .ref yK, .ref yV])), (ym, .inl (cYm, 96, .inl (upd gm (M + 6) (((gm (M + 6)) ^^^ x) * 16777619))))]) (M + 6) rfl rfl rfl (by omega) (by decide) d_Y_trace_22 rfl ?_
  exact zk_vret (pc := 23) X hQ hRt hLk (upd gm (M + 6) (((gm (M + 6)) ^^^ x) * 16777619)) hq.symm [0, 1] rfl (by decide) d_Y_trace_23
def sp_Y_step_129 (M : Nat) : Nat → Nat → (Nat → Int32) → (Nat → Int32) → (Nat → Int32) → Nat → Int32 → Nat → Int32 → Int32 → Int32 → (Nat → Int32) × (Nat → Int32) × Nat × Int32 × (Nat → Int32) × Nat × Int32 × Int32 × Int32
  | 0, j, gm2, gi2, gl2, yw2, yq2, yl2, ye2, yt2, yS2 => (gm2, gi2, yw2, yq2, gl2, yl2, yS2, yt2, ye2)
  | fuel + 1, j, gm2, gi2, gl2, yw2, yq2, yl2, ye2, yt2, yS2 =>
    if 4 ≤ j then
      (fun gm_163 =>
        (gm_163, gi2, yw2, yq2, gl2, yl2, yS2, yt2, ye2)) (sp_Y_trace M (gm2 (M + 5)) gm2)
    else
      (fun gm_144 =>
        sp_Y_step_129 M fuel (j + 1) gm_144 gi2 gl2 yw2 yq2 yl2 ye2 yt2 yS2) (sp_Y_trace M (gm2 (M + j)) gm2)
def sp_Y_step_114 (M : Nat) (gm1 : Nat → Int32) (gi1 : Nat → Int32) (gl1 : Nat → Int32) (yw1 : Nat) (yq1 : Int32) (yl1 : Nat) (ye1 : Int32) (yt1 : Int32) (yS1 : Int32) : (Nat → Int32) × (Nat → Int32) × Nat × Int32 × (Nat → Int32) × Nat × Int32 × Int32 × Int32 :=
  (fun gm_124 =>
    sp_Y_step_129 M 5 0 gm_124 gi1 gl1 yw1 yq1 yl1 ye1 yt1 yS1) (sp_Y_trace M (gm1 (M + 4)) gm1)
def sp_Y_step (M : Nat) (go : Nat → Int32) (gf : Nat → Int32) (gs : Nat → Int32) (gm : Nat → Int32) (gi : Nat → Int32) (gl : Nat → Int32) (gt : Nat → Int64) (gk : Nat → Int32) (gv : Nat → Int32) (yn : Nat) (yc : Int32) (yw : Nat) (yq : Int32) (yl : Nat) (ye : Int32) (yt : Int32) (yS : Int32) (yr : Nat) : (Nat → Int32) × (Nat → Int32) × Nat × Int32 × (Nat → Int32) × Nat × Int32 × Int32 × Int32 :=
  (match sp_Y_interrupts M (upd gm (M + 9) ((gm (M + 9)) + 1)) gl gt gk yn yq yl ye yt yS yr with
  | (r31, yq_31, gl_31, yl_31, yS_31, yt_31, ye_31) =>
    if r31 = 0 then
      if ((upd gm (M + 9) ((gm (M + 9)) + 1)) (M + 4)) < (nI yn) then
        (match sp_Y_perform M (go ((((upd gm (M + 9) ((gm (M + 9)) + 1)) (M + 4))).toNatClampNeg)) (gf ((((upd gm (M + 9) ((gm (M + 9)) + 1)) (M + 4))).toNatClampNeg)) (gs ((((upd gm (M + 9) ((gm (M + 9)) + 1)) (M + 4))).toNatClampNeg)) (upd gm (M + 9) ((gm (M + 9)) + 1)) gi gl_31 gt gk gv yc yw yl_31 ye_31 yt_31 yS_31 yr with
        | (gm_111, gi_111, yw_111, gl_111, yl_111, yS_111, yt_111, ye_111) =>
          sp_Y_step_114 M gm_111 gi_111 gl_111 yw_111 yq_31 yl_111 ye_111 yt_111 yS_111)
      else
        sp_Y_step_114 M (upd (upd gm (M + 9) ((gm (M + 9)) + 1)) (M + 8) 1) gi gl_31 yw yq_31 yl_31 ye_31 yt_31 yS_31
    else
      sp_Y_step_114 M (upd (upd (upd (upd gm (M + 9) ((gm (M + 9)) + 1)) (M + 10) ((upd gm (M + 9) ((gm (M + 9)) + 1)) (M + 4))) (M + 4) 16) (M + 7) 1) gi gl_31 yw yq_31 yl_31 ye_31 yt_31 yS_31)
abbrev rm_Y_step : Room := { frames := 6, cells := 0, slots := 0, locals := 139 }
set_option maxHeartbeats 4000000 in
set_option maxRecDepth 100000 in
theorem c_Y_step (l : Launch) (dC : Nat → ClassId) (dI : Nat → Nat → Nat) (hy yo yf yb ym yi yL yT yK yV : Nat) (cYo cYf cYb cYm cYi cYL cYT cYK cYV : ClassId) (M : Nat) (go : Nat → Int32) (gf : Nat → Int32) (gs : Nat → Int32) (gm : Nat → Int32) (gi : Nat → Int32) (gl : Nat → Int32) (gt : Nat → Int64) (gk : Nat → Int32) (gv : Nat → Int32) (ys : Int32) (yn : Nat) (yg : Int32) (yc : Int32) (yw : Nat) (yq : Int32) (yl : Nat) (ye : Int32) (yt : Int32) (yS : Int32) (yr : Nat) (ya : Nat) (hM : M ≤ 48) (hyn : yn ≤ 24) (hyr : yr ≤ 320) (hyw : yw ≤ 16) (hyl : yl + 15 ≤ 320) (hpl : ¬ gm (M + 4) < 0) : zk_Cv l y_Y_step w_Y_step rm_Y_step (dC, dI) vwCl [.ref hy, .int (nI M)] [(hy, .inr (7, [.int ys, .int (nI yn), .ref yo, .ref yf, .ref yb, .int yg, .ref ym, .int yc, .int (nI yw), .ref yi, .int yq, .int (nI yl), .ref yL, .int ye, .int yt, .int yS, .int (nI yr), .int (nI ya), .ref yT, .ref yK, .ref yV])), (yo, .inl (cYo, 24, .inl go)), (yf, .inl (cYf, 24, .inl gf)), (yb, .inl (cYb, 24, .inl gs)), (ym, .inl (cYm, 96, .inl gm)), (yi, .inl (cYi, 16, .inl gi)), (yL, .inl (cYL, 320, .inl gl)), (yT, .inl (cYT, 320, .inr (.inl gt))), (yK, .inl (cYK, 320, .inl gk)), (yV, .inl (cYV, 320, .inl gv))] [(cYo, .int), (cYf, .int), (cYb, .int), (cYm, .int), (cYi, .int), (cYL, .int), (cYT, .long), (cYK, .int), (cYV, .int)] (fun (u : (Nat → Int32) × (Nat → Int32) × Nat × Int32 × (Nat → Int32) × Nat × Int32 × Int32 × Int32) => u = sp_Y_step M go gf gs gm gi gl gt gk gv yn yc yw yq yl ye yt yS yr ∧ (u.2.2.2.2.2.1 ≤ yl + 15) ∧ (0 < M → u.2.2.2.2.2.1 = yl) ∧ (u.2.2.1 ≤ 16)) (fun u => [(hy, .inr (7, [.int ys, .int (nI yn), .ref yo, .ref yf, .ref yb, .int yg, .ref ym, .int yc, .int (nI u.2.2.1), .ref yi, .int u.2.2.2.1, .int (nI u.2.2.2.2.2.1), .ref yL, .int u.2.2.2.2.2.2.2.2, .int u.2.2.2.2.2.2.2.1, .int u.2.2.2.2.2.2.1, .int (nI yr), .int (nI ya), .ref yT, .ref yK, .ref yV])), (yo, .inl (cYo, 24, .inl go)), (yf, .inl (cYf, 24, .inl gf)), (yb, .inl (cYb, 24, .inl gs)), (ym, .inl (cYm, 96, .inl u.1)), (yi, .inl (cYi, 16, .inl u.2.1)), (yL, .inl (cYL, 320, .inl u.2.2.2.2.1)), (yT, .inl (cYT, 320, .inr (.inl gt))), (yK, .inl (cYK, 320, .inl gk)), (yV, .inl (cYV, 320, .inl gv))]) := by
  refine zk_enterv (cc := b_Y_step) (maxL := 4) (ret := none) (by decide) rfl (Nat.le_of_ble_eq_true rfl) ?_
  intro p e s m args below meth c A Q hQ X hRt hLk
  have cut129 : ∀ (fuel : Nat) (j : Nat) (gm2 : Nat → Int32) (gi2 : Nat → Int32) (gl2 : Nat → Int32) (yw2 : Nat) (yq2 : Int32) (yl2 : Nat) (ye2 : Int32) (yt2 : Int32) (yS2 : Int32), (j ≤ 4) → (yl2 ≤ yl + 15) → (0 < M → yl2 = yl) → (yw2 ≤ 16) → 4 - j < fuel → sp_Y_step M go gf gs gm gi gl gt gk gv yn yc yw yq yl ye yt yS yr = sp_Y_step_129 M fuel j gm2 gi2 gl2 yw2 yq2 yl2 ye2 yt2 yS2 → zk_Z p l e rm_Y_step s m args below meth c Q A (dC, dI) vwCl 4 0 0 [(hy, .inr (7, [.int ys, .int (nI yn), .ref yo, .ref yf, .ref yb, .int yg, .ref ym, .int yc, .int (nI yw2), .ref yi, .int yq2, .int (nI yl2), .ref yL, .int ye2, .int yt2, .int yS2, .int (nI yr), .int (nI ya), .ref yT, .ref yK, .ref yV])), (yo, .inl (cYo, 24, .inl go)), (yf, .inl (cYf, 24, .inl gf)), (yb, .inl (cYb, 24, .inl gs)), (ym, .inl (cYm, 96, .inl gm2)), (yi, .inl (cYi, 16, .inl gi2)), (yL, .inl (cYL, 320, .inl gl2)), (yT, .inl (cYT, 320, .inr (.inl gt))), (yK, .inl (cYK, 320, .inl gk)), (yV, .inl (cYV, 320, .inl gv))] [(0, .ref hy), (1, .int (nI M)), (3, .int (nI j))] [] 129 := by
    intro fuel
    induction fuel with
    | zero => intro j gm2 gi2 gl2 yw2 yq2 yl2 ye2 yt2 yS2 hjj hl2 hk2 hw2 hMs; exact absurd hMs (Nat.not_lt_zero _)
    | succ fuel ih =>
      intro j gm2 gi2 gl2 yw2 yq2 yl2 ye2 yt2 yS2 hjj hl2 hk2 hw2 hMs hq
      rw [sp_Y_step_129] at hq
      refine zk_iload_n (pc := 129) X d_Y_step_129 rfl (q := 2) rfl ?_
      refine zk_iconst (pc := 130) X (v := 4) d_Y_step_130 rfl ?_
      refine zk_icmpN_ge (pc := 131) X (tgt := 153) (j) (4) rfl rfl (by omega) (by omega) d_Y_step_131 (by decide) (fun h131 => ?_) (fun h131 => ?_)
      · have hq := hq.trans (if_pos h131)
        refine zk_aload_n (pc := 153) X d_Y_step_153 rfl (q := 0) rfl ?_
        refine zk_iload_n (pc := 154) X d_Y_step_154 rfl (q := 1) rfl ?_
        refine zk_aload_n (pc := 155) X d_Y_step_155 rfl (q := 0) rfl ?_
        refine zk_get (pc := 156) X (ci := 7) (v := .ref ym) in_Y 0 rfl rfl 6 (by decide) (zk_m tw_368) rfl d_Y_step_156 ?_
        refine zk_iload_n (pc := 159) X d_Y_step_159 rfl (q := 1) rfl ?_
        refine zk_iconst (pc := 160) X (v := 5) d_Y_step_160 rfl ?_
        refine zk_iadd (pc := 161) X (v := nI (M + 5)) d_Y_step_161 (nI_add (M) (5)) ?_
        refine zk_iald (pc := 162) X 4 3 (M + 5) rfl rfl rfl (by omega) (by decide) d_Y_step_162 ?_
        refine zk_callv (pc := 163) X (wc := [(hy, .inr (7, [.int ys, .int (nI yn), .ref yo, .ref yf, .ref yb, .int yg, .ref ym, .int yc, .int (nI yw2), .ref yi, .int yq2, .int (nI yl2), .ref yL, .int ye2, .int yt2, .int yS2, .int (nI yr), .int (nI ya), .ref yT, .ref yK, .ref yV])), (ym, .inl (cYm, 96, .inl gm2))]) (wr := [(yo, .inl (cYo, 24, .inl go)), (yf, .inl (cYf, 24, .inl gf)), (yb, .inl (cYb, 24, .inl gs)), (yi, .inl (cYi, 16, .inl gi2)), (yL, .inl (cYL, 320, .inl gl2)), (yT, .inl (cYT, 320, .inr (.inl gt))), (yK, .inl (cYK, 320, .inl gk)), (yV, .inl (cYV, 320, .inl gv))]) [0, 4] [1, 2, 3, 5, 6, 7, 8, 9] rfl rfl (by decide) (by decide) (by decide) (zk_runV X (C := R_Y) (tysC := [(cYm, .int)]) (As := [.int (nI M), .int (gm2 (M + 5))]) (rest := []) (c_Y_trace l dC dI hy yo yf yb ym yi yL yT yK yV cYm M (gm2 (M + 5)) gm2 ys yn yg yc yw2 yq2 yl2 ye2 yt2 yS2 yr ya (by omega)) [3] rfl (ci := 7) rfl 0 rfl (zk_cwV 2 X.1.2.2.2.2 (zk_goodT tw_477) rfl rfl rfl (zk_m tw_475) (zk_m tw_476) (zk_m tw_542) (zk_m tw_9) rfl (by decide +kernel) ⟨Nat.le_of_ble_eq_true rfl, Nat.le_of_ble_eq_true rfl⟩) rfl rfl (Nat.le_of_ble_eq_true rfl) ⟨Nat.zero_le _, Nat.zero_le _⟩ d_Y_step_163) ?_
        rintro gm_163 w163
        refine zk_ws (ws' := [(yo, .inl (cYo, 24, .inl go)), (yf, .inl (cYf, 24, .inl gf)), (yb, .inl (cYb, 24, .inl gs)), (yi, .inl (cYi, 16, .inl gi2)), (yL, .inl (cYL, 320, .inl gl2)), (yT, .inl (cYT, 320, .inr (.inl gt))), (yK, .inl (cYK, 320, .inl gk)), (yV, .inl (cYV, 320, .inl gv)), (hy, .inr (7, [.int ys, .int (nI yn), .ref yo, .ref yf, .ref yb, .int yg, .ref ym, .int yc, .int (nI yw2), .ref yi, .int yq2, .int (nI yl2), .ref yL, .int ye2, .int yt2, .int yS2, .int (nI yr), .int (nI ya), .ref yT, .ref yK, .ref yV])), (ym, .inl (cYm, 96, .inl gm_163))]) rfl ?_
        try dsimp only at w163
        rw [← w163] at hq
        try dsimp only at hq
        exact zk_vret (pc := 166) X hQ hRt hLk (gm_163, gi2, yw2, yq2, gl2, yl2, yS2, yt2, ye2) ⟨hq.symm, (show yl2 ≤ yl + 15 by omega), (show 0 < M → yl2 = yl by omega), (show yw2 ≤ 16 by omega)⟩ [8, 0, 1, 2, 9, 3, 4, 5, 6, 7] rfl (by decide) d_Y_step_166
      · have hq := hq.trans (if_neg h131)
        refine zk_aload_n (pc := 134) X d_Y_step_134 rfl (q := 0) rfl ?_
        refine zk_iload_n (pc := 135) X d_Y_step_135 rfl (q := 1) rfl ?_
        refine zk_aload_n (pc := 136) X d_Y_step_136 rfl (q := 0) rfl ?_
        refine zk_get (pc := 137) X (ci := 7) (v := .ref ym) in_Y 0 rfl rfl 6 (by decide) (zk_m tw_368) rfl d_Y_step_137 ?_
        refine zk_iload_n (pc := 140) X d_Y_step_140 rfl (q := 1) rfl ?_
        refine zk_iload_n (pc := 141) X d_Y_step_141 rfl (q := 2) rfl ?_
        refine zk_iadd (pc := 142) X (v := nI (M + j)) d_Y_step_142 (nI_add (M) (j)) ?_
        refine zk_iald (pc := 143) X 4 3 (M + j) rfl rfl rfl (by omega) (by decide) d_Y_step_143 ?_
        refine zk_callv (pc := 144) X (wc := [(hy, .inr (7, [.int ys, .int (nI yn), .ref yo, .ref yf, .ref yb, .int yg, .ref ym, .int yc, .int (nI yw2), .ref yi, .int yq2, .int (nI yl2), .ref yL, .int ye2, .int yt2, .int yS2, .int (nI yr), .int (nI ya), .ref yT, .ref yK, .ref yV])), (ym, .inl (cYm, 96, .inl gm2))]) (wr := [(yo, .inl (cYo, 24, .inl go)), (yf, .inl (cYf, 24, .inl gf)), (yb, .inl (cYb, 24, .inl gs)), (yi, .inl (cYi, 16, .inl gi2)), (yL, .inl (cYL, 320, .inl gl2)), (yT, .inl (cYT, 320, .inr (.inl gt))), (yK, .inl (cYK, 320, .inl gk)), (yV, .inl (cYV, 320, .inl gv))]) [0, 4] [1, 2, 3, 5, 6, 7, 8, 9] rfl rfl (by decide) (by decide) (by decide) (zk_runV X (C := R_Y) (tysC := [(cYm, .int)]) (As := [.int (nI M), .int (gm2 (M + j))]) (rest := []) (c_Y_trace l dC dI hy yo yf yb ym yi yL yT yK yV cYm M (gm2 (M + j)) gm2 ys yn yg yc yw2 yq2 yl2 ye2 yt2 yS2 yr ya (by omega)) [3] rfl (ci := 7) rfl 0 rfl (zk_cwV 2 X.1.2.2.2.2 (zk_goodT tw_477) rfl rfl rfl (zk_m tw_475) (zk_m tw_476) (zk_m tw_542) (zk_m tw_9) rfl (by decide +kernel) ⟨Nat.le_of_ble_eq_true rfl, Nat.le_of_ble_eq_true rfl⟩) rfl rfl (Nat.le_of_ble_eq_true rfl) ⟨Nat.zero_le _, Nat.zero_le _⟩ d_Y_step_144) ?_
        rintro gm_144 w144
        refine zk_ws (ws' := [(yo, .inl (cYo, 24, .inl go)), (yf, .inl (cYf, 24, .inl gf)), (yb, .inl (cYb, 24, .inl gs)), (yi, .inl (cYi, 16, .inl gi2)), (yL, .inl (cYL, 320, .inl gl2)), (yT, .inl (cYT, 320, .inr (.inl gt))), (yK, .inl (cYK, 320, .inl gk)), (yV, .inl (cYV, 320, .inl gv)), (hy, .inr (7, [.int ys, .int (nI yn), .ref yo, .ref yf, .ref yb, .int yg, .ref ym, .int yc, .int (nI yw2), .ref yi, .int yq2, .int (nI yl2), .ref yL, .int ye2, .int yt2, .int yS2, .int (nI yr), .int (nI ya), .ref yT, .ref yK, .ref yV])), (ym, .inl (cYm, 96, .inl gm_144))]) rfl ?_
        try dsimp only at w144
        rw [← w144] at hq
        try dsimp only at hq
        refine zk_iinc (pc := 147) X (k0 := 2) (v := nI (j + 1)) (lv' := [(3, .int (nI (j + 1))), (0, .ref hy), (1, .int (nI M))]) d_Y_step_147 rfl (nI_add (j) 1) (by decide) rfl ?_
        refine zk_goto (pc := 150) X (tgt := 129) d_Y_step_150 (by decide) ?_
        refine zk_perm (ws' := [(hy, .inr (7, [.int ys, .int (nI yn), .ref yo, .ref yf, .ref yb, .int yg, .ref ym, .int yc, .int (nI yw2), .ref yi, .int yq2, .int (nI yl2), .ref yL, .int ye2, .int yt2, .int yS2, .int (nI yr), .int (nI ya), .ref yT, .ref yK, .ref yV])), (yo, .inl (cYo, 24, .inl go)), (yf, .inl (cYf, 24, .inl gf)), (yb, .inl (cYb, 24, .inl gs)), (ym, .inl (cYm, 96, .inl gm_144)), (yi, .inl (cYi, 16, .inl gi2)), (yL, .inl (cYL, 320, .inl gl2)), (yT, .inl (cYT, 320, .inr (.inl gt))), (yK, .inl (cYK, 320, .inl gk)), (yV, .inl (cYV, 320, .inl gv))]) [8, 0, 1, 2, 9, 3, 4, 5, 6, 7] rfl (by decide) ?_
        refine zk_lv (lv' := [(0, .ref hy), (1, .int (nI M)), (3, .int (nI (j + 1)))]) [1, 2, 0] rfl ?_
        exact ih (j + 1) gm_144 gi2 gl2 yw2 yq2 yl2 ye2 yt2 yS2 (by omega) (by omega) (by omega) (by omega) (by omega) hq
  have cut114 : ∀ (gm1 : Nat → Int32) (gi1 : Nat → Int32) (gl1 : Nat → Int32) (yw1 : Nat) (yq1 : Int32) (yl1 : Nat) (ye1 : Int32) (yt1 : Int32) (yS1 : Int32), (yl1 ≤ yl + 15) → (0 < M → yl1 = yl) → (yw1 ≤ 16) → sp_Y_step M go gf gs gm gi gl gt gk gv yn yc yw yq yl ye yt yS yr = sp_Y_step_114 M gm1 gi1 gl1 yw1 yq1 yl1 ye1 yt1 yS1 → zk_Z p l e rm_Y_step s m args below meth c Q A (dC, dI) vwCl 4 0 0 [(hy, .inr (7, [.int ys, .int (nI yn), .ref yo, .ref yf, .ref yb, .int yg, .ref ym, .int yc, .int (nI yw1), .ref yi, .int yq1, .int (nI yl1), .ref yL, .int ye1, .int yt1, .int yS1, .int (nI yr), .int (nI ya), .ref yT, .ref yK, .ref yV])), (yo, .inl (cYo, 24, .inl go)), (yf, .inl (cYf, 24, .inl gf)), (yb, .inl (cYb, 24, .inl gs)), (ym, .inl (cYm, 96, .inl gm1)), (yi, .inl (cYi, 16, .inl gi1)), (yL, .inl (cYL, 320, .inl gl1)), (yT, .inl (cYT, 320, .inr (.inl gt))), (yK, .inl (cYK, 320, .inl gk)), (yV, .inl (cYV, 320, .inl gv))] [(0, .ref hy), (1, .int (nI M))] [] 114 := by
    intro gm1 gi1 gl1 yw1 yq1 yl1 ye1 yt1 yS1 hl1 hk1 hw1 hq
    rw [sp_Y_step_114] at hq
    refine zk_aload_n (pc := 114) X d_Y_step_114 rfl (q := 0) rfl ?_
    refine zk_iload_n (pc := 115) X d_Y_step_115 rfl (q := 1) rfl ?_
    refine zk_aload_n (pc := 116) X d_Y_step_116 rfl (q := 0) rfl ?_
    refine zk_get (pc := 117) X (ci := 7) (v := .ref ym) in_Y 0 rfl rfl 6 (by decide) (zk_m tw_368) rfl d_Y_step_117 ?_
    refine zk_iload_n (pc := 120) X d_Y_step_120 rfl (q := 1) rfl ?_
    refine zk_iconst (pc := 121) X (v := 4) d_Y_step_121 rfl ?_
    refine zk_iadd (pc := 122) X (v := nI (M + 4)) d_Y_step_122 (nI_add (M) (4)) ?_
    refine zk_iald (pc := 123) X 4 3 (M + 4) rfl rfl rfl (by omega) (by decide) d_Y_step_123 ?_
    refine zk_callv (pc := 124) X (wc := [(hy, .inr (7, [.int ys, .int (nI yn), .ref yo, .ref yf, .ref yb, .int yg, .ref ym, .int yc, .int (nI yw1), .ref yi, .int yq1, .int (nI yl1), .ref yL, .int ye1, .int yt1, .int yS1, .int (nI yr), .int (nI ya), .ref yT, .ref yK, .ref yV])), (ym, .inl (cYm, 96, .inl gm1))]) (wr := [(yo, .inl (cYo, 24, .inl go)), (yf, .inl (cYf, 24, .inl gf)), (yb, .inl (cYb, 24, .inl gs)), (yi, .inl (cYi, 16, .inl gi1)), (yL, .inl (cYL, 320, .inl gl1)), (yT, .inl (cYT, 320, .inr (.inl gt))), (yK, .inl (cYK, 320, .inl gk)), (yV, .inl (cYV, 320, .inl gv))]) [0, 4] [1, 2, 3, 5, 6, 7, 8, 9] rfl rfl (by decide) (by decide) (by decide) (zk_runV X (C := R_Y) (tysC := [(cYm, .int)]) (As := [.int (nI M), .int (gm1 (M + 4))]) (rest := []) (c_Y_trace l dC dI hy yo yf yb ym yi yL yT yK yV cYm M (gm1 (M + 4)) gm1 ys yn yg yc yw1 yq1 yl1 ye1 yt1 yS1 yr ya (by omega)) [3] rfl (ci := 7) rfl 0 rfl (zk_cwV 2 X.1.2.2.2.2 (zk_goodT tw_477) rfl rfl rfl (zk_m tw_475) (zk_m tw_476) (zk_m tw_542) (zk_m tw_9) rfl (by decide +kernel) ⟨Nat.le_of_ble_eq_true rfl, Nat.le_of_ble_eq_true rfl⟩) rfl rfl (Nat.le_of_ble_eq_true rfl) ⟨Nat.zero_le _, Nat.zero_le _⟩ d_Y_step_124) ?_
    rintro gm_124 w124
    refine zk_ws (ws' := [(yo, .inl (cYo, 24, .inl go)), (yf, .inl (cYf, 24, .inl gf)), (yb, .inl (cYb, 24, .inl gs)), (yi, .inl (cYi, 16, .inl gi1)), (yL, .inl (cYL, 320, .inl gl1)), (yT, .inl (cYT, 320, .inr (.inl gt))), (yK, .inl (cYK, 320, .inl gk)), (yV, .inl (cYV, 320, .inl gv)), (hy, .inr (7, [.int ys, .int (nI yn), .ref yo, .ref yf, .ref yb, .int yg, .ref ym, .int yc, .int (nI yw1), .ref yi, .int yq1, .int (nI yl1), .ref yL, .int ye1, .int yt1, .int yS1, .int (nI yr), .int (nI ya), .ref yT, .ref yK, .ref yV])), (ym, .inl (cYm, 96, .inl gm_124))]) rfl ?_
    try dsimp only at w124
    rw [← w124] at hq
    try dsimp only at hq
    refine zk_iconst (pc := 127) X (v := 0) d_Y_step_127 rfl ?_
    refine zk_istore_n (pc := 128) X (i := 3) (lv' := [(3, .int 0), (0, .ref hy), (1, .int (nI M))]) d_Y_step_128 rfl (by decide) rfl ?_
    refine zk_perm (ws' := [(hy, .inr (7, [.int ys, .int (nI yn), .ref yo, .ref yf, .ref yb, .int yg, .ref ym, .int yc, .int (nI yw1), .ref yi, .int yq1, .int (nI yl1), .ref yL, .int ye1, .int yt1, .int yS1, .int (nI yr), .int (nI ya), .ref yT, .ref yK, .ref yV])), (yo, .inl (cYo, 24, .inl go)), (yf, .inl (cYf, 24, .inl gf)), (yb, .inl (cYb, 24, .inl gs)), (ym, .inl (cYm, 96, .inl gm_124)), (yi, .inl (cYi, 16, .inl gi1)), (yL, .inl (cYL, 320, .inl gl1)), (yT, .inl (cYT, 320, .inr (.inl gt))), (yK, .inl (cYK, 320, .inl gk)), (yV, .inl (cYV, 320, .inl gv))]) [8, 0, 1, 2, 9, 3, 4, 5, 6, 7] rfl (by decide) ?_
    refine zk_lv (lv' := [(0, .ref hy), (1, .int (nI M)), (3, .int 0)]) [1, 2, 0] rfl ?_
    exact cut129 (5) 0 gm_124 gi1 gl1 yw1 yq1 yl1 ye1 yt1 yS1 (by omega) (by omega) (by omega) (by omega) (by omega) hq
  have hq := sp_Y_step.eq_1 M go gf gs gm gi gl gt gk gv yn yc yw yq yl ye yt yS yr
  refine zk_lv (lv' := [(0, .ref hy), (1, .int (nI M))]) [0, 1] rfl ?_
  refine zk_aload_n (pc := 0) X d_Y_step_0 rfl (q := 0) rfl ?_
  refine zk_get (pc := 1) X (ci := 7) (v := .ref ym) in_Y 0 rfl rfl 6 (by decide) (zk_m tw_368) rfl d_Y_step_1 ?_
  refine zk_iload_n (pc := 4) X d_Y_step_4 rfl (q := 1) rfl ?_
  refine zk_bipush (pc := 5) X (v := 9) d_Y_step_5 (by decide) ?_
  refine zk_iadd (pc := 7) X (v := nI (M + 9)) d_Y_step_7 (nI_add (M) (9)) ?_
  refine zk_aload_n (pc := 8) X d_Y_step_8 rfl (q := 0) rfl ?_
  refine zk_get (pc := 9) X (ci := 7) (v := .ref ym) in_Y 0 rfl rfl 6 (by decide) (zk_m tw_368) rfl d_Y_step_9 ?_
  refine zk_iload_n (pc := 12) X d_Y_step_12 rfl (q := 1) rfl ?_
  refine zk_bipush (pc := 13) X (v := 9) d_Y_step_13 (by decide) ?_
  refine zk_iadd (pc := 15) X (v := nI (M + 9)) d_Y_step_15 (nI_add (M) (9)) ?_
  refine zk_iald (pc := 16) X 4 3 (M + 9) rfl rfl rfl (by omega) (by decide) d_Y_step_16 ?_
  refine zk_iconst (pc := 17) X (v := 1) d_Y_step_17 rfl ?_
  refine zk_iadd (pc := 18) X (v := ((gm (M + 9)) + 1)) d_Y_step_18 rfl ?_
  refine zk_iast (pc := 19) X 4 3 (ws' := [(hy, .inr (7, [.int ys, .int (nI yn), .ref yo, .ref yf, .ref yb, .int yg, .ref ym, .int yc, .int (nI yw), .ref yi, .int yq, .int (nI yl), .ref yL, .int ye, .int yt, .int yS, .int (nI yr), .int (nI ya), .ref yT, .ref yK, .ref yV])), (yo, .inl (cYo, 24, .inl go)), (yf, .inl (cYf, 24, .inl gf)), (yb, .inl (cYb, 24, .inl gs)), (ym, .inl (cYm, 96, .inl (upd gm (M + 9) ((gm (M + 9)) + 1)))), (yi, .inl (cYi, 16, .inl gi)), (yL, .inl (cYL, 320, .inl gl)), (yT, .inl (cYT, 320, .inr (.inl gt))), (yK, .inl (cYK, 320, .inl gk)), (yV, .inl (cYV, 320, .inl gv))]) (M + 9) rfl rfl rfl (by omega) (by decide) d_Y_step_19 rfl ?_
  refine zk_aload_n (pc := 20) X d_Y_step_20 rfl (q := 0) rfl ?_
  refine zk_get (pc := 21) X (ci := 7) (v := .ref ym) in_Y 0 rfl rfl 6 (by decide) (zk_m tw_368) rfl d_Y_step_21 ?_
  refine zk_iload_n (pc := 24) X d_Y_step_24 rfl (q := 1) rfl ?_
  refine zk_iconst (pc := 25) X (v := 4) d_Y_step_25 rfl ?_
  refine zk_iadd (pc := 26) X (v := nI (M + 4)) d_Y_step_26 (nI_add (M) (4)) ?_
  refine zk_iald (pc := 27) X 4 3 (M + 4) rfl rfl rfl (by omega) (by decide) d_Y_step_27 ?_
  refine zk_istore_n (pc := 28) X (i := 2) (lv' := [(2, .int ((upd gm (M + 9) ((gm (M + 9)) + 1)) (M + 4))), (0, .ref hy), (1, .int (nI M))]) d_Y_step_28 rfl (by decide) rfl ?_
  refine zk_aload_n (pc := 29) X d_Y_step_29 rfl (q := 1) rfl ?_
  refine zk_iload_n (pc := 30) X d_Y_step_30 rfl (q := 2) rfl ?_
  refine zk_calli (pc := 31) X (wc := [(hy, .inr (7, [.int ys, .int (nI yn), .ref yo, .ref yf, .ref yb, .int yg, .ref ym, .int yc, .int (nI yw), .ref yi, .int yq, .int (nI yl), .ref yL, .int ye, .int yt, .int yS, .int (nI yr), .int (nI ya), .ref yT, .ref yK, .ref yV])), (ym, .inl (cYm, 96, .inl (upd gm (M + 9) ((gm (M + 9)) + 1)))), (yL, .inl (cYL, 320, .inl gl)), (yT, .inl (cYT, 320, .inr (.inl gt))), (yK, .inl (cYK, 320, .inl gk))]) (wr := [(yo, .inl (cYo, 24, .inl go)), (yf, .inl (cYf, 24, .inl gf)), (yb, .inl (cYb, 24, .inl gs)), (yi, .inl (cYi, 16, .inl gi)), (yV, .inl (cYV, 320, .inl gv))]) [0, 4, 6, 7, 8] [1, 2, 3, 5, 9] rfl rfl (by decide) (by decide) (by decide) (zk_runV X (C := R_Y) (tysC := [(cYm, .int), (cYL, .int), (cYT, .long), (cYK, .int)]) (As := [.int (nI M)]) (rest := []) (c_Y_interrupts l dC dI hy yo yf yb ym yi yL yT yK yV cYm cYL cYT cYK M (upd gm (M + 9) ((gm (M + 9)) + 1)) gl gt gk ys yn yg yc yw yq yl ye yt yS yr ya (by omega) (by omega) (by omega) (by omega)) [3, 5, 6, 7] rfl (ci := 7) rfl 0 rfl (zk_cwV 1 X.1.2.2.2.2 (zk_goodT tw_441) rfl rfl rfl (zk_m tw_439) (zk_m tw_440) (zk_m tw_534) (zk_m tw_9) rfl (by decide +kernel) ⟨Nat.le_of_ble_eq_true rfl, Nat.le_of_ble_eq_true rfl⟩) rfl rfl (Nat.le_of_ble_eq_true rfl) ⟨Nat.zero_le _, Nat.zero_le _⟩ d_Y_step_31) ?_
  rintro r31 ⟨yq_31, gl_31, yl_31, yS_31, yt_31, ye_31⟩ ⟨w31, f31_0, f31_1⟩
  have f31_0 : yl_31 ≤ yl + 5 := f31_0
  have f31_1 : 0 < M → yl_31 = yl := f31_1
  refine zk_ws (ws' := [(yo, .inl (cYo, 24, .inl go)), (yf, .inl (cYf, 24, .inl gf)), (yb, .inl (cYb, 24, .inl gs)), (yi, .inl (cYi, 16, .inl gi)), (yV, .inl (cYV, 320, .inl gv)), (hy, .inr (7, [.int ys, .int (nI yn), .ref yo, .ref yf, .ref yb, .int yg, .ref ym, .int yc, .int (nI yw), .ref yi, .int yq_31, .int (nI yl_31), .ref yL, .int ye_31, .int yt_31, .int yS_31, .int (nI yr), .int (nI ya), .ref yT, .ref yK, .ref yV])), (ym, .inl (cYm, 96, .inl (upd gm (M + 9) ((gm (M + 9)) + 1)))), (yL, .inl (cYL, 320, .inl gl_31)), (yT, .inl (cYT, 320, .inr (.inl gt))), (yK, .inl (cYK, 320, .inl gk))]) rfl ?_
  try dsimp only at w31
  rw [← w31] at hq
  try dsimp only at hq
  refine zk_if_eq (pc := 34) X (tgt := 70) d_Y_step_34 (by decide) (fun h34 => ?_) (fun h34 => ?_)
  · have hq := hq.trans (if_pos h34)
    refine zk_iload_n (pc := 70) X d_Y_step_70 rfl (q := 0) rfl ?_
    refine zk_aload_n (pc := 71) X d_Y_step_71 rfl (q := 1) rfl ?_
    refine zk_get (pc := 72) X (ci := 7) (v := .int (nI yn)) in_Y 5 rfl rfl 1 (by decide) (zk_m tw_363) rfl d_Y_step_72 ?_
    refine zk_icmp_lt (pc := 75) X (tgt := 91) d_Y_step_75 (by decide) (fun h75 => ?_) (fun h75 => ?_)
    · have hq := hq.trans (if_pos h75)
      have g91 := zk_plu (gm := gm) (M := M) (v := gm (M + 9) + 1) hpl
      refine zk_aload_n (pc := 91) X d_Y_step_91 rfl (q := 1) rfl ?_
      refine zk_iload_n (pc := 92) X d_Y_step_92 rfl (q := 2) rfl ?_
      refine zk_aload_n (pc := 93) X d_Y_step_93 rfl (q := 1) rfl ?_
      refine zk_get (pc := 94) X (ci := 7) (v := .ref yo) in_Y 5 rfl rfl 2 (by decide) (zk_m tw_364) rfl d_Y_step_94 ?_
      refine zk_iload_n (pc := 97) X d_Y_step_97 rfl (q := 0) rfl ?_
      refine zk_iald (pc := 98) X 0 0 ((((upd gm (M + 9) ((gm (M + 9)) + 1)) (M + 4))).toNatClampNeg) rfl rfl (zk_iI g91) (zk_iL24 g91 h75 hyn) (by decide) d_Y_step_98 ?_
      refine zk_aload_n (pc := 99) X d_Y_step_99 rfl (q := 1) rfl ?_
      refine zk_get (pc := 100) X (ci := 7) (v := .ref yf) in_Y 5 rfl rfl 3 (by decide) (zk_m tw_365) rfl d_Y_step_100 ?_
      refine zk_iload_n (pc := 103) X d_Y_step_103 rfl (q := 0) rfl ?_
      refine zk_iald (pc := 104) X 1 1 ((((upd gm (M + 9) ((gm (M + 9)) + 1)) (M + 4))).toNatClampNeg) rfl rfl (zk_iI g91) (zk_iL24 g91 h75 hyn) (by decide) d_Y_step_104 ?_
      refine zk_aload_n (pc := 105) X d_Y_step_105 rfl (q := 1) rfl ?_
      refine zk_get (pc := 106) X (ci := 7) (v := .ref yb) in_Y 5 rfl rfl 4 (by decide) (zk_m tw_366) rfl d_Y_step_106 ?_
      refine zk_iload_n (pc := 109) X d_Y_step_109 rfl (q := 0) rfl ?_
      refine zk_iald (pc := 110) X 2 2 ((((upd gm (M + 9) ((gm (M + 9)) + 1)) (M + 4))).toNatClampNeg) rfl rfl (zk_iI g91) (zk_iL24 g91 h75 hyn) (by decide) d_Y_step_110 ?_
      refine zk_callv (pc := 111) X (wc := [(hy, .inr (7, [.int ys, .int (nI yn), .ref yo, .ref yf, .ref yb, .int yg, .ref ym, .int yc, .int (nI yw), .ref yi, .int yq_31, .int (nI yl_31), .ref yL, .int ye_31, .int yt_31, .int yS_31, .int (nI yr), .int (nI ya), .ref yT, .ref yK, .ref yV])), (ym, .inl (cYm, 96, .inl (upd gm (M + 9) ((gm (M + 9)) + 1)))), (yi, .inl (cYi, 16, .inl gi)), (yL, .inl (cYL, 320, .inl gl_31)), (yT, .inl (cYT, 320, .inr (.inl gt))), (yK, .inl (cYK, 320, .inl gk)), (yV, .inl (cYV, 320, .inl gv))]) (wr := [(yo, .inl (cYo, 24, .inl go)), (yf, .inl (cYf, 24, .inl gf)), (yb, .inl (cYb, 24, .inl gs))]) [5, 6, 3, 7, 8, 9, 4] [0, 1, 2] rfl rfl (by decide) (by decide) (by decide) (zk_runV X (C := R_Y) (tysC := [(cYm, .int), (cYi, .int), (cYL, .int), (cYT, .long), (cYK, .int), (cYV, .int)]) (As := [.int (nI M), .int (go ((((upd gm (M + 9) ((gm (M + 9)) + 1)) (M + 4))).toNatClampNeg)), .int (gf ((((upd gm (M + 9) ((gm (M + 9)) + 1)) (M + 4))).toNatClampNeg)), .int (gs ((((upd gm (M + 9) ((gm (M + 9)) + 1)) (M + 4))).toNatClampNeg))]) (rest := []) (c_Y_perform l dC dI hy yo yf yb ym yi yL yT yK yV cYm cYi cYL cYT cYK cYV M (go ((((upd gm (M + 9) ((gm (M + 9)) + 1)) (M + 4))).toNatClampNeg)) (gf ((((upd gm (M + 9) ((gm (M + 9)) + 1)) (M + 4))).toNatClampNeg)) (gs ((((upd gm (M + 9) ((gm (M + 9)) + 1)) (M + 4))).toNatClampNeg)) (upd gm (M + 9) ((gm (M + 9)) + 1)) gi gl_31 gt gk gv ys yn yg yc yw yq_31 yl_31 ye_31 yt_31 yS_31 yr ya (by omega) (by omega) (by omega) (by omega)) [3, 4, 5, 6, 7, 8] rfl (ci := 7) rfl 5 rfl (zk_cwV 4 X.1.2.2.2.2 (zk_goodT tw_462) rfl rfl rfl (zk_m tw_460) (zk_m tw_461) (zk_m tw_539) (zk_m tw_9) rfl (by decide +kernel) ⟨Nat.le_of_ble_eq_true rfl, Nat.le_of_ble_eq_true rfl⟩) rfl rfl (Nat.le_of_ble_eq_true rfl) ⟨Nat.zero_le _, Nat.zero_le _⟩ d_Y_step_111) ?_
      rintro ⟨gm_111, gi_111, yw_111, gl_111, yl_111, yS_111, yt_111, ye_111⟩ ⟨w111, f111_0, f111_1, f111_2⟩
      have f111_0 : yl_111 ≤ yl_31 + 10 := f111_0
      have f111_1 : 0 < M → yl_111 = yl_31 := f111_1
      have f111_2 : yw_111 ≤ 16 := f111_2
      refine zk_ws (ws' := [(yo, .inl (cYo, 24, .inl go)), (yf, .inl (cYf, 24, .inl gf)), (yb, .inl (cYb, 24, .inl gs)), (hy, .inr (7, [.int ys, .int (nI yn), .ref yo, .ref yf, .ref yb, .int yg, .ref ym, .int yc, .int (nI yw_111), .ref yi, .int yq_31, .int (nI yl_111), .ref yL, .int ye_111, .int yt_111, .int yS_111, .int (nI yr), .int (nI ya), .ref yT, .ref yK, .ref yV])), (ym, .inl (cYm, 96, .inl gm_111)), (yi, .inl (cYi, 16, .inl gi_111)), (yL, .inl (cYL, 320, .inl gl_111)), (yT, .inl (cYT, 320, .inr (.inl gt))), (yK, .inl (cYK, 320, .inl gk)), (yV, .inl (cYV, 320, .inl gv))]) rfl ?_
      try dsimp only at w111
      rw [← w111] at hq
      try dsimp only at hq
      refine zk_perm (ws' := [(hy, .inr (7, [.int ys, .int (nI yn), .ref yo, .ref yf, .ref yb, .int yg, .ref ym, .int yc, .int (nI yw_111), .ref yi, .int yq_31, .int (nI yl_111), .ref yL, .int ye_111, .int yt_111, .int yS_111, .int (nI yr), .int (nI ya), .ref yT, .ref yK, .ref yV])), (yo, .inl (cYo, 24, .inl go)), (yf, .inl (cYf, 24, .inl gf)), (yb, .inl (cYb, 24, .inl gs)), (ym, .inl (cYm, 96, .inl gm_111)), (yi, .inl (cYi, 16, .inl gi_111)), (yL, .inl (cYL, 320, .inl gl_111)), (yT, .inl (cYT, 320, .inr (.inl gt))), (yK, .inl (cYK, 320, .inl gk)), (yV, .inl (cYV, 320, .inl gv))]) [3, 0, 1, 2, 4, 5, 6, 7, 8, 9] rfl (by decide) ?_
      refine zk_lv (lv' := [(0, .ref hy), (1, .int (nI M))]) [1, 2] rfl ?_
      exact cut114 gm_111 gi_111 gl_111 yw_111 yq_31 yl_111 ye_111 yt_111 yS_111 (by omega) (by omega) (by omega) hq
    · have hq := hq.trans (if_neg h75)
      refine zk_aload_n (pc := 78) X d_Y_step_78 rfl (q := 1) rfl ?_
      refine zk_get (pc := 79) X (ci := 7) (v := .ref ym) in_Y 5 rfl rfl 6 (by decide) (zk_m tw_368) rfl d_Y_step_79 ?_
      refine zk_iload_n (pc := 82) X d_Y_step_82 rfl (q := 2) rfl ?_
      refine zk_bipush (pc := 83) X (v := 8) d_Y_step_83 (by decide) ?_
      refine zk_iadd (pc := 85) X (v := nI (M + 8)) d_Y_step_85 (nI_add (M) (8)) ?_
      refine zk_iconst (pc := 86) X (v := 1) d_Y_step_86 rfl ?_
      refine zk_iast (pc := 87) X 6 3 (ws' := [(yo, .inl (cYo, 24, .inl go)), (yf, .inl (cYf, 24, .inl gf)), (yb, .inl (cYb, 24, .inl gs)), (yi, .inl (cYi, 16, .inl gi)), (yV, .inl (cYV, 320, .inl gv)), (hy, .inr (7, [.int ys, .int (nI yn), .ref yo, .ref yf, .ref yb, .int yg, .ref ym, .int yc, .int (nI yw), .ref yi, .int yq_31, .int (nI yl_31), .ref yL, .int ye_31, .int yt_31, .int yS_31, .int (nI yr), .int (nI ya), .ref yT, .ref yK, .ref yV])), (ym, .inl (cYm, 96, .inl (upd (upd gm (M + 9) ((gm (M + 9)) + 1)) (M + 8) 1))), (yL, .inl (cYL, 320, .inl gl_31)), (yT, .inl (cYT, 320, .inr (.inl gt))), (yK, .inl (cYK, 320, .inl gk))]) (M + 8) rfl rfl rfl (by omega) (by decide) d_Y_step_87 rfl ?_
      refine zk_goto (pc := 88) X (tgt := 114) d_Y_step_88 (by decide) ?_
      refine zk_perm (ws' := [(hy, .inr (7, [.int ys, .int (nI yn), .ref yo, .ref yf, .ref yb, .int yg, .ref ym, .int yc, .int (nI yw), .ref yi, .int yq_31, .int (nI yl_31), .ref yL, .int ye_31, .int yt_31, .int yS_31, .int (nI yr), .int (nI ya), .ref yT, .ref yK, .ref yV])), (yo, .inl (cYo, 24, .inl go)), (yf, .inl (cYf, 24, .inl gf)), (yb, .inl (cYb, 24, .inl gs)), (ym, .inl (cYm, 96, .inl (upd (upd gm (M + 9) ((gm (M + 9)) + 1)) (M + 8) 1))), (yi, .inl (cYi, 16, .inl gi)), (yL, .inl (cYL, 320, .inl gl_31)), (yT, .inl (cYT, 320, .inr (.inl gt))), (yK, .inl (cYK, 320, .inl gk)), (yV, .inl (cYV, 320, .inl gv))]) [5, 0, 1, 2, 6, 3, 7, 8, 9, 4] rfl (by decide) ?_
      refine zk_lv (lv' := [(0, .ref hy), (1, .int (nI M))]) [1, 2] rfl ?_
      exact cut114 (upd (upd gm (M + 9) ((gm (M + 9)) + 1)) (M + 8) 1) gi gl_31 yw yq_31 yl_31 ye_31 yt_31 yS_31 (by omega) (by omega) (by omega) hq
  · have hq := hq.trans (if_neg h34)
    refine zk_aload_n (pc := 37) X d_Y_step_37 rfl (q := 1) rfl ?_
    refine zk_get (pc := 38) X (ci := 7) (v := .ref ym) in_Y 5 rfl rfl 6 (by decide) (zk_m tw_368) rfl d_Y_step_38 ?_
    refine zk_iload_n (pc := 41) X d_Y_step_41 rfl (q := 2) rfl ?_
    refine zk_bipush (pc := 42) X (v := 10) d_Y_step_42 (by decide) ?_
    refine zk_iadd (pc := 44) X (v := nI (M + 10)) d_Y_step_44 (nI_add (M) (10)) ?_
    refine zk_iload_n (pc := 45) X d_Y_step_45 rfl (q := 0) rfl ?_
    refine zk_iast (pc := 46) X 6 3 (ws' := [(yo, .inl (cYo, 24, .inl go)), (yf, .inl (cYf, 24, .inl gf)), (yb, .inl (cYb, 24, .inl gs)), (yi, .inl (cYi, 16, .inl gi)), (yV, .inl (cYV, 320, .inl gv)), (hy, .inr (7, [.int ys, .int (nI yn), .ref yo, .ref yf, .ref yb, .int yg, .ref ym, .int yc, .int (nI yw), .ref yi, .int yq_31, .int (nI yl_31), .ref yL, .int ye_31, .int yt_31, .int yS_31, .int (nI yr), .int (nI ya), .ref yT, .ref yK, .ref yV])), (ym, .inl (cYm, 96, .inl (upd (upd gm (M + 9) ((gm (M + 9)) + 1)) (M + 10) ((upd gm (M + 9) ((gm (M + 9)) + 1)) (M + 4))))), (yL, .inl (cYL, 320, .inl gl_31)), (yT, .inl (cYT, 320, .inr (.inl gt))), (yK, .inl (cYK, 320, .inl gk))]) (M + 10) rfl rfl rfl (by omega) (by decide) d_Y_step_46 rfl ?_
    refine zk_aload_n (pc := 47) X d_Y_step_47 rfl (q := 1) rfl ?_
    refine zk_get (pc := 48) X (ci := 7) (v := .ref ym) in_Y 5 rfl rfl 6 (by decide) (zk_m tw_368) rfl d_Y_step_48 ?_
    refine zk_iload_n (pc := 51) X d_Y_step_51 rfl (q := 2) rfl ?_
    refine zk_iconst (pc := 52) X (v := 4) d_Y_step_52 rfl ?_
    refine zk_iadd (pc := 53) X (v := nI (M + 4)) d_Y_step_53 (nI_add (M) (4)) ?_
    refine zk_bipush (pc := 54) X (v := 16) d_Y_step_54 (by decide) ?_
    refine zk_iast (pc := 56) X 6 3 (ws' := [(yo, .inl (cYo, 24, .inl go)), (yf, .inl (cYf, 24, .inl gf)), (yb, .inl (cYb, 24, .inl gs)), (yi, .inl (cYi, 16, .inl gi)), (yV, .inl (cYV, 320, .inl gv)), (hy, .inr (7, [.int ys, .int (nI yn), .ref yo, .ref yf, .ref yb, .int yg, .ref ym, .int yc, .int (nI yw), .ref yi, .int yq_31, .int (nI yl_31), .ref yL, .int ye_31, .int yt_31, .int yS_31, .int (nI yr), .int (nI ya), .ref yT, .ref yK, .ref yV])), (ym, .inl (cYm, 96, .inl (upd (upd (upd gm (M + 9) ((gm (M + 9)) + 1)) (M + 10) ((upd gm (M + 9) ((gm (M + 9)) + 1)) (M + 4))) (M + 4) 16))), (yL, .inl (cYL, 320, .inl gl_31)), (yT, .inl (cYT, 320, .inr (.inl gt))), (yK, .inl (cYK, 320, .inl gk))]) (M + 4) rfl rfl rfl (by omega) (by decide) d_Y_step_56 rfl ?_
    refine zk_aload_n (pc := 57) X d_Y_step_57 rfl (q := 1) rfl ?_
    refine zk_get (pc := 58) X (ci := 7) (v := .ref ym) in_Y 5 rfl rfl 6 (by decide) (zk_m tw_368) rfl d_Y_step_58 ?_
    refine zk_iload_n (pc := 61) X d_Y_step_61 rfl (q := 2) rfl ?_
    refine zk_bipush (pc := 62) X (v := 7) d_Y_step_62 (by decide) ?_
    refine zk_iadd (pc := 64) X (v := nI (M + 7)) d_Y_step_64 (nI_add (M) (7)) ?_
    refine zk_iconst (pc := 65) X (v := 1) d_Y_step_65 rfl ?_
    refine zk_iast (pc := 66) X 6 3 (ws' := [(yo, .inl (cYo, 24, .inl go)), (yf, .inl (cYf, 24, .inl gf)), (yb, .inl (cYb, 24, .inl gs)), (yi, .inl (cYi, 16, .inl gi)), (yV, .inl (cYV, 320, .inl gv)), (hy, .inr (7, [.int ys, .int (nI yn), .ref yo, .ref yf, .ref yb, .int yg, .ref ym, .int yc, .int (nI yw), .ref yi, .int yq_31, .int (nI yl_31), .ref yL, .int ye_31, .int yt_31, .int yS_31, .int (nI yr), .int (nI ya), .ref yT, .ref yK, .ref yV])), (ym, .inl (cYm, 96, .inl (upd (upd (upd (upd gm (M + 9) ((gm (M + 9)) + 1)) (M + 10) ((upd gm (M + 9) ((gm (M + 9)) + 1)) (M + 4))) (M + 4) 16) (M + 7) 1))), (yL, .inl (cYL, 320, .inl gl_31)), (yT, .inl (cYT, 320, .inr (.inl gt))), (yK, .inl (cYK, 320, .inl gk))]) (M + 7) rfl rfl rfl (by omega) (by decide) d_Y_step_66 rfl ?_
    refine zk_goto (pc := 67) X (tgt := 114) d_Y_step_67 (by decide) ?_
    refine zk_perm (ws' := [(hy, .inr (7, [.int ys, .int (nI yn), .ref yo, .ref yf, .ref yb, .int yg, .ref ym, .int yc, .int (nI yw), .ref yi, .int yq_31, .int (nI yl_31), .ref yL, .int ye_31, .int yt_31, .int yS_31, .int (nI yr), .int (nI ya), .ref yT, .ref yK, .ref yV])), (yo, .inl (cYo, 24, .inl go)), (yf, .inl (cYf, 24, .inl gf)), (yb, .inl (cYb, 24, .inl gs)), (ym, .inl (cYm, 96, .inl (upd (upd (upd (upd gm (M + 9) ((gm (M + 9)) + 1)) (M + 10) ((upd gm (M + 9) ((gm (M + 9)) + 1)) (M + 4))) (M + 4) 16) (M + 7) 1))), (yi, .inl (cYi, 16, .inl gi)), (yL, .inl (cYL, 320, .inl gl_31)), (yT, .inl (cYT, 320, .inr (.inl gt))), (yK, .inl (cYK, 320, .inl gk)), (yV, .inl (cYV, 320, .inl gv))]) [5, 0, 1, 2, 6, 3, 7, 8, 9, 4] rfl (by decide) ?_
    refine zk_lv (lv' := [(0, .ref hy), (1, .int (nI M))]) [1, 2] rfl ?_
    exact cut114 (upd (upd (upd (upd gm (M + 9) ((gm (M + 9)) + 1)) (M + 10) ((upd gm (M + 9) ((gm (M + 9)) + 1)) (M + 4))) (M + 4) 16) (M + 7) 1) gi gl_31 yw yq_31 yl_31 ye_31 yt_31 yS_31 (by omega) (by omega) (by omega) hq
