def sp_Y_run_19 (n : Int32) (go : Nat → Int32) (gf : Nat → Int32) (gs : Nat → Int32) (gt : Nat → Int64) (gk : Nat → Int32) (gv : Nat → Int32) (yn : Nat) (yc : Int32) (yr : Nat) : Nat → Nat → (Nat → Int32) → (Nat → Int32) → (Nat → Int32) → Nat → Int32 → Nat → Int32 → Int32 → Int32 → Int32 × Int32 × (Nat → Int32) × (Nat → Int32) × Nat × Int32 × (Nat → Int32) × Nat × Int32 × Int32 × Int32
  | 0, j, gm1, gi1, gl1, yw1, yq1, yl1, ye1, yt1, yS1 => (0, 1, gm1, gi1, yw1, yq1, gl1, yl1, yS1, yt1, ye1)
  | fuel + 1, j, gm1, gi1, gl1, yw1, yq1, yl1, ye1, yt1, yS1 =>
    if n ≤ (nI j) then
      (nI j, 1, gm1, gi1, yw1, yq1, gl1, yl1, yS1, yt1, ye1)
    else
      if 290 < yl1 then
        (nI j, 1, gm1, gi1, yw1, yq1, gl1, yl1, yS1, yt1, ye1)
      else
        if (gm1 8) = 0 then
          (match sp_Y_step 0 go gf gs gm1 gi1 gl1 gt gk gv yn yc yw1 yq1 yl1 ye1 yt1 yS1 yr with
          | (gm_46, gi_46, yw_46, yq_46, gl_46, yl_46, yS_46, yt_46, ye_46) =>
            sp_Y_run_19 n go gf gs gt gk gv yn yc yr fuel (j + 1) gm_46 gi_46 gl_46 yw_46 yq_46 yl_46 ye_46 yt_46 yS_46)
        else
          (nI j, 1, gm1, gi1, yw1, yq1, gl1, yl1, yS1, yt1, ye1)
def sp_Y_run (n : Int32) (go : Nat → Int32) (gf : Nat → Int32) (gs : Nat → Int32) (gm : Nat → Int32) (gi : Nat → Int32) (gl : Nat → Int32) (gt : Nat → Int64) (gk : Nat → Int32) (gv : Nat → Int32) (yn : Nat) (yg : Int32) (yc : Int32) (yw : Nat) (yq : Int32) (yl : Nat) (ye : Int32) (yt : Int32) (yS : Int32) (yr : Nat) : Int32 × Int32 × (Nat → Int32) × (Nat → Int32) × Nat × Int32 × (Nat → Int32) × Nat × Int32 × Int32 × Int32 :=
  if (sp_Y_in n 1 100) = 0 then
    ((-1), yg, gm, gi, yw, yq, gl, yl, yS, yt, ye)
  else
    sp_Y_run_19 n go gf gs gt gk gv yn yc yr 101 0 gm gi gl yw yq yl ye yt yS
abbrev rm_Y_run : Room := { frames := 7, cells := 0, slots := 0, locals := 162 }
set_option maxHeartbeats 4000000 in
set_option maxRecDepth 100000 in
theorem c_Y_run (l : Launch) (dC : Nat → ClassId) (dI : Nat → Nat → Nat) (hy yo yf yb ym yi yL yT yK yV : Nat) (cYo cYf cYb cYm cYi cYL cYT cYK cYV : ClassId) (n : Int32) (go : Nat → Int32) (gf : Nat → Int32) (gs : Nat → Int32) (gm : Nat → Int32) (gi : Nat → Int32) (gl : Nat → Int32) (gt : Nat → Int64) (gk : Nat → Int32) (gv : Nat → Int32) (ys : Int32) (yn : Nat) (yg : Int32) (yc : Int32) (yw : Nat) (yq : Int32) (yl : Nat) (ye : Int32) (yt : Int32) (yS : Int32) (yr : Nat) (ya : Nat) (hyn : yn ≤ 24) (hyr : yr ≤ 320) (hyw : yw ≤ 16) (hyl : yl ≤ 305) (hYI : zk_YI gm go gs yn 0) : zk_Ci l y_Y_run w_Y_run rm_Y_run (dC, dI) vwCl [.ref hy, .int n] [(hy, .inr (7, [.int ys, .int (nI yn), .ref yo, .ref yf, .ref yb, .int yg, .ref ym, .int yc, .int (nI yw), .ref yi, .int yq, .int (nI yl), .ref yL, .int ye, .int yt, .int yS, .int (nI yr), .int (nI ya), .ref yT, .ref yK, .ref yV])), (yo, .inl (cYo, 24, .inl go)), (yf, .inl (cYf, 24, .inl gf)), (yb, .inl (cYb, 24, .inl gs)), (ym, .inl (cYm, 96, .inl gm)), (yi, .inl (cYi, 16, .inl gi)), (yL, .inl (cYL, 320, .inl gl)), (yT, .inl (cYT, 320, .inr (.inl gt))), (yK, .inl (cYK, 320, .inl gk)), (yV, .inl (cYV, 320, .inl gv))] [(cYo, .int), (cYf, .int), (cYb, .int), (cYm, .int), (cYi, .int), (cYL, .int), (cYT, .long), (cYK, .int), (cYV, .int)] (fun (r : Int32) (u : Int32 × (Nat → Int32) × (Nat → Int32) × Nat × Int32 × (Nat → Int32) × Nat × Int32 × Int32 × Int32) => (r, u) = sp_Y_run n go gf gs gm gi gl gt gk gv yn yg yc yw yq yl ye yt yS yr ∧ (u.2.2.2.2.2.2.1 ≤ 305) ∧ (u.2.2.2.1 ≤ 16)) (fun u => [(hy, .inr (7, [.int ys, .int (nI yn), .ref yo, .ref yf, .ref yb, .int u.1, .ref ym, .int yc, .int (nI u.2.2.2.1), .ref yi, .int u.2.2.2.2.1, .int (nI u.2.2.2.2.2.2.1), .ref yL, .int u.2.2.2.2.2.2.2.2.2, .int u.2.2.2.2.2.2.2.2.1, .int u.2.2.2.2.2.2.2.1, .int (nI yr), .int (nI ya), .ref yT, .ref yK, .ref yV])), (yo, .inl (cYo, 24, .inl go)), (yf, .inl (cYf, 24, .inl gf)), (yb, .inl (cYb, 24, .inl gs)), (ym, .inl (cYm, 96, .inl u.2.1)), (yi, .inl (cYi, 16, .inl u.2.2.1)), (yL, .inl (cYL, 320, .inl u.2.2.2.2.2.1)), (yT, .inl (cYT, 320, .inr (.inl gt))), (yK, .inl (cYK, 320, .inl gk)), (yV, .inl (cYV, 320, .inl gv))]) := by
  refine zk_enteri (cc := b_Y_run) (maxL := 3) (ret := some .int) (by decide) rfl (Nat.le_of_ble_eq_true rfl) ?_
  intro p e s m args below meth c A Q hQ X hRt hLk
  have cut19 : ∀ (fuel : Nat) (j : Nat) (gm1 : Nat → Int32) (gi1 : Nat → Int32) (gl1 : Nat → Int32) (yw1 : Nat) (yq1 : Int32) (yl1 : Nat) (ye1 : Int32) (yt1 : Int32) (yS1 : Int32), (¬ (100 : Int32) < n) → (j ≤ 100) → (yl1 ≤ 305) → (yw1 ≤ 16) → (zk_YI gm1 go gs yn 0) → 100 - j < fuel → sp_Y_run n go gf gs gm gi gl gt gk gv yn yg yc yw yq yl ye yt yS yr = sp_Y_run_19 n go gf gs gt gk gv yn yc yr fuel j gm1 gi1 gl1 yw1 yq1 yl1 ye1 yt1 yS1 → zk_Z p l e rm_Y_run s m args below meth c Q A (dC, dI) vwCl 3 0 0 [(hy, .inr (7, [.int ys, .int (nI yn), .ref yo, .ref yf, .ref yb, .int 1, .ref ym, .int yc, .int (nI yw1), .ref yi, .int yq1, .int (nI yl1), .ref yL, .int ye1, .int yt1, .int yS1, .int (nI yr), .int (nI ya), .ref yT, .ref yK, .ref yV])), (yo, .inl (cYo, 24, .inl go)), (yf, .inl (cYf, 24, .inl gf)), (yb, .inl (cYb, 24, .inl gs)), (ym, .inl (cYm, 96, .inl gm1)), (yi, .inl (cYi, 16, .inl gi1)), (yL, .inl (cYL, 320, .inl gl1)), (yT, .inl (cYT, 320, .inr (.inl gt))), (yK, .inl (cYK, 320, .inl gk)), (yV, .inl (cYV, 320, .inl gv))] [(0, .ref hy), (1, .int n), (2, .int (nI j))] [] 19 := by
    intro fuel
    induction fuel with
    | zero => intro j gm1 gi1 gl1 yw1 yq1 yl1 ye1 yt1 yS1 hN hjj hl1 hw1 hY1 hMs; exact absurd hMs (Nat.not_lt_zero _)
    | succ fuel ih =>
      intro j gm1 gi1 gl1 yw1 yq1 yl1 ye1 yt1 yS1 hN hjj hl1 hw1 hY1 hMs hq
      rw [sp_Y_run_19] at hq
      refine zk_iload_n (pc := 19) X d_Y_run_19 rfl (q := 2) rfl ?_
      refine zk_iload_n (pc := 20) X d_Y_run_20 rfl (q := 1) rfl ?_
      refine zk_icmp_ge (pc := 21) X (tgt := 56) d_Y_run_21 (by decide) (fun h21 => ?_) (fun h21 => ?_)
      · have hq := hq.trans (if_pos h21)
        refine zk_iload_n (pc := 56) X d_Y_run_56 rfl (q := 2) rfl ?_
        exact zk_iret (pc := 57) X hQ hRt hLk (1, gm1, gi1, yw1, yq1, gl1, yl1, yS1, yt1, ye1) ⟨hq.symm, (show yl1 ≤ 305 by omega), (show yw1 ≤ 16 by omega)⟩ [0, 1, 2, 3, 4, 5, 6, 7, 8, 9] rfl (by decide) d_Y_run_57
      · have hq := hq.trans (if_neg h21)
        have g24 : j < 100 := zk_lt100 hN h21 hjj
        refine zk_aload_n (pc := 24) X d_Y_run_24 rfl (q := 0) rfl ?_
        refine zk_get (pc := 25) X (ci := 7) (v := .int (nI yl1)) in_Y 0 rfl rfl 11 (by decide) (zk_m tw_373) rfl d_Y_run_25 ?_
        refine zk_sipush (pc := 28) X (v := 290) d_Y_run_28 (by decide) ?_
        refine zk_icmpN_gt (pc := 31) X (tgt := 56) (yl1) (290) rfl rfl (by omega) (by omega) d_Y_run_31 (by decide) (fun h31 => ?_) (fun h31 => ?_)
        · have hq := hq.trans (if_pos h31)
          refine zk_iload_n (pc := 56) X d_Y_run_56 rfl (q := 2) rfl ?_
          exact zk_iret (pc := 57) X hQ hRt hLk (1, gm1, gi1, yw1, yq1, gl1, yl1, yS1, yt1, ye1) ⟨hq.symm, (show yl1 ≤ 305 by omega), (show yw1 ≤ 16 by omega)⟩ [0, 1, 2, 3, 4, 5, 6, 7, 8, 9] rfl (by decide) d_Y_run_57
        · have hq := hq.trans (if_neg h31)
          refine zk_aload_n (pc := 34) X d_Y_run_34 rfl (q := 0) rfl ?_
          refine zk_get (pc := 35) X (ci := 7) (v := .ref ym) in_Y 0 rfl rfl 6 (by decide) (zk_m tw_368) rfl d_Y_run_35 ?_
          refine zk_bipush (pc := 38) X (v := 8) d_Y_run_38 (by decide) ?_
          refine zk_iald (pc := 40) X 4 3 (8) rfl rfl rfl (by decide) (by decide) d_Y_run_40 ?_
          refine zk_if_ne (pc := 41) X (tgt := 56) d_Y_run_41 (by decide) (fun h41 => ?_) (fun h41 => ?_)
          · have hq := hq.trans (if_neg h41)
            refine zk_iload_n (pc := 56) X d_Y_run_56 rfl (q := 2) rfl ?_
            exact zk_iret (pc := 57) X hQ hRt hLk (1, gm1, gi1, yw1, yq1, gl1, yl1, yS1, yt1, ye1) ⟨hq.symm, (show yl1 ≤ 305 by omega), (show yw1 ≤ 16 by omega)⟩ [0, 1, 2, 3, 4, 5, 6, 7, 8, 9] rfl (by decide) d_Y_run_57
          · have hq := hq.trans (if_pos h41)
            refine zk_aload_n (pc := 44) X d_Y_run_44 rfl (q := 0) rfl ?_
            refine zk_iconst (pc := 45) X (v := 0) d_Y_run_45 rfl ?_
            refine zk_callv (pc := 46) X (wc := [(hy, .inr (7, [.int ys, .int (nI yn), .ref yo, .ref yf, .ref yb, .int 1, .ref ym, .int yc, .int (nI yw1), .ref yi, .int yq1, .int (nI yl1), .ref yL, .int ye1, .int yt1, .int yS1, .int (nI yr), .int (nI ya), .ref yT, .ref yK, .ref yV])), (yo, .inl (cYo, 24, .inl go)), (yf, .inl (cYf, 24, .inl gf)), (yb, .inl (cYb, 24, .inl gs)), (ym, .inl (cYm, 96, .inl gm1)), (yi, .inl (cYi, 16, .inl gi1)), (yL, .inl (cYL, 320, .inl gl1)), (yT, .inl (cYT, 320, .inr (.inl gt))), (yK, .inl (cYK, 320, .inl gk)), (yV, .inl (cYV, 320, .inl gv))]) (wr := []) [0, 1, 2, 3, 4, 5, 6, 7, 8, 9] [] rfl rfl (by decide) (by decide) (by decide) (zk_runV X (C := R_Y) (tysC := [(cYo, .int), (cYf, .int), (cYb, .int), (cYm, .int), (cYi, .int), (cYL, .int), (cYT, .long), (cYK, .int), (cYV, .int)]) (As := [.int 0]) (rest := []) (c_Y_step l dC dI hy yo yf yb ym yi yL yT yK yV cYo cYf cYb cYm cYi cYL cYT cYK cYV 0 go gf gs gm1 gi1 gl1 gt gk gv ys yn 1 yc yw1 yq1 yl1 ye1 yt1 yS1 yr ya (by omega) (by omega) (by omega) (by omega) (by omega) hY1.pl) [0, 1, 2, 3, 4, 5, 6, 7, 8] rfl (ci := 7) rfl 0 rfl (zk_cwV 1 X.1.2.2.2.2 (zk_goodT tw_438) rfl rfl rfl (zk_m tw_436) (zk_m tw_437) (zk_m tw_533) (zk_m tw_9) rfl (by decide +kernel) ⟨Nat.le_of_ble_eq_true rfl, Nat.le_of_ble_eq_true rfl⟩) rfl rfl (Nat.le_of_ble_eq_true rfl) ⟨Nat.zero_le _, Nat.zero_le _⟩ d_Y_run_46) ?_
            rintro ⟨gm_46, gi_46, yw_46, yq_46, gl_46, yl_46, yS_46, yt_46, ye_46⟩ ⟨w46, f46_0, f46_1, f46_2⟩
            have f46_0 : yl_46 ≤ yl1 + 15 := f46_0
            have f46_1 : 0 < 0 → yl_46 = yl1 := f46_1
            have f46_2 : yw_46 ≤ 16 := f46_2
            refine zk_ws (ws' := [(hy, .inr (7, [.int ys, .int (nI yn), .ref yo, .ref yf, .ref yb, .int 1, .ref ym, .int yc, .int (nI yw_46), .ref yi, .int yq_46, .int (nI yl_46), .ref yL, .int ye_46, .int yt_46, .int yS_46, .int (nI yr), .int (nI ya), .ref yT, .ref yK, .ref yV])), (yo, .inl (cYo, 24, .inl go)), (yf, .inl (cYf, 24, .inl gf)), (yb, .inl (cYb, 24, .inl gs)), (ym, .inl (cYm, 96, .inl gm_46)), (yi, .inl (cYi, 16, .inl gi_46)), (yL, .inl (cYL, 320, .inl gl_46)), (yT, .inl (cYT, 320, .inr (.inl gt))), (yK, .inl (cYK, 320, .inl gk)), (yV, .inl (cYV, 320, .inl gv))]) rfl ?_
            try dsimp only at w46
            rw [← w46] at hq
            try dsimp only at hq
            refine zk_iload_n (pc := 49) X d_Y_run_49 rfl (q := 2) rfl ?_
            refine zk_iconst (pc := 50) X (v := 1) d_Y_run_50 rfl ?_
            refine zk_iadd (pc := 51) X (v := nI (j + 1)) d_Y_run_51 (nI_add (j) (1)) ?_
            refine zk_istore_n (pc := 52) X (i := 2) (lv' := [(2, .int (nI (j + 1))), (0, .ref hy), (1, .int n)]) d_Y_run_52 rfl (by decide) rfl ?_
            refine zk_goto (pc := 53) X (tgt := 19) d_Y_run_53 (by decide) ?_
            refine zk_lv (lv' := [(0, .ref hy), (1, .int n), (2, .int (nI (j + 1)))]) [1, 2, 0] rfl ?_
            exact ih (j + 1) gm_46 gi_46 gl_46 yw_46 yq_46 yl_46 ye_46 yt_46 yS_46 hN (by omega) (by omega) (by omega) (by have h := (zf_step 0 go gf gs gm1 gi1 gl1 gt gk gv yn yc yw1 yq1 yl1 ye1 yt1 yS1 yr hyn hY1).1; rw [← w46] at h; exact h) (by omega) hq
  have hq := sp_Y_run.eq_1 n go gf gs gm gi gl gt gk gv yn yg yc yw yq yl ye yt yS yr
  refine zk_lv (lv' := [(0, .ref hy), (1, .int n)]) [0, 1] rfl ?_
  refine zk_iload_n (pc := 0) X d_Y_run_0 rfl (q := 1) rfl ?_
  refine zk_iconst (pc := 1) X (v := 1) d_Y_run_1 rfl ?_
  refine zk_bipush (pc := 2) X (v := 100) d_Y_run_2 (by decide) ?_
  refine zk_calli (pc := 4) X (wc := []) (wr := [(hy, .inr (7, [.int ys, .int (nI yn), .ref yo, .ref yf, .ref yb, .int yg, .ref ym, .int yc, .int (nI yw), .ref yi, .int yq, .int (nI yl), .ref yL, .int ye, .int yt, .int yS, .int (nI yr), .int (nI ya), .ref yT, .ref yK, .ref yV])), (yo, .inl (cYo, 24, .inl go)), (yf, .inl (cYf, 24, .inl gf)), (yb, .inl (cYb, 24, .inl gs)), (ym, .inl (cYm, 96, .inl gm)), (yi, .inl (cYi, 16, .inl gi)), (yL, .inl (cYL, 320, .inl gl)), (yT, .inl (cYT, 320, .inr (.inl gt))), (yK, .inl (cYK, 320, .inl gk)), (yV, .inl (cYV, 320, .inl gv))]) [] [0, 1, 2, 3, 4, 5, 6, 7, 8, 9] rfl rfl (by decide) (by decide) (by decide) (zk_runS X (tysC := []) (As := [.int n, .int 1, .int 100]) (rest := []) (c_Y_in l dC dI n 1 100) [] rfl (zk_cwS 3 X.1.2.2.2.2 (zk_goodT tw_411) rfl rfl rfl (zk_m tw_409) (zk_m tw_410) (zk_m tw_9) (by decide +kernel) ⟨Nat.le_of_ble_eq_true rfl, Nat.le_of_ble_eq_true rfl⟩) rfl rfl (Nat.le_of_ble_eq_true rfl) ⟨Nat.zero_le _, Nat.zero_le _⟩ d_Y_run_4) ?_
  rintro r4 ⟨⟩ ⟨w4, f4_0⟩
  have f4_0 : zk_inr r4 n 1 100 := f4_0
  refine zk_ws (ws' := [(hy, .inr (7, [.int ys, .int (nI yn), .ref yo, .ref yf, .ref yb, .int yg, .ref ym, .int yc, .int (nI yw), .ref yi, .int yq, .int (nI yl), .ref yL, .int ye, .int yt, .int yS, .int (nI yr), .int (nI ya), .ref yT, .ref yK, .ref yV])), (yo, .inl (cYo, 24, .inl go)), (yf, .inl (cYf, 24, .inl gf)), (yb, .inl (cYb, 24, .inl gs)), (ym, .inl (cYm, 96, .inl gm)), (yi, .inl (cYi, 16, .inl gi)), (yL, .inl (cYL, 320, .inl gl)), (yT, .inl (cYT, 320, .inr (.inl gt))), (yK, .inl (cYK, 320, .inl gk)), (yV, .inl (cYV, 320, .inl gv))]) rfl ?_
  subst w4
  refine zk_if_ne (pc := 7) X (tgt := 12) d_Y_run_7 (by decide) (fun h7 => ?_) (fun h7 => ?_)
  · have hq := hq.trans (if_neg h7)
    refine zk_aload_n (pc := 12) X d_Y_run_12 rfl (q := 0) rfl ?_
    refine zk_iconst (pc := 13) X (v := 1) d_Y_run_13 rfl ?_
    refine zk_put (pc := 14) X (ty := .boolean) (v := .int 1) (ws' := [(hy, .inr (7, [.int ys, .int (nI yn), .ref yo, .ref yf, .ref yb, .int 1, .ref ym, .int yc, .int (nI yw), .ref yi, .int yq, .int (nI yl), .ref yL, .int ye, .int yt, .int yS, .int (nI yr), .int (nI ya), .ref yT, .ref yK, .ref yV])), (yo, .inl (cYo, 24, .inl go)), (yf, .inl (cYf, 24, .inl gf)), (yb, .inl (cYb, 24, .inl gs)), (ym, .inl (cYm, 96, .inl gm)), (yi, .inl (cYi, 16, .inl gi)), (yL, .inl (cYL, 320, .inl gl)), (yT, .inl (cYT, 320, .inr (.inl gt))), (yK, .inl (cYK, 320, .inl gk)), (yV, .inl (cYV, 320, .inl gv))]) in_Y tok_Y nok_Y 0 rfl rfl 5 (by decide) (zk_m tw_367) rfl rfl rfl rfl (Nat.le_of_ble_eq_true rfl) d_Y_run_14 rfl ?_
    refine zk_iconst (pc := 17) X (v := 0) d_Y_run_17 rfl ?_
    refine zk_istore_n (pc := 18) X (i := 2) (lv' := [(2, .int 0), (0, .ref hy), (1, .int n)]) d_Y_run_18 rfl (by decide) rfl ?_
    refine zk_lv (lv' := [(0, .ref hy), (1, .int n), (2, .int 0)]) [1, 2, 0] rfl ?_
    exact cut19 (101) 0 gm gi gl yw yq yl ye yt yS (zk_inHi f4_0 h7) (by omega) (by omega) (by omega) hYI (by omega) hq
  · have hq := hq.trans (if_pos h7)
    refine zk_iconst (pc := 10) X (v := (-1)) d_Y_run_10 rfl ?_
    exact zk_iret (pc := 11) X hQ hRt hLk (yg, gm, gi, yw, yq, gl, yl, yS, yt, ye) ⟨hq.symm, (show yl ≤ 305 by omega), (show yw ≤ 16 by omega)⟩ [0, 1, 2, 3, 4, 5, 6, 7, 8, 9] rfl (by decide) d_Y_run_11
def sp_Y_tell_75 : Nat → Int32 → Nat → (Nat → Int32) → (Nat → Int32) → (Nat → Int32) → (Nat → Int64) → (Nat → Int32) → (Nat → Int32) → Nat → Int32 → Nat → Int32 → Int32 → Int32 → Nat → Nat → Int32 × (Nat → Int32) × (Nat → Int32) × Nat × Int32 × (Nat → Int32) × Nat × Int32 × Int32 × Int32 × (Nat → Int64) × (Nat → Int32) × (Nat → Int32) × Nat × Nat
  | 0, sm, j, gm2, gi2, gl2, gt2, gk2, gv2, yw2, yq2, yl2, ye2, yt2, yS2, yr2, ya2 => (0, gm2, gi2, yw2, yq2, gl2, yl2, yS2, yt2, ye2, gt2, gk2, gv2, yr2, ya2)
  | fuel + 1, sm, j, gm2, gi2, gl2, gt2, gk2, gv2, yw2, yq2, yl2, ye2, yt2, yS2, yr2, ya2 =>
    if 48 ≤ j then
      if sm = 0 then
        (0, gm2, gi2, yw2, yq2, gl2, yl2, yS2, yt2, ye2, gt2, gk2, gv2, yr2, ya2)
      else
        (1, gm2, gi2, yw2, yq2, gl2, yl2, yS2, yt2, ye2, gt2, gk2, gv2, yr2, ya2)
    else
      if j ≤ 9 then
        if sm = 0 then
          sp_Y_tell_75 fuel 0 (j + 1) gm2 gi2 gl2 gt2 gk2 gv2 yw2 yq2 yl2 ye2 yt2 yS2 yr2 ya2
        else
          if (gm2 j) = (gm2 (j + 48)) then
            sp_Y_tell_75 fuel 1 (j + 1) gm2 gi2 gl2 gt2 gk2 gv2 yw2 yq2 yl2 ye2 yt2 yS2 yr2 ya2
          else
            sp_Y_tell_75 fuel 0 (j + 1) gm2 gi2 gl2 gt2 gk2 gv2 yw2 yq2 yl2 ye2 yt2 yS2 yr2 ya2
      else
        if j < 16 then
          if sm = 0 then
            sp_Y_tell_75 fuel 0 (j + 1) gm2 gi2 gl2 gt2 gk2 gv2 yw2 yq2 yl2 ye2 yt2 yS2 yr2 ya2
          else
            sp_Y_tell_75 fuel 1 (j + 1) gm2 gi2 gl2 gt2 gk2 gv2 yw2 yq2 yl2 ye2 yt2 yS2 yr2 ya2
        else
          if sm = 0 then
            sp_Y_tell_75 fuel 0 (j + 1) gm2 gi2 gl2 gt2 gk2 gv2 yw2 yq2 yl2 ye2 yt2 yS2 yr2 ya2
          else
            if (gm2 j) = (gm2 (j + 48)) then
              sp_Y_tell_75 fuel 1 (j + 1) gm2 gi2 gl2 gt2 gk2 gv2 yw2 yq2 yl2 ye2 yt2 yS2 yr2 ya2
            else
              sp_Y_tell_75 fuel 0 (j + 1) gm2 gi2 gl2 gt2 gk2 gv2 yw2 yq2 yl2 ye2 yt2 yS2 yr2 ya2
def sp_Y_tell_34 (go : Nat → Int32) (gf : Nat → Int32) (gs : Nat → Int32) (yn : Nat) (yc : Int32) : Nat → (Nat → Int32) → (Nat → Int32) → (Nat → Int32) → (Nat → Int64) → (Nat → Int32) → (Nat → Int32) → Nat → Int32 → Nat → Int32 → Int32 → Int32 → Nat → Nat → Int32 × (Nat → Int32) × (Nat → Int32) × Nat × Int32 × (Nat → Int32) × Nat × Int32 × Int32 × Int32 × (Nat → Int64) × (Nat → Int32) × (Nat → Int32) × Nat × Nat
  | 0, gm1, gi1, gl1, gt1, gk1, gv1, yw1, yq1, yl1, ye1, yt1, yS1, yr1, ya1 => (0, gm1, gi1, yw1, yq1, gl1, yl1, yS1, yt1, ye1, gt1, gk1, gv1, yr1, ya1)
  | fuel + 1, gm1, gi1, gl1, gt1, gk1, gv1, yw1, yq1, yl1, ye1, yt1, yS1, yr1, ya1 =>
    if (gm1 9) ≤ (gm1 57) then
      sp_Y_tell_75 49 1 0 gm1 gi1 gl1 gt1 gk1 gv1 yw1 yq1 yl1 ye1 yt1 yS1 yr1 ya1
    else
      if (gm1 56) = 0 then
        (match sp_Y_step 48 go gf gs gm1 gi1 gl1 gt1 gk1 gv1 yn yc yw1 yq1 yl1 ye1 yt1 yS1 yr1 with
        | (gm_64, gi_64, yw_64, yq_64, gl_64, yl_64, yS_64, yt_64, ye_64) =>
          sp_Y_tell_34 go gf gs yn yc fuel gm_64 gi_64 gl_64 gt1 gk1 gv1 yw_64 yq_64 yl_64 ye_64 yt_64 yS_64 yr1 ya1)
      else
        sp_Y_tell_75 49 1 0 gm1 gi1 gl1 gt1 gk1 gv1 yw1 yq1 yl1 ye1 yt1 yS1 yr1 ya1
def sp_Y_tell (sv : Int32) (n : Int32) (kL : Nat) (go : Nat → Int32) (gf : Nat → Int32) (gs : Nat → Int32) (gm : Nat → Int32) (gi : Nat → Int32) (gl : Nat → Int32) (gt : Nat → Int64) (gk : Nat → Int32) (gv : Nat → Int32) (ys : Int32) (yn : Nat) (yc : Int32) (yw : Nat) (yq : Int32) (yl : Nat) (ye : Int32) (yt : Int32) (yS : Int32) (yr : Nat) (ya : Nat) : Int32 × (Nat → Int32) × (Nat → Int32) × Nat × Int32 × (Nat → Int32) × Nat × Int32 × Int32 × Int32 × (Nat → Int64) × (Nat → Int32) × (Nat → Int32) × Nat × Nat :=
  if n = (nI yl) then
    if sv = (sp_Y_sealNow gl yl) then
      (match sp_Y_readAll gl gt gk gv yl with
      | (r19, gt_19, gk_19, gv_19, yr_19, ya_19) =>
        if r19 = 0 then
          ((-2), gm, gi, yw, yq, gl, yl, yS, yt, ye, gt_19, gk_19, gv_19, yr_19, ya_19)
        else
          (fun gm_31 =>
            sp_Y_tell_34 go gf gs yn yc (kL + 1) gm_31 gi gl gt_19 gk_19 gv_19 yw yq yl ye yt yS yr_19 ya_19) (sp_Y_anew 48 gm ys))
    else
      ((-1), gm, gi, yw, yq, gl, yl, yS, yt, ye, gt, gk, gv, yr, ya)
  else
    ((-1), gm, gi, yw, yq, gl, yl, yS, yt, ye, gt, gk, gv, yr, ya)
abbrev rm_Y_tell : Room := { frames := 7, cells := 0, slots := 0, locals := 162 }
set_option maxHeartbeats 4000000 in
set_option maxRecDepth 100000 in
theorem c_Y_tell (l : Launch) (dC : Nat → ClassId) (dI : Nat → Nat → Nat) (hy yo yf yb ym yi yL yT yK yV : Nat) (cYo cYf cYb cYm cYi cYL cYT cYK cYV : ClassId) (sv : Int32) (n : Int32) (kL : Nat) (go : Nat → Int32) (gf : Nat → Int32) (gs : Nat → Int32) (gm : Nat → Int32) (gi : Nat → Int32) (gl : Nat → Int32) (gt : Nat → Int64) (gk : Nat → Int32) (gv : Nat → Int32) (ys : Int32) (yn : Nat) (yg : Int32) (yc : Int32) (yw : Nat) (yq : Int32) (yl : Nat) (ye : Int32) (yt : Int32) (yS : Int32) (yr : Nat) (ya : Nat) (hyn : yn ≤ 24) (hyr : yr ≤ 320) (hyw : yw ≤ 16) (hyl : yl ≤ 305) (hYP : zk_YP go gs yn) (hkL : gm 9 = nI kL) (hkL2 : kL < 2 ^ 31) : zk_Ci l y_Y_tell w_Y_tell rm_Y_tell (dC, dI) vwCl [.ref hy, .int sv, .int n] [(hy, .inr (7, [.int ys, .int (nI yn), .ref yo, .ref yf, .ref yb, .int yg, .ref ym, .int yc, .int (nI yw), .ref yi, .int yq, .int (nI yl), .ref yL, .int ye, .int yt, .int yS, .int (nI yr), .int (nI ya), .ref yT, .ref yK, .ref yV])), (yo, .inl (cYo, 24, .inl go)), (yf, .inl (cYf, 24, .inl gf)), (yb, .inl (cYb, 24, .inl gs)), (ym, .inl (cYm, 96, .inl gm)), (yi, .inl (cYi, 16, .inl gi)), (yL, .inl (cYL, 320, .inl gl)), (yT, .inl (cYT, 320, .inr (.inl gt))), (yK, .inl (cYK, 320, .inl gk)), (yV, .inl (cYV, 320, .inl gv))] [(cYo, .int), (cYf, .int), (cYb, .int), (cYm, .int), (cYi, .int), (cYL, .int), (cYT, .long), (cYK, .int), (cYV, .int)] (fun (r : Int32) (u : (Nat → Int32) × (Nat → Int32) × Nat × Int32 × (Nat → Int32) × Nat × Int32 × Int32 × Int32 × (Nat → Int64) × (Nat → Int32) × (Nat → Int32) × Nat × Nat) => (r, u) = sp_Y_tell sv n kL go gf gs gm gi gl gt gk gv ys yn yc yw yq yl ye yt yS yr ya ∧ (u.2.2.2.2.2.2.2.2.2.2.2.2.1 ≤ 320)) (fun u => [(hy, .inr (7, [.int ys, .int (nI yn), .ref yo, .ref yf, .ref yb, .int yg, .ref ym, .int yc, .int (nI u.2.2.1), .ref yi, .int u.2.2.2.1, .int (nI u.2.2.2.2.2.1), .ref yL, .int u.2.2.2.2.2.2.2.2.1, .int u.2.2.2.2.2.2.2.1, .int u.2.2.2.2.2.2.1, .int (nI u.2.2.2.2.2.2.2.2.2.2.2.2.1), .int (nI u.2.2.2.2.2.2.2.2.2.2.2.2.2), .ref yT, .ref yK, .ref yV])), (yo, .inl (cYo, 24, .inl go)), (yf, .inl (cYf, 24, .inl gf)), (yb, .inl (cYb, 24, .inl gs)), (ym, .inl (cYm, 96, .inl u.1)), (yi, .inl (cYi, 16, .inl u.2.1)), (yL, .inl (cYL, 320, .inl u.2.2.2.2.1)), (yT, .inl (cYT, 320, .inr (.inl u.2.2.2.2.2.2.2.2.2.1))), (yK, .inl (cYK, 320, .inl u.2.2.2.2.2.2.2.2.2.2.1)), (yV, .inl (cYV, 320, .inl u.2.2.2.2.2.2.2.2.2.2.2.1))]) := by
  refine zk_enteri (cc := b_Y_tell) (maxL := 6) (ret := some .int) (by decide) rfl (Nat.le_of_ble_eq_true rfl) ?_
  intro p e s m args below meth c A Q hQ X hRt hLk
  have cut75 : ∀ (fuel : Nat) (sm : Int32) (j : Nat) (gm2 : Nat → Int32) (gi2 : Nat → Int32) (gl2 : Nat → Int32) (gt2 : Nat → Int64) (gk2 : Nat → Int32) (gv2 : Nat → Int32) (yw2 : Nat) (yq2 : Int32) (yl2 : Nat) (ye2 : Int32) (yt2 : Int32) (yS2 : Int32) (yr2 : Nat) (ya2 : Nat), (j ≤ 48) → (yr2 ≤ 320) → 48 - j < fuel → sp_Y_tell sv n kL go gf gs gm gi gl gt gk gv ys yn yc yw yq yl ye yt yS yr ya = sp_Y_tell_75 fuel sm j gm2 gi2 gl2 gt2 gk2 gv2 yw2 yq2 yl2 ye2 yt2 yS2 yr2 ya2 → zk_Z p l e rm_Y_tell s m args below meth c Q A (dC, dI) vwCl 6 0 0 [(hy, .inr (7, [.int ys, .int (nI yn), .ref yo, .ref yf, .ref yb, .int yg, .ref ym, .int yc, .int (nI yw2), .ref yi, .int yq2, .int (nI yl2), .ref yL, .int ye2, .int yt2, .int yS2, .int (nI yr2), .int (nI ya2), .ref yT, .ref yK, .ref yV])), (yo, .inl (cYo, 24, .inl go)), (yf, .inl (cYf, 24, .inl gf)), (yb, .inl (cYb, 24, .inl gs)), (ym, .inl (cYm, 96, .inl gm2)), (yi, .inl (cYi, 16, .inl gi2)), (yL, .inl (cYL, 320, .inl gl2)), (yT, .inl (cYT, 320, .inr (.inl gt2))), (yK, .inl (cYK, 320, .inl gk2)), (yV, .inl (cYV, 320, .inl gv2))] [(0, .ref hy), (1, .int sv), (2, .int n), (3, .int sm), (4, .int (nI j))] [] 75 := by
    intro fuel
    induction fuel with
    | zero => intro sm j gm2 gi2 gl2 gt2 gk2 gv2 yw2 yq2 yl2 ye2 yt2 yS2 yr2 ya2 hjj hyr2 hMs; exact absurd hMs (Nat.not_lt_zero _)
    | succ fuel ih =>
      intro sm j gm2 gi2 gl2 gt2 gk2 gv2 yw2 yq2 yl2 ye2 yt2 yS2 yr2 ya2 hjj hyr2 hMs hq
      rw [sp_Y_tell_75] at hq
      refine zk_iload (pc := 75) X d_Y_tell_75 (q := 4) rfl ?_
      refine zk_bipush (pc := 77) X (v := 48) d_Y_tell_77 (by decide) ?_
      refine zk_icmpN_ge (pc := 79) X (tgt := 144) (j) (48) rfl rfl (by omega) (by omega) d_Y_tell_79 (by decide) (fun h79 => ?_) (fun h79 => ?_)
      · have hq := hq.trans (if_pos h79)
        refine zk_iload_n (pc := 144) X d_Y_tell_144 rfl (q := 3) rfl ?_
        refine zk_if_eq (pc := 145) X (tgt := 152) d_Y_tell_145 (by decide) (fun h145 => ?_) (fun h145 => ?_)
        · have hq := hq.trans (if_pos h145)
          refine zk_iconst (pc := 152) X (v := 0) d_Y_tell_152 rfl ?_
          exact zk_iret (pc := 153) X hQ hRt hLk (gm2, gi2, yw2, yq2, gl2, yl2, yS2, yt2, ye2, gt2, gk2, gv2, yr2, ya2) ⟨hq.symm, (show yr2 ≤ 320 by omega)⟩ [0, 1, 2, 3, 4, 5, 6, 7, 8, 9] rfl (by decide) d_Y_tell_153
        · have hq := hq.trans (if_neg h145)
          refine zk_iconst (pc := 148) X (v := 1) d_Y_tell_148 rfl ?_
          refine zk_goto (pc := 149) X (tgt := 153) d_Y_tell_149 (by decide) ?_
          exact zk_iret (pc := 153) X hQ hRt hLk (gm2, gi2, yw2, yq2, gl2, yl2, yS2, yt2, ye2, gt2, gk2, gv2, yr2, ya2) ⟨hq.symm, (show yr2 ≤ 320 by omega)⟩ [0, 1, 2, 3, 4, 5, 6, 7, 8, 9] rfl (by decide) d_Y_tell_153
      · have hq := hq.trans (if_neg h79)
        refine zk_iload (pc := 82) X d_Y_tell_82 (q := 4) rfl ?_
        refine zk_bipush (pc := 84) X (v := 9) d_Y_tell_84 (by decide) ?_
        refine zk_icmpN_le (pc := 86) X (tgt := 96) (j) (9) rfl rfl (by omega) (by omega) d_Y_tell_86 (by decide) (fun h86 => ?_) (fun h86 => ?_)
        · have hq := hq.trans (if_pos h86)
          refine zk_iconst (pc := 96) X (v := 1) d_Y_tell_96 rfl ?_
          refine zk_goto (pc := 97) X (tgt := 101) d_Y_tell_97 (by decide) ?_
          refine zk_istore (pc := 101) X (i := 5) (lv' := [(5, .int 1), (0, .ref hy), (1, .int sv), (2, .int n), (3, .int sm), (4, .int (nI j))]) d_Y_tell_101 (by decide) rfl ?_
          refine zk_iload_n (pc := 103) X d_Y_tell_103 rfl (q := 4) rfl ?_
          refine zk_if_eq (pc := 104) X (tgt := 136) d_Y_tell_104 (by decide) (fun h104 => ?_) (fun h104 => ?_)
          · have hq := hq.trans (if_pos h104)
            refine zk_iconst (pc := 136) X (v := 0) d_Y_tell_136 rfl ?_
            refine zk_istore_n (pc := 137) X (i := 3) (lv' := [(3, .int 0), (5, .int 1), (0, .ref hy), (1, .int sv), (2, .int n), (4, .int (nI j))]) d_Y_tell_137 rfl (by decide) rfl ?_
            refine zk_iinc (pc := 138) X (k0 := 5) (v := nI (j + 1)) (lv' := [(4, .int (nI (j + 1))), (3, .int 0), (5, .int 1), (0, .ref hy), (1, .int sv), (2, .int n)]) d_Y_tell_138 rfl (nI_add (j) 1) (by decide) rfl ?_
            refine zk_goto (pc := 141) X (tgt := 75) d_Y_tell_141 (by decide) ?_
            refine zk_lv (lv' := [(0, .ref hy), (1, .int sv), (2, .int n), (3, .int 0), (4, .int (nI (j + 1)))]) [3, 4, 5, 1, 0] rfl ?_
            exact ih 0 (j + 1) gm2 gi2 gl2 gt2 gk2 gv2 yw2 yq2 yl2 ye2 yt2 yS2 yr2 ya2 (by omega) (by omega) (by omega) hq
          · have hq := hq.trans (if_neg h104)
            refine zk_iload (pc := 107) X d_Y_tell_107 (q := 0) rfl ?_
            refine zk_if_eq (pc := 109) X (tgt := 132) d_Y_tell_109 (by decide) (fun h => absurd h (by decide)) (fun _ => ?_)
            refine zk_aload_n (pc := 112) X d_Y_tell_112 rfl (q := 1) rfl ?_
            refine zk_get (pc := 113) X (ci := 7) (v := .ref ym) in_Y 0 rfl rfl 6 (by decide) (zk_m tw_368) rfl d_Y_tell_113 ?_
            refine zk_iload (pc := 116) X d_Y_tell_116 (q := 5) rfl ?_
            refine zk_iald (pc := 118) X 4 3 (j) rfl rfl rfl (by omega) (by decide) d_Y_tell_118 ?_
            refine zk_aload_n (pc := 119) X d_Y_tell_119 rfl (q := 1) rfl ?_
            refine zk_get (pc := 120) X (ci := 7) (v := .ref ym) in_Y 0 rfl rfl 6 (by decide) (zk_m tw_368) rfl d_Y_tell_120 ?_
            refine zk_bipush (pc := 123) X (v := 48) d_Y_tell_123 (by decide) ?_
            refine zk_iload (pc := 125) X d_Y_tell_125 (q := 5) rfl ?_
            refine zk_iadd (pc := 127) X (v := nI (j + 48)) d_Y_tell_127 (by rw [show (48 : Int32) = nI 48 from rfl, nI_add, Nat.add_comm]) ?_
            refine zk_iald (pc := 128) X 4 3 (j + 48) rfl rfl rfl (by omega) (by decide) d_Y_tell_128 ?_
            refine zk_icmp_ne (pc := 129) X (tgt := 136) d_Y_tell_129 (by decide) (fun h129 => ?_) (fun h129 => ?_)
            · have hq := hq.trans (if_neg h129)
              refine zk_iconst (pc := 136) X (v := 0) d_Y_tell_136 rfl ?_
              refine zk_istore_n (pc := 137) X (i := 3) (lv' := [(3, .int 0), (5, .int 1), (0, .ref hy), (1, .int sv), (2, .int n), (4, .int (nI j))]) d_Y_tell_137 rfl (by decide) rfl ?_
              refine zk_iinc (pc := 138) X (k0 := 5) (v := nI (j + 1)) (lv' := [(4, .int (nI (j + 1))), (3, .int 0), (5, .int 1), (0, .ref hy), (1, .int sv), (2, .int n)]) d_Y_tell_138 rfl (nI_add (j) 1) (by decide) rfl ?_
              refine zk_goto (pc := 141) X (tgt := 75) d_Y_tell_141 (by decide) ?_
              refine zk_lv (lv' := [(0, .ref hy), (1, .int sv), (2, .int n), (3, .int 0), (4, .int (nI (j + 1)))]) [3, 4, 5, 1, 0] rfl ?_
              exact ih 0 (j + 1) gm2 gi2 gl2 gt2 gk2 gv2 yw2 yq2 yl2 ye2 yt2 yS2 yr2 ya2 (by omega) (by omega) (by omega) hq
            · have hq := hq.trans (if_pos h129)
              refine zk_iconst (pc := 132) X (v := 1) d_Y_tell_132 rfl ?_
              refine zk_goto (pc := 133) X (tgt := 137) d_Y_tell_133 (by decide) ?_
              refine zk_istore_n (pc := 137) X (i := 3) (lv' := [(3, .int 1), (5, .int 1), (0, .ref hy), (1, .int sv), (2, .int n), (4, .int (nI j))]) d_Y_tell_137 rfl (by decide) rfl ?_
              refine zk_iinc (pc := 138) X (k0 := 5) (v := nI (j + 1)) (lv' := [(4, .int (nI (j + 1))), (3, .int 1), (5, .int 1), (0, .ref hy), (1, .int sv), (2, .int n)]) d_Y_tell_138 rfl (nI_add (j) 1) (by decide) rfl ?_
              refine zk_goto (pc := 141) X (tgt := 75) d_Y_tell_141 (by decide) ?_
              refine zk_lv (lv' := [(0, .ref hy), (1, .int sv), (2, .int n), (3, .int 1), (4, .int (nI (j + 1)))]) [3, 4, 5, 1, 0] rfl ?_
              exact ih 1 (j + 1) gm2 gi2 gl2 gt2 gk2 gv2 yw2 yq2 yl2 ye2 yt2 yS2 yr2 ya2 (by omega) (by omega) (by omega) hq
        · have hq := hq.trans (if_neg h86)
          refine zk_iload (pc := 89) X d_Y_tell_89 (q := 4) rfl ?_
          refine zk_bipush (pc := 91) X (v := 16) d_Y_tell_91 (by decide) ?_
          refine zk_icmpN_lt (pc := 93) X (tgt := 100) (j) (16) rfl rfl (by omega) (by omega) d_Y_tell_93 (by decide) (fun h93 => ?_) (fun h93 => ?_)
          · have hq := hq.trans (if_pos h93)
            refine zk_iconst (pc := 100) X (v := 0) d_Y_tell_100 rfl ?_
            refine zk_istore (pc := 101) X (i := 5) (lv' := [(5, .int 0), (0, .ref hy), (1, .int sv), (2, .int n), (3, .int sm), (4, .int (nI j))]) d_Y_tell_101 (by decide) rfl ?_
            refine zk_iload_n (pc := 103) X d_Y_tell_103 rfl (q := 4) rfl ?_
            refine zk_if_eq (pc := 104) X (tgt := 136) d_Y_tell_104 (by decide) (fun h104 => ?_) (fun h104 => ?_)
            · have hq := hq.trans (if_pos h104)
              refine zk_iconst (pc := 136) X (v := 0) d_Y_tell_136 rfl ?_
              refine zk_istore_n (pc := 137) X (i := 3) (lv' := [(3, .int 0), (5, .int 0), (0, .ref hy), (1, .int sv), (2, .int n), (4, .int (nI j))]) d_Y_tell_137 rfl (by decide) rfl ?_
              refine zk_iinc (pc := 138) X (k0 := 5) (v := nI (j + 1)) (lv' := [(4, .int (nI (j + 1))), (3, .int 0), (5, .int 0), (0, .ref hy), (1, .int sv), (2, .int n)]) d_Y_tell_138 rfl (nI_add (j) 1) (by decide) rfl ?_
              refine zk_goto (pc := 141) X (tgt := 75) d_Y_tell_141 (by decide) ?_
              refine zk_lv (lv' := [(0, .ref hy), (1, .int sv), (2, .int n), (3, .int 0), (4, .int (nI (j + 1)))]) [3, 4, 5, 1, 0] rfl ?_
              exact ih 0 (j + 1) gm2 gi2 gl2 gt2 gk2 gv2 yw2 yq2 yl2 ye2 yt2 yS2 yr2 ya2 (by omega) (by omega) (by omega) hq
            · have hq := hq.trans (if_neg h104)
              refine zk_iload (pc := 107) X d_Y_tell_107 (q := 0) rfl ?_
              refine zk_if_eq (pc := 109) X (tgt := 132) d_Y_tell_109 (by decide) (fun _ => ?_) (fun h => absurd h (by decide))
              refine zk_iconst (pc := 132) X (v := 1) d_Y_tell_132 rfl ?_
              refine zk_goto (pc := 133) X (tgt := 137) d_Y_tell_133 (by decide) ?_
              refine zk_istore_n (pc := 137) X (i := 3) (lv' := [(3, .int 1), (5, .int 0), (0, .ref hy), (1, .int sv), (2, .int n), (4, .int (nI j))]) d_Y_tell_137 rfl (by decide) rfl ?_
              refine zk_iinc (pc := 138) X (k0 := 5) (v := nI (j + 1)) (lv' := [(4, .int (nI (j + 1))), (3, .int 1), (5, .int 0), (0, .ref hy), (1, .int sv), (2, .int n)]) d_Y_tell_138 rfl (nI_add (j) 1) (by decide) rfl ?_
              refine zk_goto (pc := 141) X (tgt := 75) d_Y_tell_141 (by decide) ?_
              refine zk_lv (lv' := [(0, .ref hy), (1, .int sv), (2, .int n), (3, .int 1), (4, .int (nI (j + 1)))]) [3, 4, 5, 1, 0] rfl ?_
              exact ih 1 (j + 1) gm2 gi2 gl2 gt2 gk2 gv2 yw2 yq2 yl2 ye2 yt2 yS2 yr2 ya2 (by omega) (by omega) (by omega) hq
          · have hq := hq.trans (if_neg h93)
            refine zk_iconst (pc := 96) X (v := 1) d_Y_tell_96 rfl ?_
            refine zk_goto (pc := 97) X (tgt := 101) d_Y_tell_97 (by decide) ?_
            refine zk_istore (pc := 101) X (i := 5) (lv' := [(5, .int 1), (0, .ref hy), (1, .int sv), (2, .int n), (3, .int sm), (4, .int (nI j))]) d_Y_tell_101 (by decide) rfl ?_
            refine zk_iload_n (pc := 103) X d_Y_tell_103 rfl (q := 4) rfl ?_
            refine zk_if_eq (pc := 104) X (tgt := 136) d_Y_tell_104 (by decide) (fun h104 => ?_) (fun h104 => ?_)
            · have hq := hq.trans (if_pos h104)
              refine zk_iconst (pc := 136) X (v := 0) d_Y_tell_136 rfl ?_
              refine zk_istore_n (pc := 137) X (i := 3) (lv' := [(3, .int 0), (5, .int 1), (0, .ref hy), (1, .int sv), (2, .int n), (4, .int (nI j))]) d_Y_tell_137 rfl (by decide) rfl ?_
              refine zk_iinc (pc := 138) X (k0 := 5) (v := nI (j + 1)) (lv' := [(4, .int (nI (j + 1))), (3, .int 0), (5, .int 1), (0, .ref hy), (1, .int sv), (2, .int n)]) d_Y_tell_138 rfl (nI_add (j) 1) (by decide) rfl ?_
              refine zk_goto (pc := 141) X (tgt := 75) d_Y_tell_141 (by decide) ?_
              refine zk_lv (lv' := [(0, .ref hy), (1, .int sv), (2, .int n), (3, .int 0), (4, .int (nI (j + 1)))]) [3, 4, 5, 1, 0] rfl ?_
              exact ih 0 (j + 1) gm2 gi2 gl2 gt2 gk2 gv2 yw2 yq2 yl2 ye2 yt2 yS2 yr2 ya2 (by omega) (by omega) (by omega) hq
            · have hq := hq.trans (if_neg h104)
              refine zk_iload (pc := 107) X d_Y_tell_107 (q := 0) rfl ?_
              refine zk_if_eq (pc := 109) X (tgt := 132) d_Y_tell_109 (by decide) (fun h => absurd h (by decide)) (fun _ => ?_)
              refine zk_aload_n (pc := 112) X d_Y_tell_112 rfl (q := 1) rfl ?_
              refine zk_get (pc := 113) X (ci := 7) (v := .ref ym) in_Y 0 rfl rfl 6 (by decide) (zk_m tw_368) rfl d_Y_tell_113 ?_
              refine zk_iload (pc := 116) X d_Y_tell_116 (q := 5) rfl ?_
              refine zk_iald (pc := 118) X 4 3 (j) rfl rfl rfl (by omega) (by decide) d_Y_tell_118 ?_
              refine zk_aload_n (pc := 119) X d_Y_tell_119 rfl (q := 1) rfl ?_
              refine zk_get (pc := 120) X (ci := 7) (v := .ref ym) in_Y 0 rfl rfl 6 (by decide) (zk_m tw_368) rfl d_Y_tell_120 ?_
              refine zk_bipush (pc := 123) X (v := 48) d_Y_tell_123 (by decide) ?_
              refine zk_iload (pc := 125) X d_Y_tell_125 (q := 5) rfl ?_
              refine zk_iadd (pc := 127) X (v := nI (j + 48)) d_Y_tell_127 (by rw [show (48 : Int32) = nI 48 from rfl, nI_add, Nat.add_comm]) ?_
              refine zk_iald (pc := 128) X 4 3 (j + 48) rfl rfl rfl (by omega) (by decide) d_Y_tell_128 ?_
              refine zk_icmp_ne (pc := 129) X (tgt := 136) d_Y_tell_129 (by decide) (fun h129 => ?_) (fun h129 => ?_)
              · have hq := hq.trans (if_neg h129)
                refine zk_iconst (pc := 136) X (v := 0) d_Y_tell_136 rfl ?_
                refine zk_istore_n (pc := 137) X (i := 3) (lv' := [(3, .int 0), (5, .int 1), (0, .ref hy), (1, .int sv), (2, .int n), (4, .int (nI j))]) d_Y_tell_137 rfl (by decide) rfl ?_
                refine zk_iinc (pc := 138) X (k0 := 5) (v := nI (j + 1)) (lv' := [(4, .int (nI (j + 1))), (3, .int 0), (5, .int 1), (0, .ref hy), (1, .int sv), (2, .int n)]) d_Y_tell_138 rfl (nI_add (j) 1) (by decide) rfl ?_
                refine zk_goto (pc := 141) X (tgt := 75) d_Y_tell_141 (by decide) ?_
                refine zk_lv (lv' := [(0, .ref hy), (1, .int sv), (2, .int n), (3, .int 0), (4, .int (nI (j + 1)))]) [3, 4, 5, 1, 0] rfl ?_
                exact ih 0 (j + 1) gm2 gi2 gl2 gt2 gk2 gv2 yw2 yq2 yl2 ye2 yt2 yS2 yr2 ya2 (by omega) (by omega) (by omega) hq
              · have hq := hq.trans (if_pos h129)
                refine zk_iconst (pc := 132) X (v := 1) d_Y_tell_132 rfl ?_
                refine zk_goto (pc := 133) X (tgt := 137) d_Y_tell_133 (by decide) ?_
                refine zk_istore_n (pc := 137) X (i := 3) (lv' := [(3, .int 1), (5, .int 1), (0, .ref hy), (1, .int sv), (2, .int n), (4, .int (nI j))]) d_Y_tell_137 rfl (by decide) rfl ?_
                refine zk_iinc (pc := 138) X (k0 := 5) (v := nI (j + 1)) (lv' := [(4, .int (nI (j + 1))), (3, .int 1), (5, .int 1), (0, .ref hy), (1, .int sv), (2, .int n)]) d_Y_tell_138 rfl (nI_add (j) 1) (by decide) rfl ?_
                refine zk_goto (pc := 141) X (tgt := 75) d_Y_tell_141 (by decide) ?_
                refine zk_lv (lv' := [(0, .ref hy), (1, .int sv), (2, .int n), (3, .int 1), (4, .int (nI (j + 1)))]) [3, 4, 5, 1, 0] rfl ?_
                exact ih 1 (j + 1) gm2 gi2 gl2 gt2 gk2 gv2 yw2 yq2 yl2 ye2 yt2 yS2 yr2 ya2 (by omega) (by omega) (by omega) hq
  have cut34 : ∀ (fuel : Nat) (gm1 : Nat → Int32) (gi1 : Nat → Int32) (gl1 : Nat → Int32) (gt1 : Nat → Int64) (gk1 : Nat → Int32) (gv1 : Nat → Int32) (yw1 : Nat) (yq1 : Int32) (yl1 : Nat) (ye1 : Int32) (yt1 : Int32) (yS1 : Int32) (yr1 : Nat) (ya1 : Nat) (kT : Nat), (yr1 ≤ 320) → (yw1 ≤ 16) → (yl1 ≤ 305) → (zk_YI gm1 go gs yn 48) → (gm1 9 = nI kL) → (gm1 57 = nI kT) → (kT ≤ kL) → kL - kT < fuel → sp_Y_tell sv n kL go gf gs gm gi gl gt gk gv ys yn yc yw yq yl ye yt yS yr ya = sp_Y_tell_34 go gf gs yn yc fuel gm1 gi1 gl1 gt1 gk1 gv1 yw1 yq1 yl1 ye1 yt1 yS1 yr1 ya1 → zk_Z p l e rm_Y_tell s m args below meth c Q A (dC, dI) vwCl 6 0 0 [(hy, .inr (7, [.int ys, .int (nI yn), .ref yo, .ref yf, .ref yb, .int yg, .ref ym, .int yc, .int (nI yw1), .ref yi, .int yq1, .int (nI yl1), .ref yL, .int ye1, .int yt1, .int yS1, .int (nI yr1), .int (nI ya1), .ref yT, .ref yK, .ref yV])), (yo, .inl (cYo, 24, .inl go)), (yf, .inl (cYf, 24, .inl gf)), (yb, .inl (cYb, 24, .inl gs)), (ym, .inl (cYm, 96, .inl gm1)), (yi, .inl (cYi, 16, .inl gi1)), (yL, .inl (cYL, 320, .inl gl1)), (yT, .inl (cYT, 320, .inr (.inl gt1))), (yK, .inl (cYK, 320, .inl gk1)), (yV, .inl (cYV, 320, .inl gv1))] [(0, .ref hy), (1, .int sv), (2, .int n)] [] 34 := by
    intro fuel
    induction fuel with
    | zero => intro gm1 gi1 gl1 gt1 gk1 gv1 yw1 yq1 yl1 ye1 yt1 yS1 yr1 ya1 kT hyr1 hw1 hl1 hY1 h9 h57 hkT hMs; exact absurd hMs (Nat.not_lt_zero _)
    | succ fuel ih =>
      intro gm1 gi1 gl1 gt1 gk1 gv1 yw1 yq1 yl1 ye1 yt1 yS1 yr1 ya1 kT hyr1 hw1 hl1 hY1 h9 h57 hkT hMs hq
      rw [sp_Y_tell_34] at hq
      refine zk_aload_n (pc := 34) X d_Y_tell_34 rfl (q := 0) rfl ?_
      refine zk_get (pc := 35) X (ci := 7) (v := .ref ym) in_Y 0 rfl rfl 6 (by decide) (zk_m tw_368) rfl d_Y_tell_35 ?_
      refine zk_bipush (pc := 38) X (v := 57) d_Y_tell_38 (by decide) ?_
      refine zk_iald (pc := 40) X 4 3 (57) rfl rfl rfl (by decide) (by decide) d_Y_tell_40 ?_
      refine zk_aload_n (pc := 41) X d_Y_tell_41 rfl (q := 0) rfl ?_
      refine zk_get (pc := 42) X (ci := 7) (v := .ref ym) in_Y 0 rfl rfl 6 (by decide) (zk_m tw_368) rfl d_Y_tell_42 ?_
      refine zk_bipush (pc := 45) X (v := 9) d_Y_tell_45 (by decide) ?_
      refine zk_iald (pc := 47) X 4 3 (9) rfl rfl rfl (by decide) (by decide) d_Y_tell_47 ?_
      refine zk_icmp_ge (pc := 48) X (tgt := 70) d_Y_tell_48 (by decide) (fun h48 => ?_) (fun h48 => ?_)
      · have hq := hq.trans (if_pos h48)
        refine zk_iconst (pc := 70) X (v := 1) d_Y_tell_70 rfl ?_
        refine zk_istore_n (pc := 71) X (i := 3) (lv' := [(3, .int 1), (0, .ref hy), (1, .int sv), (2, .int n)]) d_Y_tell_71 rfl (by decide) rfl ?_
        refine zk_iconst (pc := 72) X (v := 0) d_Y_tell_72 rfl ?_
        refine zk_istore (pc := 73) X (i := 4) (lv' := [(4, .int 0), (3, .int 1), (0, .ref hy), (1, .int sv), (2, .int n)]) d_Y_tell_73 (by decide) rfl ?_
        refine zk_lv (lv' := [(0, .ref hy), (1, .int sv), (2, .int n), (3, .int 1), (4, .int 0)]) [2, 3, 4, 1, 0] rfl ?_
        exact cut75 (49) 1 0 gm1 gi1 gl1 gt1 gk1 gv1 yw1 yq1 yl1 ye1 yt1 yS1 yr1 ya1 (by omega) (by omega) (by omega) hq
      · have hq := hq.trans (if_neg h48)
        have g51 : kT < kL := zk_ltN h9 h57 h48 hkL2 hkT
        refine zk_aload_n (pc := 51) X d_Y_tell_51 rfl (q := 0) rfl ?_
        refine zk_get (pc := 52) X (ci := 7) (v := .ref ym) in_Y 0 rfl rfl 6 (by decide) (zk_m tw_368) rfl d_Y_tell_52 ?_
        refine zk_bipush (pc := 55) X (v := 56) d_Y_tell_55 (by decide) ?_
        refine zk_iald (pc := 57) X 4 3 (56) rfl rfl rfl (by decide) (by decide) d_Y_tell_57 ?_
        refine zk_if_ne (pc := 58) X (tgt := 70) d_Y_tell_58 (by decide) (fun h58 => ?_) (fun h58 => ?_)
        · have hq := hq.trans (if_neg h58)
          refine zk_iconst (pc := 70) X (v := 1) d_Y_tell_70 rfl ?_
          refine zk_istore_n (pc := 71) X (i := 3) (lv' := [(3, .int 1), (0, .ref hy), (1, .int sv), (2, .int n)]) d_Y_tell_71 rfl (by decide) rfl ?_
          refine zk_iconst (pc := 72) X (v := 0) d_Y_tell_72 rfl ?_
          refine zk_istore (pc := 73) X (i := 4) (lv' := [(4, .int 0), (3, .int 1), (0, .ref hy), (1, .int sv), (2, .int n)]) d_Y_tell_73 (by decide) rfl ?_
          refine zk_lv (lv' := [(0, .ref hy), (1, .int sv), (2, .int n), (3, .int 1), (4, .int 0)]) [2, 3, 4, 1, 0] rfl ?_
          exact cut75 (49) 1 0 gm1 gi1 gl1 gt1 gk1 gv1 yw1 yq1 yl1 ye1 yt1 yS1 yr1 ya1 (by omega) (by omega) (by omega) hq
        · have hq := hq.trans (if_pos h58)
          refine zk_aload_n (pc := 61) X d_Y_tell_61 rfl (q := 0) rfl ?_
          refine zk_bipush (pc := 62) X (v := 48) d_Y_tell_62 (by decide) ?_
          refine zk_callv (pc := 64) X (wc := [(hy, .inr (7, [.int ys, .int (nI yn), .ref yo, .ref yf, .ref yb, .int yg, .ref ym, .int yc, .int (nI yw1), .ref yi, .int yq1, .int (nI yl1), .ref yL, .int ye1, .int yt1, .int yS1, .int (nI yr1), .int (nI ya1), .ref yT, .ref yK, .ref yV])), (yo, .inl (cYo, 24, .inl go)), (yf, .inl (cYf, 24, .inl gf)), (yb, .inl (cYb, 24, .inl gs)), (ym, .inl (cYm, 96, .inl gm1)), (yi, .inl (cYi, 16, .inl gi1)), (yL, .inl (cYL, 320, .inl gl1)), (yT, .inl (cYT, 320, .inr (.inl gt1))), (yK, .inl (cYK, 320, .inl gk1)), (yV, .inl (cYV, 320, .inl gv1))]) (wr := []) [0, 1, 2, 3, 4, 5, 6, 7, 8, 9] [] rfl rfl (by decide) (by decide) (by decide) (zk_runV X (C := R_Y) (tysC := [(cYo, .int), (cYf, .int), (cYb, .int), (cYm, .int), (cYi, .int), (cYL, .int), (cYT, .long), (cYK, .int), (cYV, .int)]) (As := [.int 48]) (rest := []) (c_Y_step l dC dI hy yo yf yb ym yi yL yT yK yV cYo cYf cYb cYm cYi cYL cYT cYK cYV 48 go gf gs gm1 gi1 gl1 gt1 gk1 gv1 ys yn yg yc yw1 yq1 yl1 ye1 yt1 yS1 yr1 ya1 (by omega) (by omega) (by omega) (by omega) (by omega) hY1.pl) [0, 1, 2, 3, 4, 5, 6, 7, 8] rfl (ci := 7) rfl 0 rfl (zk_cwV 1 X.1.2.2.2.2 (zk_goodT tw_438) rfl rfl rfl (zk_m tw_436) (zk_m tw_437) (zk_m tw_533) (zk_m tw_9) rfl (by decide +kernel) ⟨Nat.le_of_ble_eq_true rfl, Nat.le_of_ble_eq_true rfl⟩) rfl rfl (Nat.le_of_ble_eq_true rfl) ⟨Nat.zero_le _, Nat.zero_le _⟩ d_Y_tell_64) ?_
          rintro ⟨gm_64, gi_64, yw_64, yq_64, gl_64, yl_64, yS_64, yt_64, ye_64⟩ ⟨w64, f64_0, f64_1, f64_2⟩
          have f64_0 : yl_64 ≤ yl1 + 15 := f64_0
          have f64_1 : 0 < 48 → yl_64 = yl1 := f64_1
          have f64_2 : yw_64 ≤ 16 := f64_2
          refine zk_ws (ws' := [(hy, .inr (7, [.int ys, .int (nI yn), .ref yo, .ref yf, .ref yb, .int yg, .ref ym, .int yc, .int (nI yw_64), .ref yi, .int yq_64, .int (nI yl_64), .ref yL, .int ye_64, .int yt_64, .int yS_64, .int (nI yr1), .int (nI ya1), .ref yT, .ref yK, .ref yV])), (yo, .inl (cYo, 24, .inl go)), (yf, .inl (cYf, 24, .inl gf)), (yb, .inl (cYb, 24, .inl gs)), (ym, .inl (cYm, 96, .inl gm_64)), (yi, .inl (cYi, 16, .inl gi_64)), (yL, .inl (cYL, 320, .inl gl_64)), (yT, .inl (cYT, 320, .inr (.inl gt1))), (yK, .inl (cYK, 320, .inl gk1)), (yV, .inl (cYV, 320, .inl gv1))]) rfl ?_
          try dsimp only at w64
          rw [← w64] at hq
          try dsimp only at hq
          refine zk_goto (pc := 67) X (tgt := 34) d_Y_tell_67 (by decide) ?_
          exact ih gm_64 gi_64 gl_64 gt1 gk1 gv1 yw_64 yq_64 yl_64 ye_64 yt_64 yS_64 yr1 ya1 (kT + 1) (by omega) (by omega) (by omega) (by have h := (zf_step 48 go gf gs gm1 gi1 gl1 gt1 gk1 gv1 yn yc yw1 yq1 yl1 ye1 yt1 yS1 yr1 hyn hY1).1; rw [← w64] at h; exact h) (by have h := (zf_step 48 go gf gs gm1 gi1 gl1 gt1 gk1 gv1 yn yc yw1 yq1 yl1 ye1 yt1 yS1 yr1 hyn hY1).2.2 9 (Or.inl (by omega)); rw [← w64] at h; exact h.trans h9) (by have h := (zf_step 48 go gf gs gm1 gi1 gl1 gt1 gk1 gv1 yn yc yw1 yq1 yl1 ye1 yt1 yS1 yr1 hyn hY1).2.1; rw [← w64] at h; exact (h.trans (congrArg (fun z => z + 1) h57)).trans (nI_succ kT).symm) (by omega) (by omega) hq
  have hq := sp_Y_tell.eq_1 sv n kL go gf gs gm gi gl gt gk gv ys yn yc yw yq yl ye yt yS yr ya
  refine zk_lv (lv' := [(0, .ref hy), (1, .int sv), (2, .int n)]) [0, 1, 2] rfl ?_
  refine zk_iload_n (pc := 0) X d_Y_tell_0 rfl (q := 2) rfl ?_
  refine zk_aload_n (pc := 1) X d_Y_tell_1 rfl (q := 0) rfl ?_
  refine zk_get (pc := 2) X (ci := 7) (v := .int (nI yl)) in_Y 0 rfl rfl 11 (by decide) (zk_m tw_373) rfl d_Y_tell_2 ?_
  refine zk_icmp_ne (pc := 5) X (tgt := 16) d_Y_tell_5 (by decide) (fun h5 => ?_) (fun h5 => ?_)
  · have hq := hq.trans (if_neg h5)
    refine zk_iconst (pc := 16) X (v := (-1)) d_Y_tell_16 rfl ?_
    exact zk_iret (pc := 17) X hQ hRt hLk (gm, gi, yw, yq, gl, yl, yS, yt, ye, gt, gk, gv, yr, ya) ⟨hq.symm, (show yr ≤ 320 by omega)⟩ [0, 1, 2, 3, 4, 5, 6, 7, 8, 9] rfl (by decide) d_Y_tell_17
  · have hq := hq.trans (if_pos h5)
    refine zk_iload_n (pc := 8) X d_Y_tell_8 rfl (q := 1) rfl ?_
    refine zk_aload_n (pc := 9) X d_Y_tell_9 rfl (q := 0) rfl ?_
    refine zk_calli (pc := 10) X (wc := [(hy, .inr (7, [.int ys, .int (nI yn), .ref yo, .ref yf, .ref yb, .int yg, .ref ym, .int yc, .int (nI yw), .ref yi, .int yq, .int (nI yl), .ref yL, .int ye, .int yt, .int yS, .int (nI yr), .int (nI ya), .ref yT, .ref yK, .ref yV])), (yL, .inl (cYL, 320, .inl gl))]) (wr := [(yo, .inl (cYo, 24, .inl go)), (yf, .inl (cYf, 24, .inl gf)), (yb, .inl (cYb, 24, .inl gs)), (ym, .inl (cYm, 96, .inl gm)), (yi, .inl (cYi, 16, .inl gi)), (yT, .inl (cYT, 320, .inr (.inl gt))), (yK, .inl (cYK, 320, .inl gk)), (yV, .inl (cYV, 320, .inl gv))]) [0, 6] [1, 2, 3, 4, 5, 7, 8, 9] rfl rfl (by decide) (by decide) (by decide) (zk_runV X (C := R_Y) (tysC := [(cYL, .int)]) (As := []) (rest := [.int sv]) (c_Y_sealNow l dC dI hy yo yf yb ym yi yL yT yK yV cYL gl ys yn yg yc yw yq yl ye yt yS yr ya (by omega)) [5] rfl (ci := 7) rfl 0 rfl (zk_cwV 0 X.1.2.2.2.2 (zk_goodT tw_484) rfl rfl rfl (zk_m tw_482) (zk_m tw_483) (zk_m tw_543) (zk_m tw_9) rfl (by decide +kernel) ⟨Nat.le_of_ble_eq_true rfl, Nat.le_of_ble_eq_true rfl⟩) rfl rfl (Nat.le_of_ble_eq_true rfl) ⟨Nat.zero_le _, Nat.zero_le _⟩ d_Y_tell_10) ?_
    rintro r10 ⟨⟩ w10
    refine zk_ws (ws' := [(yo, .inl (cYo, 24, .inl go)), (yf, .inl (cYf, 24, .inl gf)), (yb, .inl (cYb, 24, .inl gs)), (ym, .inl (cYm, 96, .inl gm)), (yi, .inl (cYi, 16, .inl gi)), (yT, .inl (cYT, 320, .inr (.inl gt))), (yK, .inl (cYK, 320, .inl gk)), (yV, .inl (cYV, 320, .inl gv)), (hy, .inr (7, [.int ys, .int (nI yn), .ref yo, .ref yf, .ref yb, .int yg, .ref ym, .int yc, .int (nI yw), .ref yi, .int yq, .int (nI yl), .ref yL, .int ye, .int yt, .int yS, .int (nI yr), .int (nI ya), .ref yT, .ref yK, .ref yV])), (yL, .inl (cYL, 320, .inl gl))]) rfl ?_
    subst w10
    refine zk_icmp_eq (pc := 13) X (tgt := 18) d_Y_tell_13 (by decide) (fun h13 => ?_) (fun h13 => ?_)
    · have hq := hq.trans (if_pos h13)
      refine zk_aload_n (pc := 18) X d_Y_tell_18 rfl (q := 0) rfl ?_
      refine zk_calli (pc := 19) X (wc := [(hy, .inr (7, [.int ys, .int (nI yn), .ref yo, .ref yf, .ref yb, .int yg, .ref ym, .int yc, .int (nI yw), .ref yi, .int yq, .int (nI yl), .ref yL, .int ye, .int yt, .int yS, .int (nI yr), .int (nI ya), .ref yT, .ref yK, .ref yV])), (yL, .inl (cYL, 320, .inl gl)), (yT, .inl (cYT, 320, .inr (.inl gt))), (yK, .inl (cYK, 320, .inl gk)), (yV, .inl (cYV, 320, .inl gv))]) (wr := [(yo, .inl (cYo, 24, .inl go)), (yf, .inl (cYf, 24, .inl gf)), (yb, .inl (cYb, 24, .inl gs)), (ym, .inl (cYm, 96, .inl gm)), (yi, .inl (cYi, 16, .inl gi))]) [8, 9, 5, 6, 7] [0, 1, 2, 3, 4] rfl rfl (by decide) (by decide) (by decide) (zk_runV X (C := R_Y) (tysC := [(cYL, .int), (cYT, .long), (cYK, .int), (cYV, .int)]) (As := []) (rest := []) (c_Y_readAll l dC dI hy yo yf yb ym yi yL yT yK yV cYL cYT cYK cYV gl gt gk gv ys yn yg yc yw yq yl ye yt yS yr ya (by omega)) [5, 6, 7, 8] rfl (ci := 7) rfl 8 rfl (zk_cwV 0 X.1.2.2.2.2 (zk_goodT tw_487) rfl rfl rfl (zk_m tw_485) (zk_m tw_486) (zk_m tw_544) (zk_m tw_9) rfl (by decide +kernel) ⟨Nat.le_of_ble_eq_true rfl, Nat.le_of_ble_eq_true rfl⟩) rfl rfl (Nat.le_of_ble_eq_true rfl) ⟨Nat.zero_le _, Nat.zero_le _⟩ d_Y_tell_19) ?_
      rintro r19 ⟨gt_19, gk_19, gv_19, yr_19, ya_19⟩ ⟨w19, f19_0, f19_1⟩
      have f19_0 : yr_19 ≤ 320 := f19_0
      have f19_1 : zk_b01 r19 := f19_1
      refine zk_ws (ws' := [(yo, .inl (cYo, 24, .inl go)), (yf, .inl (cYf, 24, .inl gf)), (yb, .inl (cYb, 24, .inl gs)), (ym, .inl (cYm, 96, .inl gm)), (yi, .inl (cYi, 16, .inl gi)), (hy, .inr (7, [.int ys, .int (nI yn), .ref yo, .ref yf, .ref yb, .int yg, .ref ym, .int yc, .int (nI yw), .ref yi, .int yq, .int (nI yl), .ref yL, .int ye, .int yt, .int yS, .int (nI yr_19), .int (nI ya_19), .ref yT, .ref yK, .ref yV])), (yL, .inl (cYL, 320, .inl gl)), (yT, .inl (cYT, 320, .inr (.inl gt_19))), (yK, .inl (cYK, 320, .inl gk_19)), (yV, .inl (cYV, 320, .inl gv_19))]) rfl ?_
      try dsimp only at w19
      rw [← w19] at hq
      try dsimp only at hq
      refine zk_if_ne (pc := 22) X (tgt := 28) d_Y_tell_22 (by decide) (fun h22 => ?_) (fun h22 => ?_)
      · have hq := hq.trans (if_neg h22)
        refine zk_aload_n (pc := 28) X d_Y_tell_28 rfl (q := 0) rfl ?_
        refine zk_bipush (pc := 29) X (v := 48) d_Y_tell_29 (by decide) ?_
        refine zk_callv (pc := 31) X (wc := [(hy, .inr (7, [.int ys, .int (nI yn), .ref yo, .ref yf, .ref yb, .int yg, .ref ym, .int yc, .int (nI yw), .ref yi, .int yq, .int (nI yl), .ref yL, .int ye, .int yt, .int yS, .int (nI yr_19), .int (nI ya_19), .ref yT, .ref yK, .ref yV])), (ym, .inl (cYm, 96, .inl gm))]) (wr := [(yo, .inl (cYo, 24, .inl go)), (yf, .inl (cYf, 24, .inl gf)), (yb, .inl (cYb, 24, .inl gs)), (yi, .inl (cYi, 16, .inl gi)), (yL, .inl (cYL, 320, .inl gl)), (yT, .inl (cYT, 320, .inr (.inl gt_19))), (yK, .inl (cYK, 320, .inl gk_19)), (yV, .inl (cYV, 320, .inl gv_19))]) [5, 3] [0, 1, 2, 4, 6, 7, 8, 9] rfl rfl (by decide) (by decide) (by decide) (zk_runV X (C := R_Y) (tysC := [(cYm, .int)]) (As := [.int 48]) (rest := []) (c_Y_anew l dC dI hy yo yf yb ym yi yL yT yK yV cYm 48 gm ys yn yg yc yw yq yl ye yt yS yr_19 ya_19 (by omega)) [3] rfl (ci := 7) rfl 5 rfl (zk_cwV 1 X.1.2.2.2.2 (zk_goodT tw_418) rfl rfl rfl (zk_m tw_416) (zk_m tw_417) (zk_m tw_532) (zk_m tw_9) rfl (by decide +kernel) ⟨Nat.le_of_ble_eq_true rfl, Nat.le_of_ble_eq_true rfl⟩) rfl rfl (Nat.le_of_ble_eq_true rfl) ⟨Nat.zero_le _, Nat.zero_le _⟩ d_Y_tell_31) ?_
        rintro gm_31 w31
        refine zk_ws (ws' := [(yo, .inl (cYo, 24, .inl go)), (yf, .inl (cYf, 24, .inl gf)), (yb, .inl (cYb, 24, .inl gs)), (yi, .inl (cYi, 16, .inl gi)), (yL, .inl (cYL, 320, .inl gl)), (yT, .inl (cYT, 320, .inr (.inl gt_19))), (yK, .inl (cYK, 320, .inl gk_19)), (yV, .inl (cYV, 320, .inl gv_19)), (hy, .inr (7, [.int ys, .int (nI yn), .ref yo, .ref yf, .ref yb, .int yg, .ref ym, .int yc, .int (nI yw), .ref yi, .int yq, .int (nI yl), .ref yL, .int ye, .int yt, .int yS, .int (nI yr_19), .int (nI ya_19), .ref yT, .ref yK, .ref yV])), (ym, .inl (cYm, 96, .inl gm_31))]) rfl ?_
        try dsimp only at w31
        rw [← w31] at hq
        try dsimp only at hq
        refine zk_perm (ws' := [(hy, .inr (7, [.int ys, .int (nI yn), .ref yo, .ref yf, .ref yb, .int yg, .ref ym, .int yc, .int (nI yw), .ref yi, .int yq, .int (nI yl), .ref yL, .int ye, .int yt, .int yS, .int (nI yr_19), .int (nI ya_19), .ref yT, .ref yK, .ref yV])), (yo, .inl (cYo, 24, .inl go)), (yf, .inl (cYf, 24, .inl gf)), (yb, .inl (cYb, 24, .inl gs)), (ym, .inl (cYm, 96, .inl gm_31)), (yi, .inl (cYi, 16, .inl gi)), (yL, .inl (cYL, 320, .inl gl)), (yT, .inl (cYT, 320, .inr (.inl gt_19))), (yK, .inl (cYK, 320, .inl gk_19)), (yV, .inl (cYV, 320, .inl gv_19))]) [8, 0, 1, 2, 9, 3, 4, 5, 6, 7] rfl (by decide) ?_
        exact cut34 (kL + 1) gm_31 gi gl gt_19 gk_19 gv_19 yw yq yl ye yt yS yr_19 ya_19 0 (by omega) (by omega) (by omega) (by rw [w31]; exact zf_anewI 48 hYP) (by rw [w31, zf_anew, if_neg (by omega), if_neg (by omega)]; exact hkL) (by rw [w31, zf_anew, if_neg (by omega), if_pos (by omega)]; rfl) (by omega) (by omega) hq
      · have hq := hq.trans (if_pos h22)
        refine zk_bipush (pc := 25) X (v := (-2)) d_Y_tell_25 (by decide) ?_
        exact zk_iret (pc := 27) X hQ hRt hLk (gm, gi, yw, yq, gl, yl, yS, yt, ye, gt_19, gk_19, gv_19, yr_19, ya_19) ⟨hq.symm, (show yr_19 ≤ 320 by omega)⟩ [5, 0, 1, 2, 3, 4, 6, 7, 8, 9] rfl (by decide) d_Y_tell_27
    · have hq := hq.trans (if_neg h13)
      refine zk_iconst (pc := 16) X (v := (-1)) d_Y_tell_16 rfl ?_
      exact zk_iret (pc := 17) X hQ hRt hLk (gm, gi, yw, yq, gl, yl, yS, yt, ye, gt, gk, gv, yr, ya) ⟨hq.symm, (show yr ≤ 320 by omega)⟩ [8, 0, 1, 2, 3, 4, 9, 5, 6, 7] rfl (by decide) d_Y_tell_17
