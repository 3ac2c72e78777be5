def sp_Y_interrupts (M : Nat) (gm : Nat → Int32) (gl : Nat → Int32) (gt : Nat → Int64) (gk : Nat → Int32) (yn : Nat) (yq : Int32) (yl : Nat) (ye : Int32) (yt : Int32) (yS : Int32) (yr : Nat) : Int32 × Int32 × (Nat → Int32) × Nat × Int32 × Int32 × Int32 :=
  if (gm (M + 7)) = 0 then
    if yn ≤ 16 then
      if M ≤ 0 then
        (0, yq, gl, yl, yS, yt, ye)
      else
        (0, yq, gl, yl, yS, yt, ye)
    else
      if M ≤ 0 then
        if yq = 0 then
          (0, yq, gl, yl, yS, yt, ye)
        else
          (match sp_Y_writeEntry 3 gm gl yl ye yt yS with
          | (gl_70, yl_70, yS_70, yt_70, ye_70) =>
            (1, 0, gl_70, yl_70, yS_70, yt_70, ye_70))
      else
        if (sp_Y_found M 3 gm gt gk yr) < 0 then
          (0, yq, gl, yl, yS, yt, ye)
        else
          (1, yq, gl, yl, yS, yt, ye)
  else
    if M ≤ 0 then
      (0, yq, gl, yl, yS, yt, ye)
    else
      (0, yq, gl, yl, yS, yt, ye)
abbrev rm_Y_interrupts : Room := { frames := 4, cells := 0, slots := 0, locals := 89 }
set_option maxHeartbeats 4000000 in
set_option maxRecDepth 100000 in
theorem c_Y_interrupts (l : Launch) (dC : Nat → ClassId) (dI : Nat → Nat → Nat) (hy yo yf yb ym yi yL yT yK yV : Nat) (cYm cYL cYT cYK : ClassId) (M : Nat) (gm : Nat → Int32) (gl : Nat → Int32) (gt : Nat → Int64) (gk : Nat → Int32) (ys : Int32) (yn : Nat) (yg : Int32) (yc : Int32) (yw : Nat) (yq : Int32) (yl : Nat) (ye : Int32) (yt : Int32) (yS : Int32) (yr : Nat) (ya : Nat) (hM : M ≤ 48) (hyr : yr ≤ 320) (hyn : yn ≤ 24) (hyl : yl + 5 ≤ 320) : zk_Ci l y_Y_interrupts w_Y_interrupts rm_Y_interrupts (dC, dI) vwCl [.ref hy, .int (nI M)] [(hy, .inr (7, [.int ys, .int (nI yn), .ref yo, .ref yf, .ref yb, .int yg, .ref ym, .int yc, .int (nI yw), .ref yi, .int yq, .int (nI yl), .ref yL, .int ye, .int yt, .int yS, .int (nI yr), .int (nI ya), .ref yT, .ref yK, .ref yV])), (ym, .inl (cYm, 96, .inl gm)), (yL, .inl (cYL, 320, .inl gl)), (yT, .inl (cYT, 320, .inr (.inl gt))), (yK, .inl (cYK, 320, .inl gk))] [(cYm, .int), (cYL, .int), (cYT, .long), (cYK, .int)] (fun (r : Int32) (u : Int32 × (Nat → Int32) × Nat × Int32 × Int32 × Int32) => (r, u) = sp_Y_interrupts M gm gl gt gk yn yq yl ye yt yS yr ∧ (u.2.2.1 ≤ yl + 5) ∧ (0 < M → u.2.2.1 = yl)) (fun u => [(hy, .inr (7, [.int ys, .int (nI yn), .ref yo, .ref yf, .ref yb, .int yg, .ref ym, .int yc, .int (nI yw), .ref yi, .int u.1, .int (nI u.2.2.1), .ref yL, .int u.2.2.2.2.2, .int u.2.2.2.2.1, .int u.2.2.2.1, .int (nI yr), .int (nI ya), .ref yT, .ref yK, .ref yV])), (ym, .inl (cYm, 96, .inl gm)), (yL, .inl (cYL, 320, .inl u.2.1)), (yT, .inl (cYT, 320, .inr (.inl gt))), (yK, .inl (cYK, 320, .inl gk))]) := by
  refine zk_enteri (cc := b_Y_interrupts) (maxL := 3) (ret := some .boolean) (by decide) rfl (Nat.le_of_ble_eq_true rfl) ?_
  intro p e s m args below meth c A Q hQ X hRt hLk
  have hq := sp_Y_interrupts.eq_1 M gm gl gt gk yn yq yl ye yt yS yr
  refine zk_lv (lv' := [(0, .ref hy), (1, .int (nI M))]) [0, 1] rfl ?_
  refine zk_aload_n (pc := 0) X d_Y_interrupts_0 rfl (q := 0) rfl ?_
  refine zk_get (pc := 1) X (ci := 7) (v := .ref ym) in_Y 0 rfl rfl 6 (by decide) (zk_m tw_368) rfl d_Y_interrupts_1 ?_
  refine zk_iload_n (pc := 4) X d_Y_interrupts_4 rfl (q := 1) rfl ?_
  refine zk_bipush (pc := 5) X (v := 7) d_Y_interrupts_5 (by decide) ?_
  refine zk_iadd (pc := 7) X (v := nI (M + 7)) d_Y_interrupts_7 (nI_add (M) (7)) ?_
  refine zk_iald (pc := 8) X 1 0 (M + 7) rfl rfl rfl (by omega) (by decide) d_Y_interrupts_8 ?_
  refine zk_if_ne (pc := 9) X (tgt := 25) d_Y_interrupts_9 (by decide) (fun h9 => ?_) (fun h9 => ?_)
  · have hq := hq.trans (if_neg h9)
    refine zk_iconst (pc := 25) X (v := 0) d_Y_interrupts_25 rfl ?_
    refine zk_istore_n (pc := 26) X (i := 2) (lv' := [(2, .int 0), (0, .ref hy), (1, .int (nI M))]) d_Y_interrupts_26 rfl (by decide) rfl ?_
    refine zk_iload_n (pc := 27) X d_Y_interrupts_27 rfl (q := 2) rfl ?_
    refine zk_ifN_le (pc := 28) X (tgt := 50) (M) rfl (by omega) d_Y_interrupts_28 (by decide) (fun h28 => ?_) (fun h28 => ?_)
    · have hq := hq.trans (if_pos h28)
      refine zk_iload_n (pc := 50) X d_Y_interrupts_50 rfl (q := 0) rfl ?_
      refine zk_if_eq (pc := 51) X (tgt := 61) d_Y_interrupts_51 (by decide) (fun _ => ?_) (fun h => absurd h (by decide))
      refine zk_iconst (pc := 61) X (v := 0) d_Y_interrupts_61 rfl ?_
      exact zk_zret (pc := 62) X hQ hRt hLk rfl (yq, gl, yl, yS, yt, ye) ⟨hq.symm, (show yl ≤ yl + 5 by omega), (show 0 < M → yl = yl by omega)⟩ [0, 1, 2, 3, 4] rfl (by decide) d_Y_interrupts_62
    · have hq := hq.trans (if_neg h28)
      refine zk_iload_n (pc := 31) X d_Y_interrupts_31 rfl (q := 0) rfl ?_
      refine zk_if_eq (pc := 32) X (tgt := 48) d_Y_interrupts_32 (by decide) (fun _ => ?_) (fun h => absurd h (by decide))
      refine zk_iconst (pc := 48) X (v := 0) d_Y_interrupts_48 rfl ?_
      exact zk_zret (pc := 49) X hQ hRt hLk rfl (yq, gl, yl, yS, yt, ye) ⟨hq.symm, (show yl ≤ yl + 5 by omega), (show 0 < M → yl = yl by omega)⟩ [0, 1, 2, 3, 4] rfl (by decide) d_Y_interrupts_49
  · have hq := hq.trans (if_pos h9)
    refine zk_aload_n (pc := 12) X d_Y_interrupts_12 rfl (q := 0) rfl ?_
    refine zk_get (pc := 13) X (ci := 7) (v := .int (nI yn)) in_Y 0 rfl rfl 1 (by decide) (zk_m tw_363) rfl d_Y_interrupts_13 ?_
    refine zk_bipush (pc := 16) X (v := 16) d_Y_interrupts_16 (by decide) ?_
    refine zk_icmpN_le (pc := 18) X (tgt := 25) (yn) (16) rfl rfl (by omega) (by omega) d_Y_interrupts_18 (by decide) (fun h18 => ?_) (fun h18 => ?_)
    · have hq := hq.trans (if_pos h18)
      refine zk_iconst (pc := 25) X (v := 0) d_Y_interrupts_25 rfl ?_
      refine zk_istore_n (pc := 26) X (i := 2) (lv' := [(2, .int 0), (0, .ref hy), (1, .int (nI M))]) d_Y_interrupts_26 rfl (by decide) rfl ?_
      refine zk_iload_n (pc := 27) X d_Y_interrupts_27 rfl (q := 2) rfl ?_
      refine zk_ifN_le (pc := 28) X (tgt := 50) (M) rfl (by omega) d_Y_interrupts_28 (by decide) (fun h28 => ?_) (fun h28 => ?_)
      · have hq := hq.trans (if_pos h28)
        refine zk_iload_n (pc := 50) X d_Y_interrupts_50 rfl (q := 0) rfl ?_
        refine zk_if_eq (pc := 51) X (tgt := 61) d_Y_interrupts_51 (by decide) (fun _ => ?_) (fun h => absurd h (by decide))
        refine zk_iconst (pc := 61) X (v := 0) d_Y_interrupts_61 rfl ?_
        exact zk_zret (pc := 62) X hQ hRt hLk rfl (yq, gl, yl, yS, yt, ye) ⟨hq.symm, (show yl ≤ yl + 5 by omega), (show 0 < M → yl = yl by omega)⟩ [0, 1, 2, 3, 4] rfl (by decide) d_Y_interrupts_62
      · have hq := hq.trans (if_neg h28)
        refine zk_iload_n (pc := 31) X d_Y_interrupts_31 rfl (q := 0) rfl ?_
        refine zk_if_eq (pc := 32) X (tgt := 48) d_Y_interrupts_32 (by decide) (fun _ => ?_) (fun h => absurd h (by decide))
        refine zk_iconst (pc := 48) X (v := 0) d_Y_interrupts_48 rfl ?_
        exact zk_zret (pc := 49) X hQ hRt hLk rfl (yq, gl, yl, yS, yt, ye) ⟨hq.symm, (show yl ≤ yl + 5 by omega), (show 0 < M → yl = yl by omega)⟩ [0, 1, 2, 3, 4] rfl (by decide) d_Y_interrupts_49
    · have hq := hq.trans (if_neg h18)
      refine zk_iconst (pc := 21) X (v := 1) d_Y_interrupts_21 rfl ?_
      refine zk_goto (pc := 22) X (tgt := 26) d_Y_interrupts_22 (by decide) ?_
      refine zk_istore_n (pc := 26) X (i := 2) (lv' := [(2, .int 1), (0, .ref hy), (1, .int (nI M))]) d_Y_interrupts_26 rfl (by decide) rfl ?_
      refine zk_iload_n (pc := 27) X d_Y_interrupts_27 rfl (q := 2) rfl ?_
      refine zk_ifN_le (pc := 28) X (tgt := 50) (M) rfl (by omega) d_Y_interrupts_28 (by decide) (fun h28 => ?_) (fun h28 => ?_)
      · have hq := hq.trans (if_pos h28)
        refine zk_iload_n (pc := 50) X d_Y_interrupts_50 rfl (q := 0) rfl ?_
        refine zk_if_eq (pc := 51) X (tgt := 61) d_Y_interrupts_51 (by decide) (fun h => absurd h (by decide)) (fun _ => ?_)
        refine zk_aload_n (pc := 54) X d_Y_interrupts_54 rfl (q := 1) rfl ?_
        refine zk_get (pc := 55) X (ci := 7) (v := .int yq) in_Y 0 rfl rfl 10 (by decide) (zk_m tw_372) rfl d_Y_interrupts_55 ?_
        refine zk_if_ne (pc := 58) X (tgt := 63) d_Y_interrupts_58 (by decide) (fun h58 => ?_) (fun h58 => ?_)
        · have hq := hq.trans (if_neg h58)
          refine zk_aload_n (pc := 63) X d_Y_interrupts_63 rfl (q := 1) rfl ?_
          refine zk_iconst (pc := 64) X (v := 0) d_Y_interrupts_64 rfl ?_
          refine zk_put (pc := 65) X (ty := .boolean) (v := .int 0) (ws' := [(hy, .inr (7, [.int ys, .int (nI yn), .ref yo, .ref yf, .ref yb, .int yg, .ref ym, .int yc, .int (nI yw), .ref yi, .int 0, .int (nI yl), .ref yL, .int ye, .int yt, .int yS, .int (nI yr), .int (nI ya), .ref yT, .ref yK, .ref yV])), (ym, .inl (cYm, 96, .inl gm)), (yL, .inl (cYL, 320, .inl gl)), (yT, .inl (cYT, 320, .inr (.inl gt))), (yK, .inl (cYK, 320, .inl gk))]) in_Y tok_Y nok_Y 0 rfl rfl 10 (by decide) (zk_m tw_372) rfl rfl rfl rfl (Nat.le_of_ble_eq_true rfl) d_Y_interrupts_65 rfl ?_
          refine zk_aload_n (pc := 68) X d_Y_interrupts_68 rfl (q := 1) rfl ?_
          refine zk_iconst (pc := 69) X (v := 3) d_Y_interrupts_69 rfl ?_
          refine zk_callv (pc := 70) X (wc := [(hy, .inr (7, [.int ys, .int (nI yn), .ref yo, .ref yf, .ref yb, .int yg, .ref ym, .int yc, .int (nI yw), .ref yi, .int 0, .int (nI yl), .ref yL, .int ye, .int yt, .int yS, .int (nI yr), .int (nI ya), .ref yT, .ref yK, .ref yV])), (ym, .inl (cYm, 96, .inl gm)), (yL, .inl (cYL, 320, .inl gl))]) (wr := [(yT, .inl (cYT, 320, .inr (.inl gt))), (yK, .inl (cYK, 320, .inl gk))]) [0, 1, 2] [3, 4] rfl rfl (by decide) (by decide) (by decide) (zk_runV X (C := R_Y) (tysC := [(cYm, .int), (cYL, .int)]) (As := [.int 3]) (rest := []) (c_Y_writeEntry l dC dI hy yo yf yb ym yi yL yT yK yV cYm cYL 3 gm gl ys yn yg yc yw 0 yl ye yt yS yr ya (by omega)) [0, 1] rfl (ci := 7) rfl 0 rfl (zk_cwV 1 X.1.2.2.2.2 (zk_goodT tw_447) rfl rfl rfl (zk_m tw_445) (zk_m tw_446) (zk_m tw_536) (zk_m tw_9) rfl (by decide +kernel) ⟨Nat.le_of_ble_eq_true rfl, Nat.le_of_ble_eq_true rfl⟩) rfl rfl (Nat.le_of_ble_eq_true rfl) ⟨Nat.zero_le _, Nat.zero_le _⟩ d_Y_interrupts_70) ?_
          rintro ⟨gl_70, yl_70, yS_70, yt_70, ye_70⟩ ⟨w70, f70_0⟩
          have f70_0 : yl_70 ≤ yl + 5 := f70_0
          refine zk_ws (ws' := [(yT, .inl (cYT, 320, .inr (.inl gt))), (yK, .inl (cYK, 320, .inl gk)), (hy, .inr (7, [.int ys, .int (nI yn), .ref yo, .ref yf, .ref yb, .int yg, .ref ym, .int yc, .int (nI yw), .ref yi, .int 0, .int (nI yl_70), .ref yL, .int ye_70, .int yt_70, .int yS_70, .int (nI yr), .int (nI ya), .ref yT, .ref yK, .ref yV])), (ym, .inl (cYm, 96, .inl gm)), (yL, .inl (cYL, 320, .inl gl_70))]) rfl ?_
          try dsimp only at w70
          rw [← w70] at hq
          try dsimp only at hq
          refine zk_iconst (pc := 73) X (v := 1) d_Y_interrupts_73 rfl ?_
          exact zk_zret (pc := 74) X hQ hRt hLk rfl (0, gl_70, yl_70, yS_70, yt_70, ye_70) ⟨hq.symm, (show yl_70 ≤ yl + 5 by omega), (show 0 < M → yl_70 = yl by omega)⟩ [2, 3, 4, 0, 1] rfl (by decide) d_Y_interrupts_74
        · have hq := hq.trans (if_pos h58)
          refine zk_iconst (pc := 61) X (v := 0) d_Y_interrupts_61 rfl ?_
          exact zk_zret (pc := 62) X hQ hRt hLk rfl (yq, gl, yl, yS, yt, ye) ⟨hq.symm, (show yl ≤ yl + 5 by omega), (show 0 < M → yl = yl by omega)⟩ [0, 1, 2, 3, 4] rfl (by decide) d_Y_interrupts_62
      · have hq := hq.trans (if_neg h28)
        refine zk_iload_n (pc := 31) X d_Y_interrupts_31 rfl (q := 0) rfl ?_
        refine zk_if_eq (pc := 32) X (tgt := 48) d_Y_interrupts_32 (by decide) (fun h => absurd h (by decide)) (fun _ => ?_)
        refine zk_aload_n (pc := 35) X d_Y_interrupts_35 rfl (q := 1) rfl ?_
        refine zk_iload_n (pc := 36) X d_Y_interrupts_36 rfl (q := 2) rfl ?_
        refine zk_iconst (pc := 37) X (v := 3) d_Y_interrupts_37 rfl ?_
        refine zk_calli (pc := 38) X (wc := [(hy, .inr (7, [.int ys, .int (nI yn), .ref yo, .ref yf, .ref yb, .int yg, .ref ym, .int yc, .int (nI yw), .ref yi, .int yq, .int (nI yl), .ref yL, .int ye, .int yt, .int yS, .int (nI yr), .int (nI ya), .ref yT, .ref yK, .ref yV])), (ym, .inl (cYm, 96, .inl gm)), (yT, .inl (cYT, 320, .inr (.inl gt))), (yK, .inl (cYK, 320, .inl gk))]) (wr := [(yL, .inl (cYL, 320, .inl gl))]) [0, 1, 3, 4] [2] rfl rfl (by decide) (by decide) (by decide) (zk_runV X (C := R_Y) (tysC := [(cYm, .int), (cYT, .long), (cYK, .int)]) (As := [.int (nI M), .int 3]) (rest := []) (c_Y_found l dC dI hy yo yf yb ym yi yL yT yK yV cYm cYT cYK M 3 gm gt gk ys yn yg yc yw yq yl ye yt yS yr ya (by omega) (by omega)) [0, 2, 3] rfl (ci := 7) rfl 0 rfl (zk_cwV 2 X.1.2.2.2.2 (zk_goodT tw_444) rfl rfl rfl (zk_m tw_442) (zk_m tw_443) (zk_m tw_535) (zk_m tw_9) rfl (by decide +kernel) ⟨Nat.le_of_ble_eq_true rfl, Nat.le_of_ble_eq_true rfl⟩) rfl rfl (Nat.le_of_ble_eq_true rfl) ⟨Nat.zero_le _, Nat.zero_le _⟩ d_Y_interrupts_38) ?_
        rintro r38 ⟨⟩ ⟨w38, f38_0⟩
        have f38_0 : zk_fd r38 yr := f38_0
        refine zk_ws (ws' := [(yL, .inl (cYL, 320, .inl gl)), (hy, .inr (7, [.int ys, .int (nI yn), .ref yo, .ref yf, .ref yb, .int yg, .ref ym, .int yc, .int (nI yw), .ref yi, .int yq, .int (nI yl), .ref yL, .int ye, .int yt, .int yS, .int (nI yr), .int (nI ya), .ref yT, .ref yK, .ref yV])), (ym, .inl (cYm, 96, .inl gm)), (yT, .inl (cYT, 320, .inr (.inl gt))), (yK, .inl (cYK, 320, .inl gk))]) rfl ?_
        subst w38
        refine zk_if_lt (pc := 41) X (tgt := 48) d_Y_interrupts_41 (by decide) (fun h41 => ?_) (fun h41 => ?_)
        · have hq := hq.trans (if_pos h41)
          refine zk_iconst (pc := 48) X (v := 0) d_Y_interrupts_48 rfl ?_
          exact zk_zret (pc := 49) X hQ hRt hLk rfl (yq, gl, yl, yS, yt, ye) ⟨hq.symm, (show yl ≤ yl + 5 by omega), (show 0 < M → yl = yl by omega)⟩ [1, 2, 0, 3, 4] rfl (by decide) d_Y_interrupts_49
        · have hq := hq.trans (if_neg h41)
          refine zk_iconst (pc := 44) X (v := 1) d_Y_interrupts_44 rfl ?_
          refine zk_goto (pc := 45) X (tgt := 49) d_Y_interrupts_45 (by decide) ?_
          exact zk_zret (pc := 49) X hQ hRt hLk rfl (yq, gl, yl, yS, yt, ye) ⟨hq.symm, (show yl ≤ yl + 5 by omega), (show 0 < M → yl = yl by omega)⟩ [1, 2, 0, 3, 4] rfl (by decide) d_Y_interrupts_49
def sp_Y_inputFor_57 (gm : Nat → Int32) (gl : Nat → Int32) (yl : Nat) (ye : Int32) (yt : Int32) (yS : Int32) : Nat → Int32 → Nat → (Nat → Int32) → Nat → Int32 × (Nat → Int32) × Nat × (Nat → Int32) × Nat × Int32 × Int32 × Int32
  | 0, v, j, gi1, yw1 => (0, gi1, yw1, gl, yl, yS, yt, ye)
  | fuel + 1, v, j, gi1, yw1 =>
    if yw1 ≤ j then
      (match sp_Y_writeEntry 1 gm gl yl ye yt yS with
      | (gl_87, yl_87, yS_87, yt_87, ye_87) =>
        if v < 0 then
          (match sp_Y_writeNumber (((-2 : Int64) * (Int32.toInt64 v)) - (1 : Int64)) gl_87 yl_87 yS_87 with
          | (gl_112, yl_112, yS_112) =>
            (v, gi1, yw1, gl_112, yl_112, yS_112, yt_87, ye_87))
        else
          (match sp_Y_writeNumber ((2 : Int64) * (Int32.toInt64 v)) gl_87 yl_87 yS_87 with
          | (gl_112, yl_112, yS_112) =>
            (v, gi1, yw1, gl_112, yl_112, yS_112, yt_87, ye_87)))
    else
      sp_Y_inputFor_57 gm gl yl ye yt yS fuel v (j + 1) (upd gi1 j (gi1 (j + 1))) yw1
def sp_Y_inputFor (M : Nat) (gm : Nat → Int32) (gi : Nat → Int32) (gl : Nat → Int32) (gt : Nat → Int64) (gk : Nat → Int32) (gv : Nat → Int32) (yw : Nat) (yl : Nat) (ye : Int32) (yt : Int32) (yS : Int32) (yr : Nat) : Int32 × (Nat → Int32) × Nat × (Nat → Int32) × Nat × Int32 × Int32 × Int32 :=
  if M ≤ 0 then
    if yw = 0 then
      (0, gi, yw, gl, yl, yS, yt, ye)
    else
      sp_Y_inputFor_57 gm gl yl ye yt yS (yw + 1) (gi 0) 0 gi (yw - 1)
  else
    if (sp_Y_found M 1 gm gt gk yr) < 0 then
      (0, gi, yw, gl, yl, yS, yt, ye)
    else
      ((gv (((sp_Y_found M 1 gm gt gk yr)).toNatClampNeg)), gi, yw, gl, yl, yS, yt, ye)
abbrev rm_Y_inputFor : Room := { frames := 4, cells := 0, slots := 0, locals := 89 }
set_option maxHeartbeats 4000000 in
set_option maxRecDepth 100000 in
theorem c_Y_inputFor (l : Launch) (dC : Nat → ClassId) (dI : Nat → Nat → Nat) (hy yo yf yb ym yi yL yT yK yV : Nat) (cYm cYi cYL cYT cYK cYV : ClassId) (M : Nat) (gm : Nat → Int32) (gi : Nat → Int32) (gl : Nat → Int32) (gt : Nat → Int64) (gk : Nat → Int32) (gv : Nat → Int32) (ys : Int32) (yn : Nat) (yg : Int32) (yc : Int32) (yw : Nat) (yq : Int32) (yl : Nat) (ye : Int32) (yt : Int32) (yS : Int32) (yr : Nat) (ya : Nat) (hM : M ≤ 48) (hyr : yr ≤ 320) (hyw : yw ≤ 16) (hyl : yl + 10 ≤ 320) : zk_Ci l y_Y_inputFor w_Y_inputFor rm_Y_inputFor (dC, dI) vwCl [.ref hy, .int (nI M)] [(hy, .inr (7, [.int ys, .int (nI yn), .ref yo, .ref yf, .ref yb, .int yg, .ref ym, .int yc, .int (nI yw), .ref yi, .int yq, .int (nI yl), .ref yL, .int ye, .int yt, .int yS, .int (nI yr), .int (nI ya), .ref yT, .ref yK, .ref yV])), (ym, .inl (cYm, 96, .inl gm)), (yi, .inl (cYi, 16, .inl gi)), (yL, .inl (cYL, 320, .inl gl)), (yT, .inl (cYT, 320, .inr (.inl gt))), (yK, .inl (cYK, 320, .inl gk)), (yV, .inl (cYV, 320, .inl gv))] [(cYm, .int), (cYi, .int), (cYL, .int), (cYT, .long), (cYK, .int), (cYV, .int)] (fun (r : Int32) (u : (Nat → Int32) × Nat × (Nat → Int32) × Nat × Int32 × Int32 × Int32) => (r, u) = sp_Y_inputFor M gm gi gl gt gk gv yw yl ye yt yS yr ∧ (u.2.2.2.1 ≤ yl + 10) ∧ (0 < M → u.2.2.2.1 = yl) ∧ (u.2.1 ≤ 16)) (fun u => [(hy, .inr (7, [.int ys, .int (nI yn), .ref yo, .ref yf, .ref yb, .int yg, .ref ym, .int yc, .int (nI u.2.1), .ref yi, .int yq, .int (nI u.2.2.2.1), .ref yL, .int u.2.2.2.2.2.2, .int u.2.2.2.2.2.1, .int u.2.2.2.2.1, .int (nI yr), .int (nI ya), .ref yT, .ref yK, .ref yV])), (ym, .inl (cYm, 96, .inl gm)), (yi, .inl (cYi, 16, .inl u.1)), (yL, .inl (cYL, 320, .inl u.2.2.1)), (yT, .inl (cYT, 320, .inr (.inl gt))), (yK, .inl (cYK, 320, .inl gk)), (yV, .inl (cYV, 320, .inl gv))]) := by
  refine zk_enteri (cc := b_Y_inputFor) (maxL := 4) (ret := some .int) (by decide) rfl (Nat.le_of_ble_eq_true rfl) ?_
  intro p e s m args below meth c A Q hQ X hRt hLk
  have cut57 : ∀ (fuel : Nat) (v : Int32) (j : Nat) (gi1 : Nat → Int32) (yw1 : Nat), (M ≤ 0) → (j ≤ yw1) → (yw1 < 16) → yw1 - j < fuel → sp_Y_inputFor M gm gi gl gt gk gv yw yl ye yt yS yr = sp_Y_inputFor_57 gm gl yl ye yt yS fuel v j gi1 yw1 → zk_Z p l e rm_Y_inputFor s m args below meth c Q A (dC, dI) vwCl 4 0 0 [(hy, .inr (7, [.int ys, .int (nI yn), .ref yo, .ref yf, .ref yb, .int yg, .ref ym, .int yc, .int (nI yw1), .ref yi, .int yq, .int (nI yl), .ref yL, .int ye, .int yt, .int yS, .int (nI yr), .int (nI ya), .ref yT, .ref yK, .ref yV])), (ym, .inl (cYm, 96, .inl gm)), (yi, .inl (cYi, 16, .inl gi1)), (yL, .inl (cYL, 320, .inl gl)), (yT, .inl (cYT, 320, .inr (.inl gt))), (yK, .inl (cYK, 320, .inl gk)), (yV, .inl (cYV, 320, .inl gv))] [(0, .ref hy), (1, .int (nI M)), (2, .int v), (3, .int (nI j))] [] 57 := by
    intro fuel
    induction fuel with
    | zero => intro v j gi1 yw1 hM0 hjj hw1 hMs; exact absurd hMs (Nat.not_lt_zero _)
    | succ fuel ih =>
      intro v j gi1 yw1 hM0 hjj hw1 hMs hq
      rw [sp_Y_inputFor_57] at hq
      refine zk_iload_n (pc := 57) X d_Y_inputFor_57 rfl (q := 3) rfl ?_
      refine zk_aload_n (pc := 58) X d_Y_inputFor_58 rfl (q := 0) rfl ?_
      refine zk_get (pc := 59) X (ci := 7) (v := .int (nI yw1)) in_Y 0 rfl rfl 8 (by decide) (zk_m tw_370) rfl d_Y_inputFor_59 ?_
      refine zk_icmpN_ge (pc := 62) X (tgt := 85) (j) (yw1) rfl rfl (by omega) (by omega) d_Y_inputFor_62 (by decide) (fun h62 => ?_) (fun h62 => ?_)
      · have hq := hq.trans (if_pos h62)
        refine zk_aload_n (pc := 85) X d_Y_inputFor_85 rfl (q := 0) rfl ?_
        refine zk_iconst (pc := 86) X (v := 1) d_Y_inputFor_86 rfl ?_
        refine zk_callv (pc := 87) X (wc := [(hy, .inr (7, [.int ys, .int (nI yn), .ref yo, .ref yf, .ref yb, .int yg, .ref ym, .int yc, .int (nI yw1), .ref yi, .int yq, .int (nI yl), .ref yL, .int ye, .int yt, .int yS, .int (nI yr), .int (nI ya), .ref yT, .ref yK, .ref yV])), (ym, .inl (cYm, 96, .inl gm)), (yL, .inl (cYL, 320, .inl gl))]) (wr := [(yi, .inl (cYi, 16, .inl gi1)), (yT, .inl (cYT, 320, .inr (.inl gt))), (yK, .inl (cYK, 320, .inl gk)), (yV, .inl (cYV, 320, .inl gv))]) [0, 1, 3] [2, 4, 5, 6] rfl rfl (by decide) (by decide) (by decide) (zk_runV X (C := R_Y) (tysC := [(cYm, .int), (cYL, .int)]) (As := [.int 1]) (rest := []) (c_Y_writeEntry l dC dI hy yo yf yb ym yi yL yT yK yV cYm cYL 1 gm gl ys yn yg yc yw1 yq yl ye yt yS yr ya (by omega)) [0, 2] rfl (ci := 7) rfl 0 rfl (zk_cwV 1 X.1.2.2.2.2 (zk_goodT tw_447) rfl rfl rfl (zk_m tw_445) (zk_m tw_446) (zk_m tw_536) (zk_m tw_9) rfl (by decide +kernel) ⟨Nat.le_of_ble_eq_true rfl, Nat.le_of_ble_eq_true rfl⟩) rfl rfl (Nat.le_of_ble_eq_true rfl) ⟨Nat.zero_le _, Nat.zero_le _⟩ d_Y_inputFor_87) ?_
        rintro ⟨gl_87, yl_87, yS_87, yt_87, ye_87⟩ ⟨w87, f87_0⟩
        have f87_0 : yl_87 ≤ yl + 5 := f87_0
        refine zk_ws (ws' := [(yi, .inl (cYi, 16, .inl gi1)), (yT, .inl (cYT, 320, .inr (.inl gt))), (yK, .inl (cYK, 320, .inl gk)), (yV, .inl (cYV, 320, .inl gv)), (hy, .inr (7, [.int ys, .int (nI yn), .ref yo, .ref yf, .ref yb, .int yg, .ref ym, .int yc, .int (nI yw1), .ref yi, .int yq, .int (nI yl_87), .ref yL, .int ye_87, .int yt_87, .int yS_87, .int (nI yr), .int (nI ya), .ref yT, .ref yK, .ref yV])), (ym, .inl (cYm, 96, .inl gm)), (yL, .inl (cYL, 320, .inl gl_87))]) rfl ?_
        try dsimp only at w87
        rw [← w87] at hq
        try dsimp only at hq
        refine zk_aload_n (pc := 90) X d_Y_inputFor_90 rfl (q := 0) rfl ?_
        refine zk_iload_n (pc := 91) X d_Y_inputFor_91 rfl (q := 2) rfl ?_
        refine zk_if_lt (pc := 92) X (tgt := 104) d_Y_inputFor_92 (by decide) (fun h92 => ?_) (fun h92 => ?_)
        · have hq := hq.trans (if_pos h92)
          refine zk_ldc2 (pc := 104) X (v := -2) d_Y_inputFor_104 (zk_m tw_470) ?_
          refine zk_iload_n (pc := 107) X d_Y_inputFor_107 rfl (q := 2) rfl ?_
          refine zk_i2l (pc := 108) X (v := (Int32.toInt64 v)) d_Y_inputFor_108 rfl ?_
          refine zk_lmul (pc := 109) X (v := ((-2 : Int64) * (Int32.toInt64 v))) d_Y_inputFor_109 rfl ?_
          refine zk_lconst (pc := 110) X (v := 1) d_Y_inputFor_110 rfl ?_
          refine zk_lsub (pc := 111) X (v := (((-2 : Int64) * (Int32.toInt64 v)) - (1 : Int64))) d_Y_inputFor_111 rfl ?_
          refine zk_callv (pc := 112) X (wc := [(hy, .inr (7, [.int ys, .int (nI yn), .ref yo, .ref yf, .ref yb, .int yg, .ref ym, .int yc, .int (nI yw1), .ref yi, .int yq, .int (nI yl_87), .ref yL, .int ye_87, .int yt_87, .int yS_87, .int (nI yr), .int (nI ya), .ref yT, .ref yK, .ref yV])), (yL, .inl (cYL, 320, .inl gl_87))]) (wr := [(yi, .inl (cYi, 16, .inl gi1)), (yT, .inl (cYT, 320, .inr (.inl gt))), (yK, .inl (cYK, 320, .inl gk)), (yV, .inl (cYV, 320, .inl gv)), (ym, .inl (cYm, 96, .inl gm))]) [4, 6] [0, 1, 2, 3, 5] rfl rfl (by decide) (by decide) (by decide) (zk_runV X (C := R_Y) (tysC := [(cYL, .int)]) (As := [.long (((-2 : Int64) * (Int32.toInt64 v)) - (1 : Int64))]) (rest := []) (c_Y_writeNumber l dC dI hy yo yf yb ym yi yL yT yK yV cYL (((-2 : Int64) * (Int32.toInt64 v)) - (1 : Int64)) gl_87 ys yn yg yc yw1 yq yl_87 ye_87 yt_87 yS_87 yr ya (by omega) (zk_dbl2 v)) [2] rfl (ci := 7) rfl 4 rfl (zk_cwV 1 X.1.2.2.2.2 (zk_goodT tw_451) rfl rfl rfl (zk_m tw_449) (zk_m tw_450) (zk_m tw_537) (zk_m tw_9) rfl (by decide +kernel) ⟨Nat.le_of_ble_eq_true rfl, Nat.le_of_ble_eq_true rfl⟩) rfl rfl (Nat.le_of_ble_eq_true rfl) ⟨Nat.zero_le _, Nat.zero_le _⟩ d_Y_inputFor_112) ?_
          rintro ⟨gl_112, yl_112, yS_112⟩ ⟨w112, f112_0⟩
          have f112_0 : yl_112 ≤ yl_87 + 5 := f112_0
          refine zk_ws (ws' := [(yi, .inl (cYi, 16, .inl gi1)), (yT, .inl (cYT, 320, .inr (.inl gt))), (yK, .inl (cYK, 320, .inl gk)), (yV, .inl (cYV, 320, .inl gv)), (ym, .inl (cYm, 96, .inl gm)), (hy, .inr (7, [.int ys, .int (nI yn), .ref yo, .ref yf, .ref yb, .int yg, .ref ym, .int yc, .int (nI yw1), .ref yi, .int yq, .int (nI yl_112), .ref yL, .int ye_87, .int yt_87, .int yS_112, .int (nI yr), .int (nI ya), .ref yT, .ref yK, .ref yV])), (yL, .inl (cYL, 320, .inl gl_112))]) rfl ?_
          try dsimp only at w112
          rw [← w112] at hq
          try dsimp only at hq
          refine zk_iload_n (pc := 115) X d_Y_inputFor_115 rfl (q := 2) rfl ?_
          exact zk_iret (pc := 116) X hQ hRt hLk (gi1, yw1, gl_112, yl_112, yS_112, yt_87, ye_87) ⟨hq.symm, (show yl_112 ≤ yl + 10 by omega), (show 0 < M → yl_112 = yl by omega), (show yw1 ≤ 16 by omega)⟩ [5, 4, 0, 6, 1, 2, 3] rfl (by decide) d_Y_inputFor_116
        · have hq := hq.trans (if_neg h92)
          refine zk_ldc2 (pc := 95) X (v := 2) d_Y_inputFor_95 (zk_m tw_469) ?_
          refine zk_iload_n (pc := 98) X d_Y_inputFor_98 rfl (q := 2) rfl ?_
          refine zk_i2l (pc := 99) X (v := (Int32.toInt64 v)) d_Y_inputFor_99 rfl ?_
          refine zk_lmul (pc := 100) X (v := ((2 : Int64) * (Int32.toInt64 v))) d_Y_inputFor_100 rfl ?_
          refine zk_goto (pc := 101) X (tgt := 112) d_Y_inputFor_101 (by decide) ?_
          refine zk_callv (pc := 112) X (wc := [(hy, .inr (7, [.int ys, .int (nI yn), .ref yo, .ref yf, .ref yb, .int yg, .ref ym, .int yc, .int (nI yw1), .ref yi, .int yq, .int (nI yl_87), .ref yL, .int ye_87, .int yt_87, .int yS_87, .int (nI yr), .int (nI ya), .ref yT, .ref yK, .ref yV])), (yL, .inl (cYL, 320, .inl gl_87))]) (wr := [(yi, .inl (cYi, 16, .inl gi1)), (yT, .inl (cYT, 320, .inr (.inl gt))), (yK, .inl (cYK, 320, .inl gk)), (yV, .inl (cYV, 320, .inl gv)), (ym, .inl (cYm, 96, .inl gm))]) [4, 6] [0, 1, 2, 3, 5] rfl rfl (by decide) (by decide) (by decide) (zk_runV X (C := R_Y) (tysC := [(cYL, .int)]) (As := [.long ((2 : Int64) * (Int32.toInt64 v))]) (rest := []) (c_Y_writeNumber l dC dI hy yo yf yb ym yi yL yT yK yV cYL ((2 : Int64) * (Int32.toInt64 v)) gl_87 ys yn yg yc yw1 yq yl_87 ye_87 yt_87 yS_87 yr ya (by omega) (zk_dbl1 v)) [2] rfl (ci := 7) rfl 4 rfl (zk_cwV 1 X.1.2.2.2.2 (zk_goodT tw_451) rfl rfl rfl (zk_m tw_449) (zk_m tw_450) (zk_m tw_537) (zk_m tw_9) rfl (by decide +kernel) ⟨Nat.le_of_ble_eq_true rfl, Nat.le_of_ble_eq_true rfl⟩) rfl rfl (Nat.le_of_ble_eq_true rfl) ⟨Nat.zero_le _, Nat.zero_le _⟩ d_Y_inputFor_112) ?_
          rintro ⟨gl_112, yl_112, yS_112⟩ ⟨w112, f112_0⟩
          have f112_0 : yl_112 ≤ yl_87 + 5 := f112_0
          refine zk_ws (ws' := [(yi, .inl (cYi, 16, .inl gi1)), (yT, .inl (cYT, 320, .inr (.inl gt))), (yK, .inl (cYK, 320, .inl gk)), (yV, .inl (cYV, 320, .inl gv)), (ym, .inl (cYm, 96, .inl gm)), (hy, .inr (7, [.int ys, .int (nI yn), .ref yo, .ref yf, .ref yb, .int yg, .ref ym, .int yc, .int (nI yw1), .ref yi, .int yq, .int (nI yl_112), .ref yL, .int ye_87, .int yt_87, .int yS_112, .int (nI yr), .int (nI ya), .ref yT, .ref yK, .ref yV])), (yL, .inl (cYL, 320, .inl gl_112))]) rfl ?_
          try dsimp only at w112
          rw [← w112] at hq
          try dsimp only at hq
          refine zk_iload_n (pc := 115) X d_Y_inputFor_115 rfl (q := 2) rfl ?_
          exact zk_iret (pc := 116) X hQ hRt hLk (gi1, yw1, gl_112, yl_112, yS_112, yt_87, ye_87) ⟨hq.symm, (show yl_112 ≤ yl + 10 by omega), (show 0 < M → yl_112 = yl by omega), (show yw1 ≤ 16 by omega)⟩ [5, 4, 0, 6, 1, 2, 3] rfl (by decide) d_Y_inputFor_116
      · have hq := hq.trans (if_neg h62)
        refine zk_aload_n (pc := 65) X d_Y_inputFor_65 rfl (q := 0) rfl ?_
        refine zk_get (pc := 66) X (ci := 7) (v := .ref yi) in_Y 0 rfl rfl 9 (by decide) (zk_m tw_371) rfl d_Y_inputFor_66 ?_
        refine zk_iload_n (pc := 69) X d_Y_inputFor_69 rfl (q := 3) rfl ?_
        refine zk_aload_n (pc := 70) X d_Y_inputFor_70 rfl (q := 0) rfl ?_
        refine zk_get (pc := 71) X (ci := 7) (v := .ref yi) in_Y 0 rfl rfl 9 (by decide) (zk_m tw_371) rfl d_Y_inputFor_71 ?_
        refine zk_iload_n (pc := 74) X d_Y_inputFor_74 rfl (q := 3) rfl ?_
        refine zk_iconst (pc := 75) X (v := 1) d_Y_inputFor_75 rfl ?_
        refine zk_iadd (pc := 76) X (v := nI (j + 1)) d_Y_inputFor_76 (nI_add (j) (1)) ?_
        refine zk_iald (pc := 77) X 2 1 (j + 1) rfl rfl rfl (by omega) (by decide) d_Y_inputFor_77 ?_
        refine zk_iast (pc := 78) X 2 1 (ws' := [(hy, .inr (7, [.int ys, .int (nI yn), .ref yo, .ref yf, .ref yb, .int yg, .ref ym, .int yc, .int (nI yw1), .ref yi, .int yq, .int (nI yl), .ref yL, .int ye, .int yt, .int yS, .int (nI yr), .int (nI ya), .ref yT, .ref yK, .ref yV])), (ym, .inl (cYm, 96, .inl gm)), (yi, .inl (cYi, 16, .inl (upd gi1 j (gi1 (j + 1))))), (yL, .inl (cYL, 320, .inl gl)), (yT, .inl (cYT, 320, .inr (.inl gt))), (yK, .inl (cYK, 320, .inl gk)), (yV, .inl (cYV, 320, .inl gv))]) (j) rfl rfl rfl (by omega) (by decide) d_Y_inputFor_78 rfl ?_
        refine zk_iinc (pc := 79) X (k0 := 3) (v := nI (j + 1)) (lv' := [(3, .int (nI (j + 1))), (0, .ref hy), (1, .int (nI M)), (2, .int v)]) d_Y_inputFor_79 rfl (nI_add (j) 1) (by decide) rfl ?_
        refine zk_goto (pc := 82) X (tgt := 57) d_Y_inputFor_82 (by decide) ?_
        refine zk_lv (lv' := [(0, .ref hy), (1, .int (nI M)), (2, .int v), (3, .int (nI (j + 1)))]) [1, 2, 3, 0] rfl ?_
        exact ih v (j + 1) (upd gi1 j (gi1 (j + 1))) yw1 (by omega) (by omega) (by omega) (by omega) hq
  have hq := sp_Y_inputFor.eq_1 M gm gi gl gt gk gv yw yl ye yt yS yr
  refine zk_lv (lv' := [(0, .ref hy), (1, .int (nI M))]) [0, 1] rfl ?_
  refine zk_iload_n (pc := 0) X d_Y_inputFor_0 rfl (q := 1) rfl ?_
  refine zk_ifN_le (pc := 1) X (tgt := 29) (M) rfl (by omega) d_Y_inputFor_1 (by decide) (fun h1 => ?_) (fun h1 => ?_)
  · have hq := hq.trans (if_pos h1)
    refine zk_aload_n (pc := 29) X d_Y_inputFor_29 rfl (q := 0) rfl ?_
    refine zk_get (pc := 30) X (ci := 7) (v := .int (nI yw)) in_Y 0 rfl rfl 8 (by decide) (zk_m tw_370) rfl d_Y_inputFor_30 ?_
    refine zk_ifN_ne (pc := 33) X (tgt := 38) (yw) rfl (by omega) d_Y_inputFor_33 (by decide) (fun h33 => ?_) (fun h33 => ?_)
    · have hq := hq.trans (if_neg h33)
      refine zk_aload_n (pc := 38) X d_Y_inputFor_38 rfl (q := 0) rfl ?_
      refine zk_get (pc := 39) X (ci := 7) (v := .ref yi) in_Y 0 rfl rfl 9 (by decide) (zk_m tw_371) rfl d_Y_inputFor_39 ?_
      refine zk_iconst (pc := 42) X (v := 0) d_Y_inputFor_42 rfl ?_
      refine zk_iald (pc := 43) X 2 1 (0) rfl rfl rfl (by decide) (by decide) d_Y_inputFor_43 ?_
      refine zk_istore_n (pc := 44) X (i := 2) (lv' := [(2, .int (gi 0)), (0, .ref hy), (1, .int (nI M))]) d_Y_inputFor_44 rfl (by decide) rfl ?_
      refine zk_aload_n (pc := 45) X d_Y_inputFor_45 rfl (q := 1) rfl ?_
      refine zk_aload_n (pc := 46) X d_Y_inputFor_46 rfl (q := 1) rfl ?_
      refine zk_get (pc := 47) X (ci := 7) (v := .int (nI yw)) in_Y 0 rfl rfl 8 (by decide) (zk_m tw_370) rfl d_Y_inputFor_47 ?_
      refine zk_iconst (pc := 50) X (v := 1) d_Y_inputFor_50 rfl ?_
      refine zk_isub (pc := 51) X (v := nI ((yw - 1))) d_Y_inputFor_51 (pk_sub (a := yw) (b := 1) (by omega)) ?_
      refine zk_put (pc := 52) X (ty := .int) (v := .int (nI ((yw - 1)))) (ws' := [(hy, .inr (7, [.int ys, .int (nI yn), .ref yo, .ref yf, .ref yb, .int yg, .ref ym, .int yc, .int (nI ((yw - 1))), .ref yi, .int yq, .int (nI yl), .ref yL, .int ye, .int yt, .int yS, .int (nI yr), .int (nI ya), .ref yT, .ref yK, .ref yV])), (ym, .inl (cYm, 96, .inl gm)), (yi, .inl (cYi, 16, .inl gi)), (yL, .inl (cYL, 320, .inl gl)), (yT, .inl (cYT, 320, .inr (.inl gt))), (yK, .inl (cYK, 320, .inl gk)), (yV, .inl (cYV, 320, .inl gv))]) in_Y tok_Y nok_Y 0 rfl rfl 8 (by decide) (zk_m tw_370) rfl rfl rfl rfl (Nat.le_of_ble_eq_true rfl) d_Y_inputFor_52 rfl ?_
      refine zk_iconst (pc := 55) X (v := 0) d_Y_inputFor_55 rfl ?_
      refine zk_istore_n (pc := 56) X (i := 3) (lv' := [(3, .int 0), (2, .int (gi 0)), (0, .ref hy), (1, .int (nI M))]) d_Y_inputFor_56 rfl (by decide) rfl ?_
      refine zk_lv (lv' := [(0, .ref hy), (1, .int (nI M)), (2, .int (gi 0)), (3, .int 0)]) [2, 3, 1, 0] rfl ?_
      exact cut57 (yw + 1) (gi 0) 0 gi (yw - 1) (by omega) (by omega) (by omega) (by omega) hq
    · have hq := hq.trans (if_pos h33)
      refine zk_iconst (pc := 36) X (v := 0) d_Y_inputFor_36 rfl ?_
      exact zk_iret (pc := 37) X hQ hRt hLk (gi, yw, gl, yl, yS, yt, ye) ⟨hq.symm, (show yl ≤ yl + 10 by omega), (show 0 < M → yl = yl by omega), (show yw ≤ 16 by omega)⟩ [0, 1, 2, 3, 4, 5, 6] rfl (by decide) d_Y_inputFor_37
  · have hq := hq.trans (if_neg h1)
    refine zk_aload_n (pc := 4) X d_Y_inputFor_4 rfl (q := 0) rfl ?_
    refine zk_iload_n (pc := 5) X d_Y_inputFor_5 rfl (q := 1) rfl ?_
    refine zk_iconst (pc := 6) X (v := 1) d_Y_inputFor_6 rfl ?_
    refine zk_calli (pc := 7) X (wc := [(hy, .inr (7, [.int ys, .int (nI yn), .ref yo, .ref yf, .ref yb, .int yg, .ref ym, .int yc, .int (nI yw), .ref yi, .int yq, .int (nI yl), .ref yL, .int ye, .int yt, .int yS, .int (nI yr), .int (nI ya), .ref yT, .ref yK, .ref yV])), (ym, .inl (cYm, 96, .inl gm)), (yT, .inl (cYT, 320, .inr (.inl gt))), (yK, .inl (cYK, 320, .inl gk))]) (wr := [(yi, .inl (cYi, 16, .inl gi)), (yL, .inl (cYL, 320, .inl gl)), (yV, .inl (cYV, 320, .inl gv))]) [0, 1, 4, 5] [2, 3, 6] rfl rfl (by decide) (by decide) (by decide) (zk_runV X (C := R_Y) (tysC := [(cYm, .int), (cYT, .long), (cYK, .int)]) (As := [.int (nI M), .int 1]) (rest := []) (c_Y_found l dC dI hy yo yf yb ym yi yL yT yK yV cYm cYT cYK M 1 gm gt gk ys yn yg yc yw yq yl ye yt yS yr ya (by omega) (by omega)) [0, 3, 4] rfl (ci := 7) rfl 0 rfl (zk_cwV 2 X.1.2.2.2.2 (zk_goodT tw_444) rfl rfl rfl (zk_m tw_442) (zk_m tw_443) (zk_m tw_535) (zk_m tw_9) rfl (by decide +kernel) ⟨Nat.le_of_ble_eq_true rfl, Nat.le_of_ble_eq_true rfl⟩) rfl rfl (Nat.le_of_ble_eq_true rfl) ⟨Nat.zero_le _, Nat.zero_le _⟩ d_Y_inputFor_7) ?_
    rintro r7 ⟨⟩ ⟨w7, f7_0⟩
    have f7_0 : zk_fd r7 yr := f7_0
    refine zk_ws (ws' := [(yi, .inl (cYi, 16, .inl gi)), (yL, .inl (cYL, 320, .inl gl)), (yV, .inl (cYV, 320, .inl gv)), (hy, .inr (7, [.int ys, .int (nI yn), .ref yo, .ref yf, .ref yb, .int yg, .ref ym, .int yc, .int (nI yw), .ref yi, .int yq, .int (nI yl), .ref yL, .int ye, .int yt, .int yS, .int (nI yr), .int (nI ya), .ref yT, .ref yK, .ref yV])), (ym, .inl (cYm, 96, .inl gm)), (yT, .inl (cYT, 320, .inr (.inl gt))), (yK, .inl (cYK, 320, .inl gk))]) rfl ?_
    subst w7
    refine zk_if_lt (pc := 10) X (tgt := 27) d_Y_inputFor_10 (by decide) (fun h10 => ?_) (fun h10 => ?_)
    · have hq := hq.trans (if_pos h10)
      refine zk_iconst (pc := 27) X (v := 0) d_Y_inputFor_27 rfl ?_
      exact zk_iret (pc := 28) X hQ hRt hLk (gi, yw, gl, yl, yS, yt, ye) ⟨hq.symm, (show yl ≤ yl + 10 by omega), (show 0 < M → yl = yl by omega), (show yw ≤ 16 by omega)⟩ [3, 4, 0, 1, 5, 6, 2] rfl (by decide) d_Y_inputFor_28
    · have hq := hq.trans (if_neg h10)
      refine zk_aload_n (pc := 13) X d_Y_inputFor_13 rfl (q := 0) rfl ?_
      refine zk_get (pc := 14) X (ci := 7) (v := .ref yV) in_Y 3 rfl rfl 20 (by decide) (zk_m tw_382) rfl d_Y_inputFor_14 ?_
      refine zk_aload_n (pc := 17) X d_Y_inputFor_17 rfl (q := 0) rfl ?_
      refine zk_iload_n (pc := 18) X d_Y_inputFor_18 rfl (q := 1) rfl ?_
      refine zk_iconst (pc := 19) X (v := 1) d_Y_inputFor_19 rfl ?_
      refine zk_calli (pc := 20) X (wc := [(hy, .inr (7, [.int ys, .int (nI yn), .ref yo, .ref yf, .ref yb, .int yg, .ref ym, .int yc, .int (nI yw), .ref yi, .int yq, .int (nI yl), .ref yL, .int ye, .int yt, .int yS, .int (nI yr), .int (nI ya), .ref yT, .ref yK, .ref yV])), (ym, .inl (cYm, 96, .inl gm)), (yT, .inl (cYT, 320, .inr (.inl gt))), (yK, .inl (cYK, 320, .inl gk))]) (wr := [(yi, .inl (cYi, 16, .inl gi)), (yL, .inl (cYL, 320, .inl gl)), (yV, .inl (cYV, 320, .inl gv))]) [3, 4, 5, 6] [0, 1, 2] rfl rfl (by decide) (by decide) (by decide) (zk_runV X (C := R_Y) (tysC := [(cYm, .int), (cYT, .long), (cYK, .int)]) (As := [.int (nI M), .int 1]) (rest := [.ref yV]) (c_Y_found l dC dI hy yo yf yb ym yi yL yT yK yV cYm cYT cYK M 1 gm gt gk ys yn yg yc yw yq yl ye yt yS yr ya (by omega) (by omega)) [0, 3, 4] rfl (ci := 7) rfl 3 rfl (zk_cwV 2 X.1.2.2.2.2 (zk_goodT tw_444) rfl rfl rfl (zk_m tw_442) (zk_m tw_443) (zk_m tw_535) (zk_m tw_9) rfl (by decide +kernel) ⟨Nat.le_of_ble_eq_true rfl, Nat.le_of_ble_eq_true rfl⟩) rfl rfl (Nat.le_of_ble_eq_true rfl) ⟨Nat.zero_le _, Nat.zero_le _⟩ d_Y_inputFor_20) ?_
      rintro r20 ⟨⟩ ⟨w20, f20_0⟩
      have f20_0 : zk_fd r20 yr := f20_0
      refine zk_ws (ws' := [(yi, .inl (cYi, 16, .inl gi)), (yL, .inl (cYL, 320, .inl gl)), (yV, .inl (cYV, 320, .inl gv)), (hy, .inr (7, [.int ys, .int (nI yn), .ref yo, .ref yf, .ref yb, .int yg, .ref ym, .int yc, .int (nI yw), .ref yi, .int yq, .int (nI yl), .ref yL, .int ye, .int yt, .int yS, .int (nI yr), .int (nI ya), .ref yT, .ref yK, .ref yV])), (ym, .inl (cYm, 96, .inl gm)), (yT, .inl (cYT, 320, .inr (.inl gt))), (yK, .inl (cYK, 320, .inl gk))]) rfl ?_
      subst w20
      refine zk_iald (pc := 23) X 2 5 (((sp_Y_found M 1 gm gt gk yr)).toNatClampNeg) rfl rfl (zk_fdI f7_0 h10) (zk_fdL f7_0 h10 hyr) (by decide) d_Y_inputFor_23 ?_
      refine zk_goto (pc := 24) X (tgt := 28) d_Y_inputFor_24 (by decide) ?_
      exact zk_iret (pc := 28) X hQ hRt hLk (gi, yw, gl, yl, yS, yt, ye) ⟨hq.symm, (show yl ≤ yl + 10 by omega), (show 0 < M → yl = yl by omega), (show yw ≤ 16 by omega)⟩ [3, 4, 0, 1, 5, 6, 2] rfl (by decide) d_Y_inputFor_28
def sp_Y_timeFor (M : Nat) (gm : Nat → Int32) (gl : Nat → Int32) (gt : Nat → Int64) (gk : Nat → Int32) (gv : Nat → Int32) (yc : Int32) (yl : Nat) (ye : Int32) (yt : Int32) (yS : Int32) (yr : Nat) : Int32 × (Nat → Int32) × (Nat → Int32) × Nat × Int32 × Int32 × Int32 :=
  if M = 0 then
    if yc = (gm (M + 12)) then
      (yc, (upd gm (M + 12) yc), gl, yl, yS, yt, ye)
    else
      (match sp_Y_writeEntry 2 gm gl yl ye yt yS with
      | (gl_59, yl_59, yS_59, yt_59, ye_59) =>
        (match sp_Y_writeNumber (Int32.toInt64 (yc - (gm (M + 12)))) gl_59 yl_59 yS_59 with
        | (gl_67, yl_67, yS_67) =>
          (yc, (upd gm (M + 12) yc), gl_67, yl_67, yS_67, yt_59, ye_59)))
  else
    if (sp_Y_found M 2 gm gt gk yr) < 0 then
      ((gm (M + 12)), (upd gm (M + 12) (gm (M + 12))), gl, yl, yS, yt, ye)
    else
      (((gm (M + 12)) + (gv (((sp_Y_found M 2 gm gt gk yr)).toNatClampNeg))), (upd gm (M + 12) ((gm (M + 12)) + (gv (((sp_Y_found M 2 gm gt gk yr)).toNatClampNeg)))), gl, yl, yS, yt, ye)
abbrev rm_Y_timeFor : Room := { frames := 4, cells := 0, slots := 0, locals := 89 }
set_option maxHeartbeats 4000000 in
set_option maxRecDepth 100000 in
theorem c_Y_timeFor (l : Launch) (dC : Nat → ClassId) (dI : Nat → Nat → Nat) (hy yo yf yb ym yi yL yT yK yV : Nat) (cYm cYL cYT cYK cYV : ClassId) (M : Nat) (gm : Nat → Int32) (gl : Nat → Int32) (gt : Nat → Int64) (gk : Nat → Int32) (gv : Nat → Int32) (ys : Int32) (yn : Nat) (yg : Int32) (yc : Int32) (yw : Nat) (yq : Int32) (yl : Nat) (ye : Int32) (yt : Int32) (yS : Int32) (yr : Nat) (ya : Nat) (hM : M ≤ 48) (hyr : yr ≤ 320) (hyl : yl + 10 ≤ 320) : zk_Ci l y_Y_timeFor w_Y_timeFor rm_Y_timeFor (dC, dI) vwCl [.ref hy, .int (nI M)] [(hy, .inr (7, [.int ys, .int (nI yn), .ref yo, .ref yf, .ref yb, .int yg, .ref ym, .int yc, .int (nI yw), .ref yi, .int yq, .int (nI yl), .ref yL, .int ye, .int yt, .int yS, .int (nI yr), .int (nI ya), .ref yT, .ref yK, .ref yV])), (ym, .inl (cYm, 96, .inl gm)), (yL, .inl (cYL, 320, .inl gl)), (yT, .inl (cYT, 320, .inr (.inl gt))), (yK, .inl (cYK, 320, .inl gk)), (yV, .inl (cYV, 320, .inl gv))] [(cYm, .int), (cYL, .int), (cYT, .long), (cYK, .int), (cYV, .int)] (fun (r : Int32) (u : (Nat → Int32) × (Nat → Int32) × Nat × Int32 × Int32 × Int32) => (r, u) = sp_Y_timeFor M gm gl gt gk gv yc yl ye yt yS yr ∧ (u.2.2.1 ≤ yl + 10) ∧ (0 < M → u.2.2.1 = yl)) (fun u => [(hy, .inr (7, [.int ys, .int (nI yn), .ref yo, .ref yf, .ref yb, .int yg, .ref ym, .int yc, .int (nI yw), .ref yi, .int yq, .int (nI u.2.2.1), .ref yL, .int u.2.2.2.2.2, .int u.2.2.2.2.1, .int u.2.2.2.1, .int (nI yr), .int (nI ya), .ref yT, .ref yK, .ref yV])), (ym, .inl (cYm, 96, .inl u.1)), (yL, .inl (cYL, 320, .inl u.2.1)), (yT, .inl (cYT, 320, .inr (.inl gt))), (yK, .inl (cYK, 320, .inl gk)), (yV, .inl (cYV, 320, .inl gv))]) := by
  refine zk_enteri (cc := b_Y_timeFor) (maxL := 4) (ret := some .int) (by decide) rfl (Nat.le_of_ble_eq_true rfl) ?_
  intro p e s m args below meth c A Q hQ X hRt hLk
  have hq := sp_Y_timeFor.eq_1 M gm gl gt gk gv yc yl ye yt yS yr
  refine zk_lv (lv' := [(0, .ref hy), (1, .int (nI M))]) [0, 1] rfl ?_
  refine zk_aload_n (pc := 0) X d_Y_timeFor_0 rfl (q := 0) rfl ?_
  refine zk_get (pc := 1) X (ci := 7) (v := .ref ym) in_Y 0 rfl rfl 6 (by decide) (zk_m tw_368) rfl d_Y_timeFor_1 ?_
  refine zk_iload_n (pc := 4) X d_Y_timeFor_4 rfl (q := 1) rfl ?_
  refine zk_bipush (pc := 5) X (v := 12) d_Y_timeFor_5 (by decide) ?_
  refine zk_iadd (pc := 7) X (v := nI (M + 12)) d_Y_timeFor_7 (nI_add (M) (12)) ?_
  refine zk_iald (pc := 8) X 1 0 (M + 12) rfl rfl rfl (by omega) (by decide) d_Y_timeFor_8 ?_
  refine zk_istore_n (pc := 9) X (i := 2) (lv' := [(2, .int (gm (M + 12))), (0, .ref hy), (1, .int (nI M))]) d_Y_timeFor_9 rfl (by decide) rfl ?_
  refine zk_iload_n (pc := 10) X d_Y_timeFor_10 rfl (q := 2) rfl ?_
  refine zk_ifN_ne (pc := 11) X (tgt := 21) (M) rfl (by omega) d_Y_timeFor_11 (by decide) (fun h11 => ?_) (fun h11 => ?_)
  · have hq := hq.trans (if_neg h11)
    refine zk_aload_n (pc := 21) X d_Y_timeFor_21 rfl (q := 1) rfl ?_
    refine zk_iload_n (pc := 22) X d_Y_timeFor_22 rfl (q := 2) rfl ?_
    refine zk_iconst (pc := 23) X (v := 2) d_Y_timeFor_23 rfl ?_
    refine zk_calli (pc := 24) X (wc := [(hy, .inr (7, [.int ys, .int (nI yn), .ref yo, .ref yf, .ref yb, .int yg, .ref ym, .int yc, .int (nI yw), .ref yi, .int yq, .int (nI yl), .ref yL, .int ye, .int yt, .int yS, .int (nI yr), .int (nI ya), .ref yT, .ref yK, .ref yV])), (ym, .inl (cYm, 96, .inl gm)), (yT, .inl (cYT, 320, .inr (.inl gt))), (yK, .inl (cYK, 320, .inl gk))]) (wr := [(yL, .inl (cYL, 320, .inl gl)), (yV, .inl (cYV, 320, .inl gv))]) [0, 1, 3, 4] [2, 5] rfl rfl (by decide) (by decide) (by decide) (zk_runV X (C := R_Y) (tysC := [(cYm, .int), (cYT, .long), (cYK, .int)]) (As := [.int (nI M), .int 2]) (rest := []) (c_Y_found l dC dI hy yo yf yb ym yi yL yT yK yV cYm cYT cYK M 2 gm gt gk ys yn yg yc yw yq yl ye yt yS yr ya (by omega) (by omega)) [0, 2, 3] rfl (ci := 7) rfl 0 rfl (zk_cwV 2 X.1.2.2.2.2 (zk_goodT tw_444) rfl rfl rfl (zk_m tw_442) (zk_m tw_443) (zk_m tw_535) (zk_m tw_9) rfl (by decide +kernel) ⟨Nat.le_of_ble_eq_true rfl, Nat.le_of_ble_eq_true rfl⟩) rfl rfl (Nat.le_of_ble_eq_true rfl) ⟨Nat.zero_le _, Nat.zero_le _⟩ d_Y_timeFor_24) ?_
    rintro r24 ⟨⟩ ⟨w24, f24_0⟩
    have f24_0 : zk_fd r24 yr := f24_0
    refine zk_ws (ws' := [(yL, .inl (cYL, 320, .inl gl)), (yV, .inl (cYV, 320, .inl gv)), (hy, .inr (7, [.int ys, .int (nI yn), .ref yo, .ref yf, .ref yb, .int yg, .ref ym, .int yc, .int (nI yw), .ref yi, .int yq, .int (nI yl), .ref yL, .int ye, .int yt, .int yS, .int (nI yr), .int (nI ya), .ref yT, .ref yK, .ref yV])), (ym, .inl (cYm, 96, .inl gm)), (yT, .inl (cYT, 320, .inr (.inl gt))), (yK, .inl (cYK, 320, .inl gk))]) rfl ?_
    subst w24
    refine zk_if_lt (pc := 27) X (tgt := 46) d_Y_timeFor_27 (by decide) (fun h27 => ?_) (fun h27 => ?_)
    · have hq := hq.trans (if_pos h27)
      refine zk_iload_n (pc := 46) X d_Y_timeFor_46 rfl (q := 0) rfl ?_
      refine zk_istore_n (pc := 47) X (i := 3) (lv' := [(3, .int (gm (M + 12))), (2, .int (gm (M + 12))), (0, .ref hy), (1, .int (nI M))]) d_Y_timeFor_47 rfl (by decide) rfl ?_
      refine zk_iload_n (pc := 48) X d_Y_timeFor_48 rfl (q := 3) rfl ?_
      refine zk_ifN_ne (pc := 49) X (tgt := 70) (M) rfl (by omega) d_Y_timeFor_49 (by decide) (fun _ => ?_) (fun g => absurd g h11)
      refine zk_aload_n (pc := 70) X d_Y_timeFor_70 rfl (q := 2) rfl ?_
      refine zk_get (pc := 71) X (ci := 7) (v := .ref ym) in_Y 2 rfl rfl 6 (by decide) (zk_m tw_368) rfl d_Y_timeFor_71 ?_
      refine zk_iload_n (pc := 74) X d_Y_timeFor_74 rfl (q := 3) rfl ?_
      refine zk_bipush (pc := 75) X (v := 12) d_Y_timeFor_75 (by decide) ?_
      refine zk_iadd (pc := 77) X (v := nI (M + 12)) d_Y_timeFor_77 (nI_add (M) (12)) ?_
      refine zk_iload_n (pc := 78) X d_Y_timeFor_78 rfl (q := 0) rfl ?_
      refine zk_iast (pc := 79) X 3 0 (ws' := [(yL, .inl (cYL, 320, .inl gl)), (yV, .inl (cYV, 320, .inl gv)), (hy, .inr (7, [.int ys, .int (nI yn), .ref yo, .ref yf, .ref yb, .int yg, .ref ym, .int yc, .int (nI yw), .ref yi, .int yq, .int (nI yl), .ref yL, .int ye, .int yt, .int yS, .int (nI yr), .int (nI ya), .ref yT, .ref yK, .ref yV])), (ym, .inl (cYm, 96, .inl (upd gm (M + 12) (gm (M + 12))))), (yT, .inl (cYT, 320, .inr (.inl gt))), (yK, .inl (cYK, 320, .inl gk))]) (M + 12) rfl rfl rfl (by omega) (by decide) d_Y_timeFor_79 rfl ?_
      refine zk_iload_n (pc := 80) X d_Y_timeFor_80 rfl (q := 0) rfl ?_
      exact zk_iret (pc := 81) X hQ hRt hLk ((upd gm (M + 12) (gm (M + 12))), gl, yl, yS, yt, ye) ⟨hq.symm, (show yl ≤ yl + 10 by omega), (show 0 < M → yl = yl by omega)⟩ [2, 3, 0, 4, 5, 1] rfl (by decide) d_Y_timeFor_81
    · have hq := hq.trans (if_neg h27)
      refine zk_iload_n (pc := 30) X d_Y_timeFor_30 rfl (q := 0) rfl ?_
      refine zk_aload_n (pc := 31) X d_Y_timeFor_31 rfl (q := 1) rfl ?_
      refine zk_get (pc := 32) X (ci := 7) (v := .ref yV) in_Y 2 rfl rfl 20 (by decide) (zk_m tw_382) rfl d_Y_timeFor_32 ?_
      refine zk_aload_n (pc := 35) X d_Y_timeFor_35 rfl (q := 1) rfl ?_
      refine zk_iload_n (pc := 36) X d_Y_timeFor_36 rfl (q := 2) rfl ?_
      refine zk_iconst (pc := 37) X (v := 2) d_Y_timeFor_37 rfl ?_
      refine zk_calli (pc := 38) X (wc := [(hy, .inr (7, [.int ys, .int (nI yn), .ref yo, .ref yf, .ref yb, .int yg, .ref ym, .int yc, .int (nI yw), .ref yi, .int yq, .int (nI yl), .ref yL, .int ye, .int yt, .int yS, .int (nI yr), .int (nI ya), .ref yT, .ref yK, .ref yV])), (ym, .inl (cYm, 96, .inl gm)), (yT, .inl (cYT, 320, .inr (.inl gt))), (yK, .inl (cYK, 320, .inl gk))]) (wr := [(yL, .inl (cYL, 320, .inl gl)), (yV, .inl (cYV, 320, .inl gv))]) [2, 3, 4, 5] [0, 1] rfl rfl (by decide) (by decide) (by decide) (zk_runV X (C := R_Y) (tysC := [(cYm, .int), (cYT, .long), (cYK, .int)]) (As := [.int (nI M), .int 2]) (rest := [.ref yV, .int (gm (M + 12))]) (c_Y_found l dC dI hy yo yf yb ym yi yL yT yK yV cYm cYT cYK M 2 gm gt gk ys yn yg yc yw yq yl ye yt yS yr ya (by omega) (by omega)) [0, 2, 3] rfl (ci := 7) rfl 2 rfl (zk_cwV 2 X.1.2.2.2.2 (zk_goodT tw_444) rfl rfl rfl (zk_m tw_442) (zk_m tw_443) (zk_m tw_535) (zk_m tw_9) rfl (by decide +kernel) ⟨Nat.le_of_ble_eq_true rfl, Nat.le_of_ble_eq_true rfl⟩) rfl rfl (Nat.le_of_ble_eq_true rfl) ⟨Nat.zero_le _, Nat.zero_le _⟩ d_Y_timeFor_38) ?_
      rintro r38 ⟨⟩ ⟨w38, f38_0⟩
      have f38_0 : zk_fd r38 yr := f38_0
      refine zk_ws (ws' := [(yL, .inl (cYL, 320, .inl gl)), (yV, .inl (cYV, 320, .inl gv)), (hy, .inr (7, [.int ys, .int (nI yn), .ref yo, .ref yf, .ref yb, .int yg, .ref ym, .int yc, .int (nI yw), .ref yi, .int yq, .int (nI yl), .ref yL, .int ye, .int yt, .int yS, .int (nI yr), .int (nI ya), .ref yT, .ref yK, .ref yV])), (ym, .inl (cYm, 96, .inl gm)), (yT, .inl (cYT, 320, .inr (.inl gt))), (yK, .inl (cYK, 320, .inl gk))]) rfl ?_
      subst w38
      refine zk_iald (pc := 41) X 1 4 (((sp_Y_found M 2 gm gt gk yr)).toNatClampNeg) rfl rfl (zk_fdI f24_0 h27) (zk_fdL f24_0 h27 hyr) (by decide) d_Y_timeFor_41 ?_
      refine zk_iadd (pc := 42) X (v := ((gm (M + 12)) + (gv (((sp_Y_found M 2 gm gt gk yr)).toNatClampNeg)))) d_Y_timeFor_42 rfl ?_
      refine zk_goto (pc := 43) X (tgt := 47) d_Y_timeFor_43 (by decide) ?_
      refine zk_istore_n (pc := 47) X (i := 3) (lv' := [(3, .int ((gm (M + 12)) + (gv (((sp_Y_found M 2 gm gt gk yr)).toNatClampNeg)))), (2, .int (gm (M + 12))), (0, .ref hy), (1, .int (nI M))]) d_Y_timeFor_47 rfl (by decide) rfl ?_
      refine zk_iload_n (pc := 48) X d_Y_timeFor_48 rfl (q := 3) rfl ?_
      refine zk_ifN_ne (pc := 49) X (tgt := 70) (M) rfl (by omega) d_Y_timeFor_49 (by decide) (fun _ => ?_) (fun g => absurd g h11)
      refine zk_aload_n (pc := 70) X d_Y_timeFor_70 rfl (q := 2) rfl ?_
      refine zk_get (pc := 71) X (ci := 7) (v := .ref ym) in_Y 2 rfl rfl 6 (by decide) (zk_m tw_368) rfl d_Y_timeFor_71 ?_
      refine zk_iload_n (pc := 74) X d_Y_timeFor_74 rfl (q := 3) rfl ?_
      refine zk_bipush (pc := 75) X (v := 12) d_Y_timeFor_75 (by decide) ?_
      refine zk_iadd (pc := 77) X (v := nI (M + 12)) d_Y_timeFor_77 (nI_add (M) (12)) ?_
      refine zk_iload_n (pc := 78) X d_Y_timeFor_78 rfl (q := 0) rfl ?_
      refine zk_iast (pc := 79) X 3 0 (ws' := [(yL, .inl (cYL, 320, .inl gl)), (yV, .inl (cYV, 320, .inl gv)), (hy, .inr (7, [.int ys, .int (nI yn), .ref yo, .ref yf, .ref yb, .int yg, .ref ym, .int yc, .int (nI yw), .ref yi, .int yq, .int (nI yl), .ref yL, .int ye, .int yt, .int yS, .int (nI yr), .int (nI ya), .ref yT, .ref yK, .ref yV])), (ym, .inl (cYm, 96, .inl (upd gm (M + 12) ((gm (M + 12)) + (gv (((sp_Y_found M 2 gm gt gk yr)).toNatClampNeg)))))), (yT, .inl (cYT, 320, .inr (.inl gt))), (yK, .inl (cYK, 320, .inl gk))]) (M + 12) rfl rfl rfl (by omega) (by decide) d_Y_timeFor_79 rfl ?_
      refine zk_iload_n (pc := 80) X d_Y_timeFor_80 rfl (q := 0) rfl ?_
      exact zk_iret (pc := 81) X hQ hRt hLk ((upd gm (M + 12) ((gm (M + 12)) + (gv (((sp_Y_found M 2 gm gt gk yr)).toNatClampNeg)))), gl, yl, yS, yt, ye) ⟨hq.symm, (show yl ≤ yl + 10 by omega), (show 0 < M → yl = yl by omega)⟩ [2, 3, 0, 4, 5, 1] rfl (by decide) d_Y_timeFor_81
  · have hq := hq.trans (if_pos h11)
    refine zk_aload_n (pc := 14) X d_Y_timeFor_14 rfl (q := 1) rfl ?_
    refine zk_get (pc := 15) X (ci := 7) (v := .int yc) in_Y 0 rfl rfl 7 (by decide) (zk_m tw_369) rfl d_Y_timeFor_15 ?_
    refine zk_goto (pc := 18) X (tgt := 47) d_Y_timeFor_18 (by decide) ?_
    refine zk_istore_n (pc := 47) X (i := 3) (lv' := [(3, .int yc), (2, .int (gm (M + 12))), (0, .ref hy), (1, .int (nI M))]) d_Y_timeFor_47 rfl (by decide) rfl ?_
    refine zk_iload_n (pc := 48) X d_Y_timeFor_48 rfl (q := 3) rfl ?_
    refine zk_ifN_ne (pc := 49) X (tgt := 70) (M) rfl (by omega) d_Y_timeFor_49 (by decide) (fun g => absurd h11 g) (fun _ => ?_)
    refine zk_iload_n (pc := 52) X d_Y_timeFor_52 rfl (q := 0) rfl ?_
    refine zk_iload_n (pc := 53) X d_Y_timeFor_53 rfl (q := 1) rfl ?_
    refine zk_icmp_eq (pc := 54) X (tgt := 70) d_Y_timeFor_54 (by decide) (fun h54 => ?_) (fun h54 => ?_)
    · have hq := hq.trans (if_pos h54)
      refine zk_aload_n (pc := 70) X d_Y_timeFor_70 rfl (q := 2) rfl ?_
      refine zk_get (pc := 71) X (ci := 7) (v := .ref ym) in_Y 0 rfl rfl 6 (by decide) (zk_m tw_368) rfl d_Y_timeFor_71 ?_
      refine zk_iload_n (pc := 74) X d_Y_timeFor_74 rfl (q := 3) rfl ?_
      refine zk_bipush (pc := 75) X (v := 12) d_Y_timeFor_75 (by decide) ?_
      refine zk_iadd (pc := 77) X (v := nI (M + 12)) d_Y_timeFor_77 (nI_add (M) (12)) ?_
      refine zk_iload_n (pc := 78) X d_Y_timeFor_78 rfl (q := 0) rfl ?_
      refine zk_iast (pc := 79) X 1 0 (ws' := [(hy, .inr (7, [.int ys, .int (nI yn), .ref yo, .ref yf, .ref yb, .int yg, .ref ym, .int yc, .int (nI yw), .ref yi, .int yq, .int (nI yl), .ref yL, .int ye, .int yt, .int yS, .int (nI yr), .int (nI ya), .ref yT, .ref yK, .ref yV])), (ym, .inl (cYm, 96, .inl (upd gm (M + 12) yc))), (yL, .inl (cYL, 320, .inl gl)), (yT, .inl (cYT, 320, .inr (.inl gt))), (yK, .inl (cYK, 320, .inl gk)), (yV, .inl (cYV, 320, .inl gv))]) (M + 12) rfl rfl rfl (by omega) (by decide) d_Y_timeFor_79 rfl ?_
      refine zk_iload_n (pc := 80) X d_Y_timeFor_80 rfl (q := 0) rfl ?_
      exact zk_iret (pc := 81) X hQ hRt hLk ((upd gm (M + 12) yc), gl, yl, yS, yt, ye) ⟨hq.symm, (show yl ≤ yl + 10 by omega), (show 0 < M → yl = yl by omega)⟩ [0, 1, 2, 3, 4, 5] rfl (by decide) d_Y_timeFor_81
    · have hq := hq.trans (if_neg h54)
      refine zk_aload_n (pc := 57) X d_Y_timeFor_57 rfl (q := 2) rfl ?_
      refine zk_iconst (pc := 58) X (v := 2) d_Y_timeFor_58 rfl ?_
      refine zk_callv (pc := 59) X (wc := [(hy, .inr (7, [.int ys, .int (nI yn), .ref yo, .ref yf, .ref yb, .int yg, .ref ym, .int yc, .int (nI yw), .ref yi, .int yq, .int (nI yl), .ref yL, .int ye, .int yt, .int yS, .int (nI yr), .int (nI ya), .ref yT, .ref yK, .ref yV])), (ym, .inl (cYm, 96, .inl gm)), (yL, .inl (cYL, 320, .inl gl))]) (wr := [(yT, .inl (cYT, 320, .inr (.inl gt))), (yK, .inl (cYK, 320, .inl gk)), (yV, .inl (cYV, 320, .inl gv))]) [0, 1, 2] [3, 4, 5] rfl rfl (by decide) (by decide) (by decide) (zk_runV X (C := R_Y) (tysC := [(cYm, .int), (cYL, .int)]) (As := [.int 2]) (rest := []) (c_Y_writeEntry l dC dI hy yo yf yb ym yi yL yT yK yV cYm cYL 2 gm gl ys yn yg yc yw yq yl ye yt yS yr ya (by omega)) [0, 1] rfl (ci := 7) rfl 0 rfl (zk_cwV 1 X.1.2.2.2.2 (zk_goodT tw_447) rfl rfl rfl (zk_m tw_445) (zk_m tw_446) (zk_m tw_536) (zk_m tw_9) rfl (by decide +kernel) ⟨Nat.le_of_ble_eq_true rfl, Nat.le_of_ble_eq_true rfl⟩) rfl rfl (Nat.le_of_ble_eq_true rfl) ⟨Nat.zero_le _, Nat.zero_le _⟩ d_Y_timeFor_59) ?_
      rintro ⟨gl_59, yl_59, yS_59, yt_59, ye_59⟩ ⟨w59, f59_0⟩
      have f59_0 : yl_59 ≤ yl + 5 := f59_0
      refine zk_ws (ws' := [(yT, .inl (cYT, 320, .inr (.inl gt))), (yK, .inl (cYK, 320, .inl gk)), (yV, .inl (cYV, 320, .inl gv)), (hy, .inr (7, [.int ys, .int (nI yn), .ref yo, .ref yf, .ref yb, .int yg, .ref ym, .int yc, .int (nI yw), .ref yi, .int yq, .int (nI yl_59), .ref yL, .int ye_59, .int yt_59, .int yS_59, .int (nI yr), .int (nI ya), .ref yT, .ref yK, .ref yV])), (ym, .inl (cYm, 96, .inl gm)), (yL, .inl (cYL, 320, .inl gl_59))]) rfl ?_
      try dsimp only at w59
      rw [← w59] at hq
      try dsimp only at hq
      refine zk_aload_n (pc := 62) X d_Y_timeFor_62 rfl (q := 2) rfl ?_
      refine zk_iload_n (pc := 63) X d_Y_timeFor_63 rfl (q := 0) rfl ?_
      refine zk_iload_n (pc := 64) X d_Y_timeFor_64 rfl (q := 1) rfl ?_
      refine zk_isub (pc := 65) X (v := (yc - (gm (M + 12)))) d_Y_timeFor_65 rfl ?_
      refine zk_i2l (pc := 66) X (v := (Int32.toInt64 (yc - (gm (M + 12))))) d_Y_timeFor_66 rfl ?_
      refine zk_callv (pc := 67) X (wc := [(hy, .inr (7, [.int ys, .int (nI yn), .ref yo, .ref yf, .ref yb, .int yg, .ref ym, .int yc, .int (nI yw), .ref yi, .int yq, .int (nI yl_59), .ref yL, .int ye_59, .int yt_59, .int yS_59, .int (nI yr), .int (nI ya), .ref yT, .ref yK, .ref yV])), (yL, .inl (cYL, 320, .inl gl_59))]) (wr := [(yT, .inl (cYT, 320, .inr (.inl gt))), (yK, .inl (cYK, 320, .inl gk)), (yV, .inl (cYV, 320, .inl gv)), (ym, .inl (cYm, 96, .inl gm))]) [3, 5] [0, 1, 2, 4] rfl rfl (by decide) (by decide) (by decide) (zk_runV X (C := R_Y) (tysC := [(cYL, .int)]) (As := [.long (Int32.toInt64 (yc - (gm (M + 12))))]) (rest := []) (c_Y_writeNumber l dC dI hy yo yf yb ym yi yL yT yK yV cYL (Int32.toInt64 (yc - (gm (M + 12)))) gl_59 ys yn yg yc yw yq yl_59 ye_59 yt_59 yS_59 yr ya (by omega) (zk_i35 _)) [1] rfl (ci := 7) rfl 3 rfl (zk_cwV 1 X.1.2.2.2.2 (zk_goodT tw_451) rfl rfl rfl (zk_m tw_449) (zk_m tw_450) (zk_m tw_537) (zk_m tw_9) rfl (by decide +kernel) ⟨Nat.le_of_ble_eq_true rfl, Nat.le_of_ble_eq_true rfl⟩) rfl rfl (Nat.le_of_ble_eq_true rfl) ⟨Nat.zero_le _, Nat.zero_le _⟩ d_Y_timeFor_67) ?_
      rintro ⟨gl_67, yl_67, yS_67⟩ ⟨w67, f67_0⟩
      have f67_0 : yl_67 ≤ yl_59 + 5 := f67_0
      refine zk_ws (ws' := [(yT, .inl (cYT, 320, .inr (.inl gt))), (yK, .inl (cYK, 320, .inl gk)), (yV, .inl (cYV, 320, .inl gv)), (ym, .inl (cYm, 96, .inl gm)), (hy, .inr (7, [.int ys, .int (nI yn), .ref yo, .ref yf, .ref yb, .int yg, .ref ym, .int yc, .int (nI yw), .ref yi, .int yq, .int (nI yl_67), .ref yL, .int ye_59, .int yt_59, .int yS_67, .int (nI yr), .int (nI ya), .ref yT, .ref yK, .ref yV])), (yL, .inl (cYL, 320, .inl gl_67))]) rfl ?_
      try dsimp only at w67
      rw [← w67] at hq
      try dsimp only at hq
      refine zk_aload_n (pc := 70) X d_Y_timeFor_70 rfl (q := 2) rfl ?_
      refine zk_get (pc := 71) X (ci := 7) (v := .ref ym) in_Y 4 rfl rfl 6 (by decide) (zk_m tw_368) rfl d_Y_timeFor_71 ?_
      refine zk_iload_n (pc := 74) X d_Y_timeFor_74 rfl (q := 3) rfl ?_
      refine zk_bipush (pc := 75) X (v := 12) d_Y_timeFor_75 (by decide) ?_
      refine zk_iadd (pc := 77) X (v := nI (M + 12)) d_Y_timeFor_77 (nI_add (M) (12)) ?_
      refine zk_iload_n (pc := 78) X d_Y_timeFor_78 rfl (q := 0) rfl ?_
      refine zk_iast (pc := 79) X 3 0 (ws' := [(yT, .inl (cYT, 320, .inr (.inl gt))), (yK, .inl (cYK, 320, .inl gk)), (yV, .inl (cYV, 320, .inl gv)), (ym, .inl (cYm, 96, .inl (upd gm (M + 12) yc))), (hy, .inr (7, [.int ys, .int (nI yn), .ref yo, .ref yf, .ref yb, .int yg, .ref ym, .int yc, .int (nI yw), .ref yi, .int yq, .int (nI yl_67), .ref yL, .int ye_59, .int yt_59, .int yS_67, .int (nI yr), .int (nI ya), .ref yT, .ref yK, .ref yV])), (yL, .inl (cYL, 320, .inl gl_67))]) (M + 12) rfl rfl rfl (by omega) (by decide) d_Y_timeFor_79 rfl ?_
      refine zk_iload_n (pc := 80) X d_Y_timeFor_80 rfl (q := 0) rfl ?_
      exact zk_iret (pc := 81) X hQ hRt hLk ((upd gm (M + 12) yc), gl_67, yl_67, yS_67, yt_59, ye_59) ⟨hq.symm, (show yl_67 ≤ yl + 10 by omega), (show 0 < M → yl_67 = yl by omega)⟩ [4, 3, 5, 0, 1, 2] rfl (by decide) d_Y_timeFor_81
def sp_Y_perform (M : Nat) (o : Int32) (a : Int32) (b : Int32) (gm : Nat → Int32) (gi : Nat → Int32) (gl : Nat → Int32) (gt : Nat → Int64) (gk : Nat → Int32) (gv : Nat → Int32) (yc : Int32) (yw : Nat) (yl : Nat) (ye : Int32) (yt : Int32) (yS : Int32) (yr : Nat) : (Nat → Int32) × (Nat → Int32) × Nat × (Nat → Int32) × Nat × Int32 × Int32 × Int32 :=
  if o = 0 then
    ((upd (upd gm (M + 4) ((gm (M + 4)) + 1)) (M + ((zk_ix3 a))) b), gi, yw, gl, yl, yS, yt, ye)
  else
    if o = 1 then
      ((upd (upd gm (M + 4) ((gm (M + 4)) + 1)) (M + ((zk_ix3 a))) (((upd gm (M + 4) ((gm (M + 4)) + 1)) (M + ((zk_ix3 a)))) + (gm (M + ((zk_ix3 b)))))), gi, yw, gl, yl, yS, yt, ye)
    else
      if o = 2 then
        ((upd (upd gm (M + 4) ((gm (M + 4)) + 1)) (M + ((zk_ix3 a))) (((upd gm (M + 4) ((gm (M + 4)) + 1)) (M + ((zk_ix3 a)))) - (gm (M + ((zk_ix3 b)))))), gi, yw, gl, yl, yS, yt, ye)
      else
        if o = 3 then
          ((upd (upd gm (M + 4) ((gm (M + 4)) + 1)) (M + ((zk_ix3 a))) ((upd gm (M + 4) ((gm (M + 4)) + 1)) (M + 16 + ((zk_ix31 (gm (M + ((zk_ix3 b))))))))), gi, yw, gl, yl, yS, yt, ye)
        else
          if o = 4 then
            ((upd (upd gm (M + 4) ((gm (M + 4)) + 1)) (M + 16 + ((zk_ix31 (gm (M + ((zk_ix3 b))))))) ((upd gm (M + 4) ((gm (M + 4)) + 1)) (M + ((zk_ix3 a))))), gi, yw, gl, yl, yS, yt, ye)
          else
            if o = 5 then
              ((upd (upd gm (M + 4) ((gm (M + 4)) + 1)) (M + 4) b), gi, yw, gl, yl, yS, yt, ye)
            else
              if o = 6 then
                if ((upd gm (M + 4) ((gm (M + 4)) + 1)) (M + ((zk_ix3 a)))) = 0 then
                  ((upd (upd gm (M + 4) ((gm (M + 4)) + 1)) (M + 4) b), gi, yw, gl, yl, yS, yt, ye)
                else
                  ((upd gm (M + 4) ((gm (M + 4)) + 1)), gi, yw, gl, yl, yS, yt, ye)
              else
                if o = 7 then
                  (match sp_Y_inputFor M (upd gm (M + 4) ((gm (M + 4)) + 1)) gi gl gt gk gv yw yl ye yt yS yr with
                  | (r196, gi_196, yw_196, gl_196, yl_196, yS_196, yt_196, ye_196) =>
                    ((upd (upd gm (M + 4) ((gm (M + 4)) + 1)) (M + ((zk_ix3 a))) r196), gi_196, yw_196, gl_196, yl_196, yS_196, yt_196, ye_196))
                else
                  if o = 8 then
                    (match sp_Y_timeFor M (upd gm (M + 4) ((gm (M + 4)) + 1)) gl gt gk gv yc yl ye yt yS yr with
                    | (r214, gm_214, gl_214, yl_214, yS_214, yt_214, ye_214) =>
                      ((upd gm_214 (M + ((zk_ix3 a))) r214), gi, yw, gl_214, yl_214, yS_214, yt_214, ye_214))
                  else
                    if o = 9 then
                      ((upd (upd (upd gm (M + 4) ((gm (M + 4)) + 1)) (M + 11) ((((upd gm (M + 4) ((gm (M + 4)) + 1)) (M + 11)) * 1103515245) + 12345)) (M + ((zk_ix3 a))) (zf_ushr ((upd (upd gm (M + 4) ((gm (M + 4)) + 1)) (M + 11) ((((upd gm (M + 4) ((gm (M + 4)) + 1)) (M + 11)) * 1103515245) + 12345)) (M + 11)) 16)), gi, yw, gl, yl, yS, yt, ye)
                    else
                      if o = 10 then
                        ((upd (upd gm (M + 4) ((gm (M + 4)) + 1)) (M + 5) ((((upd gm (M + 4) ((gm (M + 4)) + 1)) (M + 5)) ^^^ ((upd gm (M + 4) ((gm (M + 4)) + 1)) (M + ((zk_ix3 a))))) * 16777619)), gi, yw, gl, yl, yS, yt, ye)
                      else
                        if o = 11 then
                          if ((upd gm (M + 4) ((gm (M + 4)) + 1)) (M + 7)) = 1 then
                            ((upd (upd (upd gm (M + 4) ((gm (M + 4)) + 1)) (M + 4) ((upd gm (M + 4) ((gm (M + 4)) + 1)) (M + 10))) (M + 7) 0), gi, yw, gl, yl, yS, yt, ye)
                          else
                            ((upd gm (M + 4) ((gm (M + 4)) + 1)), gi, yw, gl, yl, yS, yt, ye)
                        else
                          if o = 12 then
                            ((upd (upd gm (M + 4) ((gm (M + 4)) + 1)) (M + 8) 1), gi, yw, gl, yl, yS, yt, ye)
                          else
                            ((upd gm (M + 4) ((gm (M + 4)) + 1)), gi, yw, gl, yl, yS, yt, ye)
abbrev rm_Y_perform : Room := { frames := 5, cells := 0, slots := 0, locals := 112 }
set_option maxHeartbeats 4000000 in
set_option maxRecDepth 100000 in
theorem c_Y_perform (l : Launch) (dC : Nat → ClassId) (dI : Nat → Nat → Nat) (hy yo yf yb ym yi yL yT yK yV : Nat) (cYm cYi cYL cYT cYK cYV : ClassId) (M : Nat) (o : Int32) (a : Int32) (b : Int32) (gm : Nat → Int32) (gi : Nat → Int32) (gl : Nat → Int32) (gt : Nat → Int64) (gk : Nat → Int32) (gv : Nat → Int32) (ys : Int32) (yn : Nat) (yg : Int32) (yc : Int32) (yw : Nat) (yq : Int32) (yl : Nat) (ye : Int32) (yt : Int32) (yS : Int32) (yr : Nat) (ya : Nat) (hM : M ≤ 48) (hyr : yr ≤ 320) (hyw : yw ≤ 16) (hyl : yl + 10 ≤ 320) : zk_Cv l y_Y_perform w_Y_perform rm_Y_perform (dC, dI) vwCl [.ref hy, .int (nI M), .int o, .int a, .int b] [(hy, .inr (7, [.int ys, .int (nI yn), .ref yo, .ref yf, .ref yb, .int yg, .ref ym, .int yc, .int (nI yw), .ref yi, .int yq, .int (nI yl), .ref yL, .int ye, .int yt, .int yS, .int (nI yr), .int (nI ya), .ref yT, .ref yK, .ref yV])), (ym, .inl (cYm, 96, .inl gm)), (yi, .inl (cYi, 16, .inl gi)), (yL, .inl (cYL, 320, .inl gl)), (yT, .inl (cYT, 320, .inr (.inl gt))), (yK, .inl (cYK, 320, .inl gk)), (yV, .inl (cYV, 320, .inl gv))] [(cYm, .int), (cYi, .int), (cYL, .int), (cYT, .long), (cYK, .int), (cYV, .int)] (fun (u : (Nat → Int32) × (Nat → Int32) × Nat × (Nat → Int32) × Nat × Int32 × Int32 × Int32) => u = sp_Y_perform M o a b gm gi gl gt gk gv yc yw yl ye yt yS yr ∧ (u.2.2.2.2.1 ≤ yl + 10) ∧ (0 < M → u.2.2.2.2.1 = yl) ∧ (u.2.2.1 ≤ 16)) (fun u => [(hy, .inr (7, [.int ys, .int (nI yn), .ref yo, .ref yf, .ref yb, .int yg, .ref ym, .int yc, .int (nI u.2.2.1), .ref yi, .int yq, .int (nI u.2.2.2.2.1), .ref yL, .int u.2.2.2.2.2.2.2, .int u.2.2.2.2.2.2.1, .int u.2.2.2.2.2.1, .int (nI yr), .int (nI ya), .ref yT, .ref yK, .ref yV])), (ym, .inl (cYm, 96, .inl u.1)), (yi, .inl (cYi, 16, .inl u.2.1)), (yL, .inl (cYL, 320, .inl u.2.2.2.1)), (yT, .inl (cYT, 320, .inr (.inl gt))), (yK, .inl (cYK, 320, .inl gk)), (yV, .inl (cYV, 320, .inl gv))]) := by
  refine zk_enterv (cc := b_Y_perform) (maxL := 8) (ret := none) (by decide) rfl (Nat.le_of_ble_eq_true rfl) ?_
  intro p e s m args below meth c A Q hQ X hRt hLk
  have hq := sp_Y_perform.eq_1 M o a b gm gi gl gt gk gv yc yw yl ye yt yS yr
  refine zk_lv (lv' := [(0, .ref hy), (1, .int (nI M)), (2, .int o), (3, .int a), (4, .int b)]) [0, 1, 2, 3, 4] rfl ?_
  refine zk_iload_n (pc := 0) X d_Y_perform_0 rfl (q := 1) rfl ?_
  refine zk_iload_n (pc := 1) X d_Y_perform_1 rfl (q := 3) rfl ?_
  refine zk_iconst (pc := 2) X (v := 4) d_Y_perform_2 rfl ?_
  refine zk_calli (pc := 3) X (wc := []) (wr := [(hy, .inr (7, [.int ys, .int (nI yn), .ref yo, .ref yf, .ref yb, .int yg, .ref ym, .int yc, .int (nI yw), .ref yi, .int yq, .int (nI yl), .ref yL, .int ye, .int yt, .int yS, .int (nI yr), .int (nI ya), .ref yT, .ref yK, .ref yV])), (ym, .inl (cYm, 96, .inl gm)), (yi, .inl (cYi, 16, .inl gi)), (yL, .inl (cYL, 320, .inl gl)), (yT, .inl (cYT, 320, .inr (.inl gt))), (yK, .inl (cYK, 320, .inl gk)), (yV, .inl (cYV, 320, .inl gv))]) [] [0, 1, 2, 3, 4, 5, 6] rfl rfl (by decide) (by decide) (by decide) (zk_runS X (tysC := []) (As := [.int a, .int 4]) (rest := [.int (nI M)]) (c_Y_mod4 l dC dI a) [] rfl (zk_cwS 2 X.1.2.2.2.2 (zk_goodT tw_465) rfl rfl rfl (zk_m tw_463) (zk_m tw_464) (zk_m tw_9) (by decide +kernel) ⟨Nat.le_of_ble_eq_true rfl, Nat.le_of_ble_eq_true rfl⟩) rfl rfl (Nat.le_of_ble_eq_true rfl) ⟨Nat.zero_le _, Nat.zero_le _⟩ d_Y_perform_3) ?_
  rintro r3 ⟨⟩ w3
  refine zk_ws (ws' := [(hy, .inr (7, [.int ys, .int (nI yn), .ref yo, .ref yf, .ref yb, .int yg, .ref ym, .int yc, .int (nI yw), .ref yi, .int yq, .int (nI yl), .ref yL, .int ye, .int yt, .int yS, .int (nI yr), .int (nI ya), .ref yT, .ref yK, .ref yV])), (ym, .inl (cYm, 96, .inl gm)), (yi, .inl (cYi, 16, .inl gi)), (yL, .inl (cYL, 320, .inl gl)), (yT, .inl (cYT, 320, .inr (.inl gt))), (yK, .inl (cYK, 320, .inl gk)), (yV, .inl (cYV, 320, .inl gv))]) rfl ?_
  subst w3
  rw [zk_mod4 a] 
  have f3_n := zk_ix3_lt a
  refine zk_iadd (pc := 6) X (v := nI (M + ((zk_ix3 a)))) d_Y_perform_6 (nI_add (M) ((zk_ix3 a))) ?_
  refine zk_istore (pc := 7) X (i := 5) (lv' := [(5, .int (nI (M + ((zk_ix3 a))))), (0, .ref hy), (1, .int (nI M)), (2, .int o), (3, .int a), (4, .int b)]) d_Y_perform_7 (by decide) rfl ?_
  refine zk_aload_n (pc := 9) X d_Y_perform_9 rfl (q := 1) rfl ?_
  refine zk_get (pc := 10) X (ci := 7) (v := .ref ym) in_Y 0 rfl rfl 6 (by decide) (zk_m tw_368) rfl d_Y_perform_10 ?_
  refine zk_iload_n (pc := 13) X d_Y_perform_13 rfl (q := 2) rfl ?_
  refine zk_iload (pc := 14) X d_Y_perform_14 (q := 5) rfl ?_
  refine zk_iconst (pc := 16) X (v := 4) d_Y_perform_16 rfl ?_
  refine zk_calli (pc := 17) X (wc := []) (wr := [(hy, .inr (7, [.int ys, .int (nI yn), .ref yo, .ref yf, .ref yb, .int yg, .ref ym, .int yc, .int (nI yw), .ref yi, .int yq, .int (nI yl), .ref yL, .int ye, .int yt, .int yS, .int (nI yr), .int (nI ya), .ref yT, .ref yK, .ref yV])), (ym, .inl (cYm, 96, .inl gm)), (yi, .inl (cYi, 16, .inl gi)), (yL, .inl (cYL, 320, .inl gl)), (yT, .inl (cYT, 320, .inr (.inl gt))), (yK, .inl (cYK, 320, .inl gk)), (yV, .inl (cYV, 320, .inl gv))]) [] [0, 1, 2, 3, 4, 5, 6] rfl rfl (by decide) (by decide) (by decide) (zk_runS X (tysC := []) (As := [.int b, .int 4]) (rest := [.int (nI M), .ref ym]) (c_Y_mod4 l dC dI b) [] rfl (zk_cwS 2 X.1.2.2.2.2 (zk_goodT tw_465) rfl rfl rfl (zk_m tw_463) (zk_m tw_464) (zk_m tw_9) (by decide +kernel) ⟨Nat.le_of_ble_eq_true rfl, Nat.le_of_ble_eq_true rfl⟩) rfl rfl (Nat.le_of_ble_eq_true rfl) ⟨Nat.zero_le _, Nat.zero_le _⟩ d_Y_perform_17) ?_
  rintro r17 ⟨⟩ w17
  refine zk_ws (ws' := [(hy, .inr (7, [.int ys, .int (nI yn), .ref yo, .ref yf, .ref yb, .int yg, .ref ym, .int yc, .int (nI yw), .ref yi, .int yq, .int (nI yl), .ref yL, .int ye, .int yt, .int yS, .int (nI yr), .int (nI ya), .ref yT, .ref yK, .ref yV])), (ym, .inl (cYm, 96, .inl gm)), (yi, .inl (cYi, 16, .inl gi)), (yL, .inl (cYL, 320, .inl gl)), (yT, .inl (cYT, 320, .inr (.inl gt))), (yK, .inl (cYK, 320, .inl gk)), (yV, .inl (cYV, 320, .inl gv))]) rfl ?_
  subst w17
  rw [zk_mod4 b] 
  have f17_n := zk_ix3_lt b
  refine zk_iadd (pc := 20) X (v := nI (M + ((zk_ix3 b)))) d_Y_perform_20 (nI_add (M) ((zk_ix3 b))) ?_
  refine zk_iald (pc := 21) X 1 0 (M + ((zk_ix3 b))) rfl rfl rfl (by omega) (by decide) d_Y_perform_21 ?_
  refine zk_istore (pc := 22) X (i := 6) (lv' := [(6, .int (gm (M + ((zk_ix3 b))))), (5, .int (nI (M + ((zk_ix3 a))))), (0, .ref hy), (1, .int (nI M)), (2, .int o), (3, .int a), (4, .int b)]) d_Y_perform_22 (by decide) rfl ?_
  refine zk_iload_n (pc := 24) X d_Y_perform_24 rfl (q := 3) rfl ?_
  refine zk_bipush (pc := 25) X (v := 16) d_Y_perform_25 (by decide) ?_
  refine zk_iadd (pc := 27) X (v := nI (M + 16)) d_Y_perform_27 (nI_add (M) (16)) ?_
  refine zk_iload (pc := 28) X d_Y_perform_28 (q := 0) rfl ?_
  refine zk_bipush (pc := 30) X (v := 32) d_Y_perform_30 (by decide) ?_
  refine zk_calli (pc := 32) X (wc := []) (wr := [(hy, .inr (7, [.int ys, .int (nI yn), .ref yo, .ref yf, .ref yb, .int yg, .ref ym, .int yc, .int (nI yw), .ref yi, .int yq, .int (nI yl), .ref yL, .int ye, .int yt, .int yS, .int (nI yr), .int (nI ya), .ref yT, .ref yK, .ref yV])), (ym, .inl (cYm, 96, .inl gm)), (yi, .inl (cYi, 16, .inl gi)), (yL, .inl (cYL, 320, .inl gl)), (yT, .inl (cYT, 320, .inr (.inl gt))), (yK, .inl (cYK, 320, .inl gk)), (yV, .inl (cYV, 320, .inl gv))]) [] [0, 1, 2, 3, 4, 5, 6] rfl rfl (by decide) (by decide) (by decide) (zk_runS X (tysC := []) (As := [.int (gm (M + ((zk_ix3 b)))), .int 32]) (rest := [.int (nI (M + 16))]) (c_Y_mod32 l dC dI (gm (M + ((zk_ix3 b))))) [] rfl (zk_cwS 2 X.1.2.2.2.2 (zk_goodT tw_465) rfl rfl rfl (zk_m tw_463) (zk_m tw_464) (zk_m tw_9) (by decide +kernel) ⟨Nat.le_of_ble_eq_true rfl, Nat.le_of_ble_eq_true rfl⟩) rfl rfl (Nat.le_of_ble_eq_true rfl) ⟨Nat.zero_le _, Nat.zero_le _⟩ d_Y_perform_32) ?_
  rintro r32 ⟨⟩ w32
  refine zk_ws (ws' := [(hy, .inr (7, [.int ys, .int (nI yn), .ref yo, .ref yf, .ref yb, .int yg, .ref ym, .int yc, .int (nI yw), .ref yi, .int yq, .int (nI yl), .ref yL, .int ye, .int yt, .int yS, .int (nI yr), .int (nI ya), .ref yT, .ref yK, .ref yV])), (ym, .inl (cYm, 96, .inl gm)), (yi, .inl (cYi, 16, .inl gi)), (yL, .inl (cYL, 320, .inl gl)), (yT, .inl (cYT, 320, .inr (.inl gt))), (yK, .inl (cYK, 320, .inl gk)), (yV, .inl (cYV, 320, .inl gv))]) rfl ?_
  subst w32
  rw [zk_mod32 (gm (M + ((zk_ix3 b))))] 
  have f32_n := zk_ix31_lt (gm (M + ((zk_ix3 b))))
  refine zk_iadd (pc := 35) X (v := nI (M + 16 + ((zk_ix31 (gm (M + ((zk_ix3 b)))))))) d_Y_perform_35 (nI_add (M + 16) ((zk_ix31 (gm (M + ((zk_ix3 b))))))) ?_
  refine zk_istore (pc := 36) X (i := 7) (lv' := [(7, .int (nI (M + 16 + ((zk_ix31 (gm (M + ((zk_ix3 b))))))))), (6, .int (gm (M + ((zk_ix3 b))))), (5, .int (nI (M + ((zk_ix3 a))))), (0, .ref hy), (1, .int (nI M)), (2, .int o), (3, .int a), (4, .int b)]) d_Y_perform_36 (by decide) rfl ?_
  refine zk_aload_n (pc := 38) X d_Y_perform_38 rfl (q := 3) rfl ?_
  refine zk_get (pc := 39) X (ci := 7) (v := .ref ym) in_Y 0 rfl rfl 6 (by decide) (zk_m tw_368) rfl d_Y_perform_39 ?_
  refine zk_iload_n (pc := 42) X d_Y_perform_42 rfl (q := 4) rfl ?_
  refine zk_iconst (pc := 43) X (v := 4) d_Y_perform_43 rfl ?_
  refine zk_iadd (pc := 44) X (v := nI (M + 4)) d_Y_perform_44 (nI_add (M) (4)) ?_
  refine zk_aload_n (pc := 45) X d_Y_perform_45 rfl (q := 3) rfl ?_
  refine zk_get (pc := 46) X (ci := 7) (v := .ref ym) in_Y 0 rfl rfl 6 (by decide) (zk_m tw_368) rfl d_Y_perform_46 ?_
  refine zk_iload_n (pc := 49) X d_Y_perform_49 rfl (q := 4) rfl ?_
  refine zk_iconst (pc := 50) X (v := 4) d_Y_perform_50 rfl ?_
  refine zk_iadd (pc := 51) X (v := nI (M + 4)) d_Y_perform_51 (nI_add (M) (4)) ?_
  refine zk_iald (pc := 52) X 1 0 (M + 4) rfl rfl rfl (by omega) (by decide) d_Y_perform_52 ?_
  refine zk_iconst (pc := 53) X (v := 1) d_Y_perform_53 rfl ?_
  refine zk_iadd (pc := 54) X (v := ((gm (M + 4)) + 1)) d_Y_perform_54 rfl ?_
  refine zk_iast (pc := 55) X 1 0 (ws' := [(hy, .inr (7, [.int ys, .int (nI yn), .ref yo, .ref yf, .ref yb, .int yg, .ref ym, .int yc, .int (nI yw), .ref yi, .int yq, .int (nI yl), .ref yL, .int ye, .int yt, .int yS, .int (nI yr), .int (nI ya), .ref yT, .ref yK, .ref yV])), (ym, .inl (cYm, 96, .inl (upd gm (M + 4) ((gm (M + 4)) + 1)))), (yi, .inl (cYi, 16, .inl gi)), (yL, .inl (cYL, 320, .inl gl)), (yT, .inl (cYT, 320, .inr (.inl gt))), (yK, .inl (cYK, 320, .inl gk)), (yV, .inl (cYV, 320, .inl gv))]) (M + 4) rfl rfl rfl (by omega) (by decide) d_Y_perform_55 rfl ?_
  refine zk_iload_n (pc := 56) X d_Y_perform_56 rfl (q := 5) rfl ?_
  refine zk_if_ne (pc := 57) X (tgt := 69) d_Y_perform_57 (by decide) (fun h57 => ?_) (fun h57 => ?_)
  · have hq := hq.trans (if_neg h57)
    refine zk_iload_n (pc := 69) X d_Y_perform_69 rfl (q := 5) rfl ?_
    refine zk_iconst (pc := 70) X (v := 1) d_Y_perform_70 rfl ?_
    refine zk_icmp_ne (pc := 71) X (tgt := 91) d_Y_perform_71 (by decide) (fun h71 => ?_) (fun h71 => ?_)
    · have hq := hq.trans (if_neg h71)
      refine zk_iload_n (pc := 91) X d_Y_perform_91 rfl (q := 5) rfl ?_
      refine zk_iconst (pc := 92) X (v := 2) d_Y_perform_92 rfl ?_
      refine zk_icmp_ne (pc := 93) X (tgt := 113) d_Y_perform_93 (by decide) (fun h93 => ?_) (fun h93 => ?_)
      · have hq := hq.trans (if_neg h93)
        refine zk_iload_n (pc := 113) X d_Y_perform_113 rfl (q := 5) rfl ?_
        refine zk_iconst (pc := 114) X (v := 3) d_Y_perform_114 rfl ?_
        refine zk_icmp_ne (pc := 115) X (tgt := 132) d_Y_perform_115 (by decide) (fun h115 => ?_) (fun h115 => ?_)
        · have hq := hq.trans (if_neg h115)
          refine zk_iload_n (pc := 132) X d_Y_perform_132 rfl (q := 5) rfl ?_
          refine zk_iconst (pc := 133) X (v := 4) d_Y_perform_133 rfl ?_
          refine zk_icmp_ne (pc := 134) X (tgt := 151) d_Y_perform_134 (by decide) (fun h134 => ?_) (fun h134 => ?_)
          · have hq := hq.trans (if_neg h134)
            refine zk_iload_n (pc := 151) X d_Y_perform_151 rfl (q := 5) rfl ?_
            refine zk_iconst (pc := 152) X (v := 5) d_Y_perform_152 rfl ?_
            refine zk_icmp_eq (pc := 153) X (tgt := 172) d_Y_perform_153 (by decide) (fun h153 => ?_) (fun h153 => ?_)
            · have hq := hq.trans (if_pos h153)
              refine zk_aload_n (pc := 172) X d_Y_perform_172 rfl (q := 3) rfl ?_
              refine zk_get (pc := 173) X (ci := 7) (v := .ref ym) in_Y 0 rfl rfl 6 (by decide) (zk_m tw_368) rfl d_Y_perform_173 ?_
              refine zk_iload_n (pc := 176) X d_Y_perform_176 rfl (q := 4) rfl ?_
              refine zk_iconst (pc := 177) X (v := 4) d_Y_perform_177 rfl ?_
              refine zk_iadd (pc := 178) X (v := nI (M + 4)) d_Y_perform_178 (nI_add (M) (4)) ?_
              refine zk_iload (pc := 179) X d_Y_perform_179 (q := 7) rfl ?_
              refine zk_iast (pc := 181) X 1 0 (ws' := [(hy, .inr (7, [.int ys, .int (nI yn), .ref yo, .ref yf, .ref yb, .int yg, .ref ym, .int yc, .int (nI yw), .ref yi, .int yq, .int (nI yl), .ref yL, .int ye, .int yt, .int yS, .int (nI yr), .int (nI ya), .ref yT, .ref yK, .ref yV])), (ym, .inl (cYm, 96, .inl (upd (upd gm (M + 4) ((gm (M + 4)) + 1)) (M + 4) b))), (yi, .inl (cYi, 16, .inl gi)), (yL, .inl (cYL, 320, .inl gl)), (yT, .inl (cYT, 320, .inr (.inl gt))), (yK, .inl (cYK, 320, .inl gk)), (yV, .inl (cYV, 320, .inl gv))]) (M + 4) rfl rfl rfl (by omega) (by decide) d_Y_perform_181 rfl ?_
              refine zk_iload_n (pc := 182) X d_Y_perform_182 rfl (q := 5) rfl ?_
              refine zk_bipush (pc := 183) X (v := 7) d_Y_perform_183 (by decide) ?_
              refine zk_icmp_ne (pc := 185) X (tgt := 200) d_Y_perform_185 (by decide) (fun _ => ?_) (fun g => absurd g (fun g => absurd (h153.symm.trans g) (by decide)))
              refine zk_iload_n (pc := 200) X d_Y_perform_200 rfl (q := 5) rfl ?_
              refine zk_bipush (pc := 201) X (v := 8) d_Y_perform_201 (by decide) ?_
              refine zk_icmp_ne (pc := 203) X (tgt := 218) d_Y_perform_203 (by decide) (fun _ => ?_) (fun g => absurd g (fun g => absurd (h153.symm.trans g) (by decide)))
              refine zk_iload_n (pc := 218) X d_Y_perform_218 rfl (q := 5) rfl ?_
              refine zk_bipush (pc := 219) X (v := 9) d_Y_perform_219 (by decide) ?_
              refine zk_icmp_ne (pc := 221) X (tgt := 268) d_Y_perform_221 (by decide) (fun _ => ?_) (fun g => absurd g (fun g => absurd (h153.symm.trans g) (by decide)))
              refine zk_iload_n (pc := 268) X d_Y_perform_268 rfl (q := 5) rfl ?_
              refine zk_bipush (pc := 269) X (v := 10) d_Y_perform_269 (by decide) ?_
              refine zk_icmp_ne (pc := 271) X (tgt := 301) d_Y_perform_271 (by decide) (fun _ => ?_) (fun g => absurd g (fun g => absurd (h153.symm.trans g) (by decide)))
              refine zk_iload_n (pc := 301) X d_Y_perform_301 rfl (q := 5) rfl ?_
              refine zk_bipush (pc := 302) X (v := 11) d_Y_perform_302 (by decide) ?_
              refine zk_icmp_ne (pc := 304) X (tgt := 347) d_Y_perform_304 (by decide) (fun _ => ?_) (fun g => absurd g (fun g => absurd (h153.symm.trans g) (by decide)))
              refine zk_iload_n (pc := 347) X d_Y_perform_347 rfl (q := 5) rfl ?_
              refine zk_bipush (pc := 348) X (v := 12) d_Y_perform_348 (by decide) ?_
              refine zk_icmp_ne (pc := 350) X (tgt := 363) d_Y_perform_350 (by decide) (fun _ => ?_) (fun g => absurd g (fun g => absurd (h153.symm.trans g) (by decide)))
              exact zk_vret (pc := 363) X hQ hRt hLk ((upd (upd gm (M + 4) ((gm (M + 4)) + 1)) (M + 4) b), gi, yw, gl, yl, yS, yt, ye) ⟨hq.symm, (show yl ≤ yl + 10 by omega), (show 0 < M → yl = yl by omega), (show yw ≤ 16 by omega)⟩ [0, 1, 2, 3, 4, 5, 6] rfl (by decide) d_Y_perform_363
            · have hq := hq.trans (if_neg h153)
              refine zk_iload_n (pc := 156) X d_Y_perform_156 rfl (q := 5) rfl ?_
              refine zk_bipush (pc := 157) X (v := 6) d_Y_perform_157 (by decide) ?_
              refine zk_icmp_ne (pc := 159) X (tgt := 182) d_Y_perform_159 (by decide) (fun h159 => ?_) (fun h159 => ?_)
              · have hq := hq.trans (if_neg h159)
                refine zk_iload_n (pc := 182) X d_Y_perform_182 rfl (q := 5) rfl ?_
                refine zk_bipush (pc := 183) X (v := 7) d_Y_perform_183 (by decide) ?_
                refine zk_icmp_ne (pc := 185) X (tgt := 200) d_Y_perform_185 (by decide) (fun h185 => ?_) (fun h185 => ?_)
                · have hq := hq.trans (if_neg h185)
                  refine zk_iload_n (pc := 200) X d_Y_perform_200 rfl (q := 5) rfl ?_
                  refine zk_bipush (pc := 201) X (v := 8) d_Y_perform_201 (by decide) ?_
                  refine zk_icmp_ne (pc := 203) X (tgt := 218) d_Y_perform_203 (by decide) (fun h203 => ?_) (fun h203 => ?_)
                  · have hq := hq.trans (if_neg h203)
                    refine zk_iload_n (pc := 218) X d_Y_perform_218 rfl (q := 5) rfl ?_
                    refine zk_bipush (pc := 219) X (v := 9) d_Y_perform_219 (by decide) ?_
                    refine zk_icmp_ne (pc := 221) X (tgt := 268) d_Y_perform_221 (by decide) (fun h221 => ?_) (fun h221 => ?_)
                    · have hq := hq.trans (if_neg h221)
                      refine zk_iload_n (pc := 268) X d_Y_perform_268 rfl (q := 5) rfl ?_
                      refine zk_bipush (pc := 269) X (v := 10) d_Y_perform_269 (by decide) ?_
                      refine zk_icmp_ne (pc := 271) X (tgt := 301) d_Y_perform_271 (by decide) (fun h271 => ?_) (fun h271 => ?_)
                      · have hq := hq.trans (if_neg h271)
                        refine zk_iload_n (pc := 301) X d_Y_perform_301 rfl (q := 5) rfl ?_
                        refine zk_bipush (pc := 302) X (v := 11) d_Y_perform_302 (by decide) ?_
                        refine zk_icmp_ne (pc := 304) X (tgt := 347) d_Y_perform_304 (by decide) (fun h304 => ?_) (fun h304 => ?_)
                        · have hq := hq.trans (if_neg h304)
                          refine zk_iload_n (pc := 347) X d_Y_perform_347 rfl (q := 5) rfl ?_
                          refine zk_bipush (pc := 348) X (v := 12) d_Y_perform_348 (by decide) ?_
                          refine zk_icmp_ne (pc := 350) X (tgt := 363) d_Y_perform_350 (by decide) (fun h350 => ?_) (fun h350 => ?_)
                          · have hq := hq.trans (if_neg h350)
                            exact zk_vret (pc := 363) X hQ hRt hLk ((upd gm (M + 4) ((gm (M + 4)) + 1)), gi, yw, gl, yl, yS, yt, ye) ⟨hq.symm, (show yl ≤ yl + 10 by omega), (show 0 < M → yl = yl by omega), (show yw ≤ 16 by omega)⟩ [0, 1, 2, 3, 4, 5, 6] rfl (by decide) d_Y_perform_363
                          · have hq := hq.trans (if_pos h350)
                            refine zk_aload_n (pc := 353) X d_Y_perform_353 rfl (q := 3) rfl ?_
                            refine zk_get (pc := 354) X (ci := 7) (v := .ref ym) in_Y 0 rfl rfl 6 (by decide) (zk_m tw_368) rfl d_Y_perform_354 ?_
                            refine zk_iload_n (pc := 357) X d_Y_perform_357 rfl (q := 4) rfl ?_
                            refine zk_bipush (pc := 358) X (v := 8) d_Y_perform_358 (by decide) ?_
                            refine zk_iadd (pc := 360) X (v := nI (M + 8)) d_Y_perform_360 (nI_add (M) (8)) ?_
                            refine zk_iconst (pc := 361) X (v := 1) d_Y_perform_361 rfl ?_
                            refine zk_iast (pc := 362) X 1 0 (ws' := [(hy, .inr (7, [.int ys, .int (nI yn), .ref yo, .ref yf, .ref yb, .int yg, .ref ym, .int yc, .int (nI yw), .ref yi, .int yq, .int (nI yl), .ref yL, .int ye, .int yt, .int yS, .int (nI yr), .int (nI ya), .ref yT, .ref yK, .ref yV])), (ym, .inl (cYm, 96, .inl (upd (upd gm (M + 4) ((gm (M + 4)) + 1)) (M + 8) 1))), (yi, .inl (cYi, 16, .inl gi)), (yL, .inl (cYL, 320, .inl gl)), (yT, .inl (cYT, 320, .inr (.inl gt))), (yK, .inl (cYK, 320, .inl gk)), (yV, .inl (cYV, 320, .inl gv))]) (M + 8) rfl rfl rfl (by omega) (by decide) d_Y_perform_362 rfl ?_
                            exact zk_vret (pc := 363) X hQ hRt hLk ((upd (upd gm (M + 4) ((gm (M + 4)) + 1)) (M + 8) 1), gi, yw, gl, yl, yS, yt, ye) ⟨hq.symm, (show yl ≤ yl + 10 by omega), (show 0 < M → yl = yl by omega), (show yw ≤ 16 by omega)⟩ [0, 1, 2, 3, 4, 5, 6] rfl (by decide) d_Y_perform_363
                        · have hq := hq.trans (if_pos h304)
                          refine zk_aload_n (pc := 307) X d_Y_perform_307 rfl (q := 3) rfl ?_
                          refine zk_get (pc := 308) X (ci := 7) (v := .ref ym) in_Y 0 rfl rfl 6 (by decide) (zk_m tw_368) rfl d_Y_perform_308 ?_
                          refine zk_iload_n (pc := 311) X d_Y_perform_311 rfl (q := 4) rfl ?_
                          refine zk_bipush (pc := 312) X (v := 7) d_Y_perform_312 (by decide) ?_
                          refine zk_iadd (pc := 314) X (v := nI (M + 7)) d_Y_perform_314 (nI_add (M) (7)) ?_
                          refine zk_iald (pc := 315) X 1 0 (M + 7) rfl rfl rfl (by omega) (by decide) d_Y_perform_315 ?_
                          refine zk_iconst (pc := 316) X (v := 1) d_Y_perform_316 rfl ?_
                          refine zk_icmp_ne (pc := 317) X (tgt := 347) d_Y_perform_317 (by decide) (fun h317 => ?_) (fun h317 => ?_)
                          · have hq := hq.trans (if_neg h317)
                            refine zk_iload_n (pc := 347) X d_Y_perform_347 rfl (q := 5) rfl ?_
                            refine zk_bipush (pc := 348) X (v := 12) d_Y_perform_348 (by decide) ?_
                            refine zk_icmp_ne (pc := 350) X (tgt := 363) d_Y_perform_350 (by decide) (fun _ => ?_) (fun g => absurd g (fun g => absurd (h304.symm.trans g) (by decide)))
                            exact zk_vret (pc := 363) X hQ hRt hLk ((upd gm (M + 4) ((gm (M + 4)) + 1)), gi, yw, gl, yl, yS, yt, ye) ⟨hq.symm, (show yl ≤ yl + 10 by omega), (show 0 < M → yl = yl by omega), (show yw ≤ 16 by omega)⟩ [0, 1, 2, 3, 4, 5, 6] rfl (by decide) d_Y_perform_363
                          · have hq := hq.trans (if_pos h317)
                            refine zk_aload_n (pc := 320) X d_Y_perform_320 rfl (q := 3) rfl ?_
                            refine zk_get (pc := 321) X (ci := 7) (v := .ref ym) in_Y 0 rfl rfl 6 (by decide) (zk_m tw_368) rfl d_Y_perform_321 ?_
                            refine zk_iload_n (pc := 324) X d_Y_perform_324 rfl (q := 4) rfl ?_
                            refine zk_iconst (pc := 325) X (v := 4) d_Y_perform_325 rfl ?_
                            refine zk_iadd (pc := 326) X (v := nI (M + 4)) d_Y_perform_326 (nI_add (M) (4)) ?_
                            refine zk_aload_n (pc := 327) X d_Y_perform_327 rfl (q := 3) rfl ?_
                            refine zk_get (pc := 328) X (ci := 7) (v := .ref ym) in_Y 0 rfl rfl 6 (by decide) (zk_m tw_368) rfl d_Y_perform_328 ?_
                            refine zk_iload_n (pc := 331) X d_Y_perform_331 rfl (q := 4) rfl ?_
                            refine zk_bipush (pc := 332) X (v := 10) d_Y_perform_332 (by decide) ?_
                            refine zk_iadd (pc := 334) X (v := nI (M + 10)) d_Y_perform_334 (nI_add (M) (10)) ?_
                            refine zk_iald (pc := 335) X 1 0 (M + 10) rfl rfl rfl (by omega) (by decide) d_Y_perform_335 ?_
                            refine zk_iast (pc := 336) X 1 0 (ws' := [(hy, .inr (7, [.int ys, .int (nI yn), .ref yo, .ref yf, .ref yb, .int yg, .ref ym, .int yc, .int (nI yw), .ref yi, .int yq, .int (nI yl), .ref yL, .int ye, .int yt, .int yS, .int (nI yr), .int (nI ya), .ref yT, .ref yK, .ref yV])), (ym, .inl (cYm, 96, .inl (upd (upd gm (M + 4) ((gm (M + 4)) + 1)) (M + 4) ((upd gm (M + 4) ((gm (M + 4)) + 1)) (M + 10))))), (yi, .inl (cYi, 16, .inl gi)), (yL, .inl (cYL, 320, .inl gl)), (yT, .inl (cYT, 320, .inr (.inl gt))), (yK, .inl (cYK, 320, .inl gk)), (yV, .inl (cYV, 320, .inl gv))]) (M + 4) rfl rfl rfl (by omega) (by decide) d_Y_perform_336 rfl ?_
                            refine zk_aload_n (pc := 337) X d_Y_perform_337 rfl (q := 3) rfl ?_
                            refine zk_get (pc := 338) X (ci := 7) (v := .ref ym) in_Y 0 rfl rfl 6 (by decide) (zk_m tw_368) rfl d_Y_perform_338 ?_
                            refine zk_iload_n (pc := 341) X d_Y_perform_341 rfl (q := 4) rfl ?_
                            refine zk_bipush (pc := 342) X (v := 7) d_Y_perform_342 (by decide) ?_
                            refine zk_iadd (pc := 344) X (v := nI (M + 7)) d_Y_perform_344 (nI_add (M) (7)) ?_
                            refine zk_iconst (pc := 345) X (v := 0) d_Y_perform_345 rfl ?_
                            refine zk_iast (pc := 346) X 1 0 (ws' := [(hy, .inr (7, [.int ys, .int (nI yn), .ref yo, .ref yf, .ref yb, .int yg, .ref ym, .int yc, .int (nI yw), .ref yi, .int yq, .int (nI yl), .ref yL, .int ye, .int yt, .int yS, .int (nI yr), .int (nI ya), .ref yT, .ref yK, .ref yV])), (ym, .inl (cYm, 96, .inl (upd (upd (upd gm (M + 4) ((gm (M + 4)) + 1)) (M + 4) ((upd gm (M + 4) ((gm (M + 4)) + 1)) (M + 10))) (M + 7) 0))), (yi, .inl (cYi, 16, .inl gi)), (yL, .inl (cYL, 320, .inl gl)), (yT, .inl (cYT, 320, .inr (.inl gt))), (yK, .inl (cYK, 320, .inl gk)), (yV, .inl (cYV, 320, .inl gv))]) (M + 7) rfl rfl rfl (by omega) (by decide) d_Y_perform_346 rfl ?_
                            refine zk_iload_n (pc := 347) X d_Y_perform_347 rfl (q := 5) rfl ?_
                            refine zk_bipush (pc := 348) X (v := 12) d_Y_perform_348 (by decide) ?_
                            refine zk_icmp_ne (pc := 350) X (tgt := 363) d_Y_perform_350 (by decide) (fun _ => ?_) (fun g => absurd g (fun g => absurd (h304.symm.trans g) (by decide)))
                            exact zk_vret (pc := 363) X hQ hRt hLk ((upd (upd (upd gm (M + 4) ((gm (M + 4)) + 1)) (M + 4) ((upd gm (M + 4) ((gm (M + 4)) + 1)) (M + 10))) (M + 7) 0), gi, yw, gl, yl, yS, yt, ye) ⟨hq.symm, (show yl ≤ yl + 10 by omega), (show 0 < M → yl = yl by omega), (show yw ≤ 16 by omega)⟩ [0, 1, 2, 3, 4, 5, 6] rfl (by decide) d_Y_perform_363
                      · have hq := hq.trans (if_pos h271)
                        refine zk_aload_n (pc := 274) X d_Y_perform_274 rfl (q := 3) rfl ?_
                        refine zk_get (pc := 275) X (ci := 7) (v := .ref ym) in_Y 0 rfl rfl 6 (by decide) (zk_m tw_368) rfl d_Y_perform_275 ?_
                        refine zk_iload_n (pc := 278) X d_Y_perform_278 rfl (q := 4) rfl ?_
                        refine zk_iconst (pc := 279) X (v := 5) d_Y_perform_279 rfl ?_
                        refine zk_iadd (pc := 280) X (v := nI (M + 5)) d_Y_perform_280 (nI_add (M) (5)) ?_
                        refine zk_aload_n (pc := 281) X d_Y_perform_281 rfl (q := 3) rfl ?_
                        refine zk_get (pc := 282) X (ci := 7) (v := .ref ym) in_Y 0 rfl rfl 6 (by decide) (zk_m tw_368) rfl d_Y_perform_282 ?_
                        refine zk_iload_n (pc := 285) X d_Y_perform_285 rfl (q := 4) rfl ?_
                        refine zk_iconst (pc := 286) X (v := 5) d_Y_perform_286 rfl ?_
                        refine zk_iadd (pc := 287) X (v := nI (M + 5)) d_Y_perform_287 (nI_add (M) (5)) ?_
                        refine zk_iald (pc := 288) X 1 0 (M + 5) rfl rfl rfl (by omega) (by decide) d_Y_perform_288 ?_
                        refine zk_aload_n (pc := 289) X d_Y_perform_289 rfl (q := 3) rfl ?_
                        refine zk_get (pc := 290) X (ci := 7) (v := .ref ym) in_Y 0 rfl rfl 6 (by decide) (zk_m tw_368) rfl d_Y_perform_290 ?_
                        refine zk_iload (pc := 293) X d_Y_perform_293 (q := 2) rfl ?_
                        refine zk_iald (pc := 295) X 1 0 (M + ((zk_ix3 a))) rfl rfl rfl (by omega) (by decide) d_Y_perform_295 ?_
                        refine zk_ixor (pc := 296) X (v := (((upd gm (M + 4) ((gm (M + 4)) + 1)) (M + 5)) ^^^ ((upd gm (M + 4) ((gm (M + 4)) + 1)) (M + ((zk_ix3 a)))))) d_Y_perform_296 rfl ?_
                        refine zk_ldc (pc := 297) X (v := 16777619) d_Y_perform_297 (zk_m tw_459) ?_
                        refine zk_imul (pc := 299) X (v := ((((upd gm (M + 4) ((gm (M + 4)) + 1)) (M + 5)) ^^^ ((upd gm (M + 4) ((gm (M + 4)) + 1)) (M + ((zk_ix3 a))))) * 16777619)) d_Y_perform_299 rfl ?_
                        refine zk_iast (pc := 300) X 1 0 (ws' := [(hy, .inr (7, [.int ys, .int (nI yn), .ref yo, .ref yf, .ref yb, .int yg, .ref ym, .int yc, .int (nI yw), .ref yi, .int yq, .int (nI yl), .ref yL, .int ye, .int yt, .int yS, .int (nI yr), .int (nI ya), .ref yT, .ref yK, .ref yV])), (ym, .inl (cYm, 96, .inl (upd (upd gm (M + 4) ((gm (M + 4)) + 1)) (M + 5) ((((upd gm (M + 4) ((gm (M + 4)) + 1)) (M + 5)) ^^^ ((upd gm (M + 4) ((gm (M + 4)) + 1)) (M + ((zk_ix3 a))))) * 16777619)))), (yi, .inl (cYi, 16, .inl gi)), (yL, .inl (cYL, 320, .inl gl)), (yT, .inl (cYT, 320, .inr (.inl gt))), (yK, .inl (cYK, 320, .inl gk)), (yV, .inl (cYV, 320, .inl gv))]) (M + 5) rfl rfl rfl (by omega) (by decide) d_Y_perform_300 rfl ?_
                        refine zk_iload_n (pc := 301) X d_Y_perform_301 rfl (q := 5) rfl ?_
                        refine zk_bipush (pc := 302) X (v := 11) d_Y_perform_302 (by decide) ?_
                        refine zk_icmp_ne (pc := 304) X (tgt := 347) d_Y_perform_304 (by decide) (fun _ => ?_) (fun g => absurd g (fun g => absurd (h271.symm.trans g) (by decide)))
                        refine zk_iload_n (pc := 347) X d_Y_perform_347 rfl (q := 5) rfl ?_
                        refine zk_bipush (pc := 348) X (v := 12) d_Y_perform_348 (by decide) ?_
                        refine zk_icmp_ne (pc := 350) X (tgt := 363) d_Y_perform_350 (by decide) (fun _ => ?_) (fun g => absurd g (fun g => absurd (h271.symm.trans g) (by decide)))
                        exact zk_vret (pc := 363) X hQ hRt hLk ((upd (upd gm (M + 4) ((gm (M + 4)) + 1)) (M + 5) ((((upd gm (M + 4) ((gm (M + 4)) + 1)) (M + 5)) ^^^ ((upd gm (M + 4) ((gm (M + 4)) + 1)) (M + ((zk_ix3 a))))) * 16777619)), gi, yw, gl, yl, yS, yt, ye) ⟨hq.symm, (show yl ≤ yl + 10 by omega), (show 0 < M → yl = yl by omega), (show yw ≤ 16 by omega)⟩ [0, 1, 2, 3, 4, 5, 6] rfl (by decide) d_Y_perform_363
                    · have hq := hq.trans (if_pos h221)
                      refine zk_aload_n (pc := 224) X d_Y_perform_224 rfl (q := 3) rfl ?_
                      refine zk_get (pc := 225) X (ci := 7) (v := .ref ym) in_Y 0 rfl rfl 6 (by decide) (zk_m tw_368) rfl d_Y_perform_225 ?_
                      refine zk_iload_n (pc := 228) X d_Y_perform_228 rfl (q := 4) rfl ?_
                      refine zk_bipush (pc := 229) X (v := 11) d_Y_perform_229 (by decide) ?_
                      refine zk_iadd (pc := 231) X (v := nI (M + 11)) d_Y_perform_231 (nI_add (M) (11)) ?_
                      refine zk_aload_n (pc := 232) X d_Y_perform_232 rfl (q := 3) rfl ?_
                      refine zk_get (pc := 233) X (ci := 7) (v := .ref ym) in_Y 0 rfl rfl 6 (by decide) (zk_m tw_368) rfl d_Y_perform_233 ?_
                      refine zk_iload_n (pc := 236) X d_Y_perform_236 rfl (q := 4) rfl ?_
                      refine zk_bipush (pc := 237) X (v := 11) d_Y_perform_237 (by decide) ?_
                      refine zk_iadd (pc := 239) X (v := nI (M + 11)) d_Y_perform_239 (nI_add (M) (11)) ?_
                      refine zk_iald (pc := 240) X 1 0 (M + 11) rfl rfl rfl (by omega) (by decide) d_Y_perform_240 ?_
                      refine zk_ldc (pc := 241) X (v := 1103515245) d_Y_perform_241 (zk_m tw_474) ?_
                      refine zk_imul (pc := 243) X (v := (((upd gm (M + 4) ((gm (M + 4)) + 1)) (M + 11)) * 1103515245)) d_Y_perform_243 rfl ?_
                      refine zk_sipush (pc := 244) X (v := 12345) d_Y_perform_244 (by decide) ?_
                      refine zk_iadd (pc := 247) X (v := ((((upd gm (M + 4) ((gm (M + 4)) + 1)) (M + 11)) * 1103515245) + 12345)) d_Y_perform_247 rfl ?_
                      refine zk_iast (pc := 248) X 1 0 (ws' := [(hy, .inr (7, [.int ys, .int (nI yn), .ref yo, .ref yf, .ref yb, .int yg, .ref ym, .int yc, .int (nI yw), .ref yi, .int yq, .int (nI yl), .ref yL, .int ye, .int yt, .int yS, .int (nI yr), .int (nI ya), .ref yT, .ref yK, .ref yV])), (ym, .inl (cYm, 96, .inl (upd (upd gm (M + 4) ((gm (M + 4)) + 1)) (M + 11) ((((upd gm (M + 4) ((gm (M + 4)) + 1)) (M + 11)) * 1103515245) + 12345)))), (yi, .inl (cYi, 16, .inl gi)), (yL, .inl (cYL, 320, .inl gl)), (yT, .inl (cYT, 320, .inr (.inl gt))), (yK, .inl (cYK, 320, .inl gk)), (yV, .inl (cYV, 320, .inl gv))]) (M + 11) rfl rfl rfl (by omega) (by decide) d_Y_perform_248 rfl ?_
                      refine zk_aload_n (pc := 249) X d_Y_perform_249 rfl (q := 3) rfl ?_
                      refine zk_get (pc := 250) X (ci := 7) (v := .ref ym) in_Y 0 rfl rfl 6 (by decide) (zk_m tw_368) rfl d_Y_perform_250 ?_
                      refine zk_iload (pc := 253) X d_Y_perform_253 (q := 2) rfl ?_
                      refine zk_aload_n (pc := 255) X d_Y_perform_255 rfl (q := 3) rfl ?_
                      refine zk_get (pc := 256) X (ci := 7) (v := .ref ym) in_Y 0 rfl rfl 6 (by decide) (zk_m tw_368) rfl d_Y_perform_256 ?_
                      refine zk_iload_n (pc := 259) X d_Y_perform_259 rfl (q := 4) rfl ?_
                      refine zk_bipush (pc := 260) X (v := 11) d_Y_perform_260 (by decide) ?_
                      refine zk_iadd (pc := 262) X (v := nI (M + 11)) d_Y_perform_262 (nI_add (M) (11)) ?_
                      refine zk_iald (pc := 263) X 1 0 (M + 11) rfl rfl rfl (by omega) (by decide) d_Y_perform_263 ?_
                      refine zk_bipush (pc := 264) X (v := 16) d_Y_perform_264 (by decide) ?_
                      refine zk_iushr (pc := 266) X (v := (zf_ushr ((upd (upd gm (M + 4) ((gm (M + 4)) + 1)) (M + 11) ((((upd gm (M + 4) ((gm (M + 4)) + 1)) (M + 11)) * 1103515245) + 12345)) (M + 11)) 16)) d_Y_perform_266 rfl ?_
                      refine zk_iast (pc := 267) X 1 0 (ws' := [(hy, .inr (7, [.int ys, .int (nI yn), .ref yo, .ref yf, .ref yb, .int yg, .ref ym, .int yc, .int (nI yw), .ref yi, .int yq, .int (nI yl), .ref yL, .int ye, .int yt, .int yS, .int (nI yr), .int (nI ya), .ref yT, .ref yK, .ref yV])), (ym, .inl (cYm, 96, .inl (upd (upd (upd gm (M + 4) ((gm (M + 4)) + 1)) (M + 11) ((((upd gm (M + 4) ((gm (M + 4)) + 1)) (M + 11)) * 1103515245) + 12345)) (M + ((zk_ix3 a))) (zf_ushr ((upd (upd gm (M + 4) ((gm (M + 4)) + 1)) (M + 11) ((((upd gm (M + 4) ((gm (M + 4)) + 1)) (M + 11)) * 1103515245) + 12345)) (M + 11)) 16)))), (yi, .inl (cYi, 16, .inl gi)), (yL, .inl (cYL, 320, .inl gl)), (yT, .inl (cYT, 320, .inr (.inl gt))), (yK, .inl (cYK, 320, .inl gk)), (yV, .inl (cYV, 320, .inl gv))]) (M + ((zk_ix3 a))) rfl rfl rfl (by omega) (by decide) d_Y_perform_267 rfl ?_
                      refine zk_iload_n (pc := 268) X d_Y_perform_268 rfl (q := 5) rfl ?_
                      refine zk_bipush (pc := 269) X (v := 10) d_Y_perform_269 (by decide) ?_
                      refine zk_icmp_ne (pc := 271) X (tgt := 301) d_Y_perform_271 (by decide) (fun _ => ?_) (fun g => absurd g (fun g => absurd (h221.symm.trans g) (by decide)))
                      refine zk_iload_n (pc := 301) X d_Y_perform_301 rfl (q := 5) rfl ?_
                      refine zk_bipush (pc := 302) X (v := 11) d_Y_perform_302 (by decide) ?_
                      refine zk_icmp_ne (pc := 304) X (tgt := 347) d_Y_perform_304 (by decide) (fun _ => ?_) (fun g => absurd g (fun g => absurd (h221.symm.trans g) (by decide)))
                      refine zk_iload_n (pc := 347) X d_Y_perform_347 rfl (q := 5) rfl ?_
                      refine zk_bipush (pc := 348) X (v := 12) d_Y_perform_348 (by decide) ?_
                      refine zk_icmp_ne (pc := 350) X (tgt := 363) d_Y_perform_350 (by decide) (fun _ => ?_) (fun g => absurd g (fun g => absurd (h221.symm.trans g) (by decide)))
                      exact zk_vret (pc := 363) X hQ hRt hLk ((upd (upd (upd gm (M + 4) ((gm (M + 4)) + 1)) (M + 11) ((((upd gm (M + 4) ((gm (M + 4)) + 1)) (M + 11)) * 1103515245) + 12345)) (M + ((zk_ix3 a))) (zf_ushr ((upd (upd gm (M + 4) ((gm (M + 4)) + 1)) (M + 11) ((((upd gm (M + 4) ((gm (M + 4)) + 1)) (M + 11)) * 1103515245) + 12345)) (M + 11)) 16)), gi, yw, gl, yl, yS, yt, ye) ⟨hq.symm, (show yl ≤ yl + 10 by omega), (show 0 < M → yl = yl by omega), (show yw ≤ 16 by omega)⟩ [0, 1, 2, 3, 4, 5, 6] rfl (by decide) d_Y_perform_363
                  · have hq := hq.trans (if_pos h203)
                    refine zk_aload_n (pc := 206) X d_Y_perform_206 rfl (q := 3) rfl ?_
                    refine zk_get (pc := 207) X (ci := 7) (v := .ref ym) in_Y 0 rfl rfl 6 (by decide) (zk_m tw_368) rfl d_Y_perform_207 ?_
                    refine zk_iload (pc := 210) X d_Y_perform_210 (q := 2) rfl ?_
                    refine zk_aload_n (pc := 212) X d_Y_perform_212 rfl (q := 3) rfl ?_
                    refine zk_iload_n (pc := 213) X d_Y_perform_213 rfl (q := 4) rfl ?_
                    refine zk_calli (pc := 214) X (wc := [(hy, .inr (7, [.int ys, .int (nI yn), .ref yo, .ref yf, .ref yb, .int yg, .ref ym, .int yc, .int (nI yw), .ref yi, .int yq, .int (nI yl), .ref yL, .int ye, .int yt, .int yS, .int (nI yr), .int (nI ya), .ref yT, .ref yK, .ref yV])), (ym, .inl (cYm, 96, .inl (upd gm (M + 4) ((gm (M + 4)) + 1)))), (yL, .inl (cYL, 320, .inl gl)), (yT, .inl (cYT, 320, .inr (.inl gt))), (yK, .inl (cYK, 320, .inl gk)), (yV, .inl (cYV, 320, .inl gv))]) (wr := [(yi, .inl (cYi, 16, .inl gi))]) [0, 1, 3, 4, 5, 6] [2] rfl rfl (by decide) (by decide) (by decide) (zk_runV X (C := R_Y) (tysC := [(cYm, .int), (cYL, .int), (cYT, .long), (cYK, .int), (cYV, .int)]) (As := [.int (nI M)]) (rest := [.int (nI (M + ((zk_ix3 a)))), .ref ym]) (c_Y_timeFor l dC dI hy yo yf yb ym yi yL yT yK yV cYm cYL cYT cYK cYV M (upd gm (M + 4) ((gm (M + 4)) + 1)) gl gt gk gv ys yn yg yc yw yq yl ye yt yS yr ya (by omega) (by omega) (by omega)) [0, 2, 3, 4, 5] rfl (ci := 7) rfl 0 rfl (zk_cwV 1 X.1.2.2.2.2 (zk_goodT tw_473) rfl rfl rfl (zk_m tw_471) (zk_m tw_472) (zk_m tw_541) (zk_m tw_9) rfl (by decide +kernel) ⟨Nat.le_of_ble_eq_true rfl, Nat.le_of_ble_eq_true rfl⟩) rfl rfl (Nat.le_of_ble_eq_true rfl) ⟨Nat.zero_le _, Nat.zero_le _⟩ d_Y_perform_214) ?_
                    rintro r214 ⟨gm_214, gl_214, yl_214, yS_214, yt_214, ye_214⟩ ⟨w214, f214_0, f214_1⟩
                    have f214_0 : yl_214 ≤ yl + 10 := f214_0
                    have f214_1 : 0 < M → yl_214 = yl := f214_1
                    refine zk_ws (ws' := [(yi, .inl (cYi, 16, .inl gi)), (hy, .inr (7, [.int ys, .int (nI yn), .ref yo, .ref yf, .ref yb, .int yg, .ref ym, .int yc, .int (nI yw), .ref yi, .int yq, .int (nI yl_214), .ref yL, .int ye_214, .int yt_214, .int yS_214, .int (nI yr), .int (nI ya), .ref yT, .ref yK, .ref yV])), (ym, .inl (cYm, 96, .inl gm_214)), (yL, .inl (cYL, 320, .inl gl_214)), (yT, .inl (cYT, 320, .inr (.inl gt))), (yK, .inl (cYK, 320, .inl gk)), (yV, .inl (cYV, 320, .inl gv))]) rfl ?_
                    try dsimp only at w214
                    rw [← w214] at hq
                    try dsimp only at hq
                    refine zk_iast (pc := 217) X 2 0 (ws' := [(yi, .inl (cYi, 16, .inl gi)), (hy, .inr (7, [.int ys, .int (nI yn), .ref yo, .ref yf, .ref yb, .int yg, .ref ym, .int yc, .int (nI yw), .ref yi, .int yq, .int (nI yl_214), .ref yL, .int ye_214, .int yt_214, .int yS_214, .int (nI yr), .int (nI ya), .ref yT, .ref yK, .ref yV])), (ym, .inl (cYm, 96, .inl (upd gm_214 (M + ((zk_ix3 a))) r214))), (yL, .inl (cYL, 320, .inl gl_214)), (yT, .inl (cYT, 320, .inr (.inl gt))), (yK, .inl (cYK, 320, .inl gk)), (yV, .inl (cYV, 320, .inl gv))]) (M + ((zk_ix3 a))) rfl rfl rfl (by omega) (by decide) d_Y_perform_217 rfl ?_
                    refine zk_iload_n (pc := 218) X d_Y_perform_218 rfl (q := 5) rfl ?_
                    refine zk_bipush (pc := 219) X (v := 9) d_Y_perform_219 (by decide) ?_
                    refine zk_icmp_ne (pc := 221) X (tgt := 268) d_Y_perform_221 (by decide) (fun _ => ?_) (fun g => absurd g (fun g => absurd (h203.symm.trans g) (by decide)))
                    refine zk_iload_n (pc := 268) X d_Y_perform_268 rfl (q := 5) rfl ?_
                    refine zk_bipush (pc := 269) X (v := 10) d_Y_perform_269 (by decide) ?_
                    refine zk_icmp_ne (pc := 271) X (tgt := 301) d_Y_perform_271 (by decide) (fun _ => ?_) (fun g => absurd g (fun g => absurd (h203.symm.trans g) (by decide)))
                    refine zk_iload_n (pc := 301) X d_Y_perform_301 rfl (q := 5) rfl ?_
                    refine zk_bipush (pc := 302) X (v := 11) d_Y_perform_302 (by decide) ?_
                    refine zk_icmp_ne (pc := 304) X (tgt := 347) d_Y_perform_304 (by decide) (fun _ => ?_) (fun g => absurd g (fun g => absurd (h203.symm.trans g) (by decide)))
                    refine zk_iload_n (pc := 347) X d_Y_perform_347 rfl (q := 5) rfl ?_
                    refine zk_bipush (pc := 348) X (v := 12) d_Y_perform_348 (by decide) ?_
                    refine zk_icmp_ne (pc := 350) X (tgt := 363) d_Y_perform_350 (by decide) (fun _ => ?_) (fun g => absurd g (fun g => absurd (h203.symm.trans g) (by decide)))
                    exact zk_vret (pc := 363) X hQ hRt hLk ((upd gm_214 (M + ((zk_ix3 a))) r214), gi, yw, gl_214, yl_214, yS_214, yt_214, ye_214) ⟨hq.symm, (show yl_214 ≤ yl + 10 by omega), (show 0 < M → yl_214 = yl by omega), (show yw ≤ 16 by omega)⟩ [1, 2, 0, 3, 4, 5, 6] rfl (by decide) d_Y_perform_363
                · have hq := hq.trans (if_pos h185)
                  refine zk_aload_n (pc := 188) X d_Y_perform_188 rfl (q := 3) rfl ?_
                  refine zk_get (pc := 189) X (ci := 7) (v := .ref ym) in_Y 0 rfl rfl 6 (by decide) (zk_m tw_368) rfl d_Y_perform_189 ?_
                  refine zk_iload (pc := 192) X d_Y_perform_192 (q := 2) rfl ?_
                  refine zk_aload_n (pc := 194) X d_Y_perform_194 rfl (q := 3) rfl ?_
                  refine zk_iload_n (pc := 195) X d_Y_perform_195 rfl (q := 4) rfl ?_
                  refine zk_calli (pc := 196) X (wc := [(hy, .inr (7, [.int ys, .int (nI yn), .ref yo, .ref yf, .ref yb, .int yg, .ref ym, .int yc, .int (nI yw), .ref yi, .int yq, .int (nI yl), .ref yL, .int ye, .int yt, .int yS, .int (nI yr), .int (nI ya), .ref yT, .ref yK, .ref yV])), (ym, .inl (cYm, 96, .inl (upd gm (M + 4) ((gm (M + 4)) + 1)))), (yi, .inl (cYi, 16, .inl gi)), (yL, .inl (cYL, 320, .inl gl)), (yT, .inl (cYT, 320, .inr (.inl gt))), (yK, .inl (cYK, 320, .inl gk)), (yV, .inl (cYV, 320, .inl gv))]) (wr := []) [0, 1, 2, 3, 4, 5, 6] [] rfl rfl (by decide) (by decide) (by decide) (zk_runV X (C := R_Y) (tysC := [(cYm, .int), (cYi, .int), (cYL, .int), (cYT, .long), (cYK, .int), (cYV, .int)]) (As := [.int (nI M)]) (rest := [.int (nI (M + ((zk_ix3 a)))), .ref ym]) (c_Y_inputFor l dC dI hy yo yf yb ym yi yL yT yK yV cYm cYi cYL cYT cYK cYV M (upd gm (M + 4) ((gm (M + 4)) + 1)) gi gl gt gk gv ys yn yg yc yw yq yl ye yt yS yr ya (by omega) (by omega) (by omega) (by omega)) [0, 1, 2, 3, 4, 5] rfl (ci := 7) rfl 0 rfl (zk_cwV 1 X.1.2.2.2.2 (zk_goodT tw_468) rfl rfl rfl (zk_m tw_466) (zk_m tw_467) (zk_m tw_540) (zk_m tw_9) rfl (by decide +kernel) ⟨Nat.le_of_ble_eq_true rfl, Nat.le_of_ble_eq_true rfl⟩) rfl rfl (Nat.le_of_ble_eq_true rfl) ⟨Nat.zero_le _, Nat.zero_le _⟩ d_Y_perform_196) ?_
                  rintro r196 ⟨gi_196, yw_196, gl_196, yl_196, yS_196, yt_196, ye_196⟩ ⟨w196, f196_0, f196_1, f196_2⟩
                  have f196_0 : yl_196 ≤ yl + 10 := f196_0
                  have f196_1 : 0 < M → yl_196 = yl := f196_1
                  have f196_2 : yw_196 ≤ 16 := f196_2
                  refine zk_ws (ws' := [(hy, .inr (7, [.int ys, .int (nI yn), .ref yo, .ref yf, .ref yb, .int yg, .ref ym, .int yc, .int (nI yw_196), .ref yi, .int yq, .int (nI yl_196), .ref yL, .int ye_196, .int yt_196, .int yS_196, .int (nI yr), .int (nI ya), .ref yT, .ref yK, .ref yV])), (ym, .inl (cYm, 96, .inl (upd gm (M + 4) ((gm (M + 4)) + 1)))), (yi, .inl (cYi, 16, .inl gi_196)), (yL, .inl (cYL, 320, .inl gl_196)), (yT, .inl (cYT, 320, .inr (.inl gt))), (yK, .inl (cYK, 320, .inl gk)), (yV, .inl (cYV, 320, .inl gv))]) rfl ?_
                  try dsimp only at w196
                  rw [← w196] at hq
                  try dsimp only at hq
                  refine zk_iast (pc := 199) X 1 0 (ws' := [(hy, .inr (7, [.int ys, .int (nI yn), .ref yo, .ref yf, .ref yb, .int yg, .ref ym, .int yc, .int (nI yw_196), .ref yi, .int yq, .int (nI yl_196), .ref yL, .int ye_196, .int yt_196, .int yS_196, .int (nI yr), .int (nI ya), .ref yT, .ref yK, .ref yV])), (ym, .inl (cYm, 96, .inl (upd (upd gm (M + 4) ((gm (M + 4)) + 1)) (M + ((zk_ix3 a))) r196))), (yi, .inl (cYi, 16, .inl gi_196)), (yL, .inl (cYL, 320, .inl gl_196)), (yT, .inl (cYT, 320, .inr (.inl gt))), (yK, .inl (cYK, 320, .inl gk)), (yV, .inl (cYV, 320, .inl gv))]) (M + ((zk_ix3 a))) rfl rfl rfl (by omega) (by decide) d_Y_perform_199 rfl ?_
                  refine zk_iload_n (pc := 200) X d_Y_perform_200 rfl (q := 5) rfl ?_
                  refine zk_bipush (pc := 201) X (v := 8) d_Y_perform_201 (by decide) ?_
                  refine zk_icmp_ne (pc := 203) X (tgt := 218) d_Y_perform_203 (by decide) (fun _ => ?_) (fun g => absurd g (fun g => absurd (h185.symm.trans g) (by decide)))
                  refine zk_iload_n (pc := 218) X d_Y_perform_218 rfl (q := 5) rfl ?_
                  refine zk_bipush (pc := 219) X (v := 9) d_Y_perform_219 (by decide) ?_
                  refine zk_icmp_ne (pc := 221) X (tgt := 268) d_Y_perform_221 (by decide) (fun _ => ?_) (fun g => absurd g (fun g => absurd (h185.symm.trans g) (by decide)))
                  refine zk_iload_n (pc := 268) X d_Y_perform_268 rfl (q := 5) rfl ?_
                  refine zk_bipush (pc := 269) X (v := 10) d_Y_perform_269 (by decide) ?_
                  refine zk_icmp_ne (pc := 271) X (tgt := 301) d_Y_perform_271 (by decide) (fun _ => ?_) (fun g => absurd g (fun g => absurd (h185.symm.trans g) (by decide)))
                  refine zk_iload_n (pc := 301) X d_Y_perform_301 rfl (q := 5) rfl ?_
                  refine zk_bipush (pc := 302) X (v := 11) d_Y_perform_302 (by decide) ?_
                  refine zk_icmp_ne (pc := 304) X (tgt := 347) d_Y_perform_304 (by decide) (fun _ => ?_) (fun g => absurd g (fun g => absurd (h185.symm.trans g) (by decide)))
                  refine zk_iload_n (pc := 347) X d_Y_perform_347 rfl (q := 5) rfl ?_
                  refine zk_bipush (pc := 348) X (v := 12) d_Y_perform_348 (by decide) ?_
                  refine zk_icmp_ne (pc := 350) X (tgt := 363) d_Y_perform_350 (by decide) (fun _ => ?_) (fun g => absurd g (fun g => absurd (h185.symm.trans g) (by decide)))
                  exact zk_vret (pc := 363) X hQ hRt hLk ((upd (upd gm (M + 4) ((gm (M + 4)) + 1)) (M + ((zk_ix3 a))) r196), gi_196, yw_196, gl_196, yl_196, yS_196, yt_196, ye_196) ⟨hq.symm, (show yl_196 ≤ yl + 10 by omega), (show 0 < M → yl_196 = yl by omega), (show yw_196 ≤ 16 by omega)⟩ [0, 1, 2, 3, 4, 5, 6] rfl (by decide) d_Y_perform_363
              · have hq := hq.trans (if_pos h159)
                refine zk_aload_n (pc := 162) X d_Y_perform_162 rfl (q := 3) rfl ?_
                refine zk_get (pc := 163) X (ci := 7) (v := .ref ym) in_Y 0 rfl rfl 6 (by decide) (zk_m tw_368) rfl d_Y_perform_163 ?_
                refine zk_iload (pc := 166) X d_Y_perform_166 (q := 2) rfl ?_
                refine zk_iald (pc := 168) X 1 0 (M + ((zk_ix3 a))) rfl rfl rfl (by omega) (by decide) d_Y_perform_168 ?_
                refine zk_if_ne (pc := 169) X (tgt := 182) d_Y_perform_169 (by decide) (fun h169 => ?_) (fun h169 => ?_)
                · have hq := hq.trans (if_neg h169)
                  refine zk_iload_n (pc := 182) X d_Y_perform_182 rfl (q := 5) rfl ?_
                  refine zk_bipush (pc := 183) X (v := 7) d_Y_perform_183 (by decide) ?_
                  refine zk_icmp_ne (pc := 185) X (tgt := 200) d_Y_perform_185 (by decide) (fun _ => ?_) (fun g => absurd g (fun g => absurd (h159.symm.trans g) (by decide)))
                  refine zk_iload_n (pc := 200) X d_Y_perform_200 rfl (q := 5) rfl ?_
                  refine zk_bipush (pc := 201) X (v := 8) d_Y_perform_201 (by decide) ?_
                  refine zk_icmp_ne (pc := 203) X (tgt := 218) d_Y_perform_203 (by decide) (fun _ => ?_) (fun g => absurd g (fun g => absurd (h159.symm.trans g) (by decide)))
                  refine zk_iload_n (pc := 218) X d_Y_perform_218 rfl (q := 5) rfl ?_
                  refine zk_bipush (pc := 219) X (v := 9) d_Y_perform_219 (by decide) ?_
                  refine zk_icmp_ne (pc := 221) X (tgt := 268) d_Y_perform_221 (by decide) (fun _ => ?_) (fun g => absurd g (fun g => absurd (h159.symm.trans g) (by decide)))
                  refine zk_iload_n (pc := 268) X d_Y_perform_268 rfl (q := 5) rfl ?_
                  refine zk_bipush (pc := 269) X (v := 10) d_Y_perform_269 (by decide) ?_
                  refine zk_icmp_ne (pc := 271) X (tgt := 301) d_Y_perform_271 (by decide) (fun _ => ?_) (fun g => absurd g (fun g => absurd (h159.symm.trans g) (by decide)))
                  refine zk_iload_n (pc := 301) X d_Y_perform_301 rfl (q := 5) rfl ?_
                  refine zk_bipush (pc := 302) X (v := 11) d_Y_perform_302 (by decide) ?_
                  refine zk_icmp_ne (pc := 304) X (tgt := 347) d_Y_perform_304 (by decide) (fun _ => ?_) (fun g => absurd g (fun g => absurd (h159.symm.trans g) (by decide)))
                  refine zk_iload_n (pc := 347) X d_Y_perform_347 rfl (q := 5) rfl ?_
                  refine zk_bipush (pc := 348) X (v := 12) d_Y_perform_348 (by decide) ?_
                  refine zk_icmp_ne (pc := 350) X (tgt := 363) d_Y_perform_350 (by decide) (fun _ => ?_) (fun g => absurd g (fun g => absurd (h159.symm.trans g) (by decide)))
                  exact zk_vret (pc := 363) X hQ hRt hLk ((upd gm (M + 4) ((gm (M + 4)) + 1)), gi, yw, gl, yl, yS, yt, ye) ⟨hq.symm, (show yl ≤ yl + 10 by omega), (show 0 < M → yl = yl by omega), (show yw ≤ 16 by omega)⟩ [0, 1, 2, 3, 4, 5, 6] rfl (by decide) d_Y_perform_363
                · have hq := hq.trans (if_pos h169)
                  refine zk_aload_n (pc := 172) X d_Y_perform_172 rfl (q := 3) rfl ?_
                  refine zk_get (pc := 173) X (ci := 7) (v := .ref ym) in_Y 0 rfl rfl 6 (by decide) (zk_m tw_368) rfl d_Y_perform_173 ?_
                  refine zk_iload_n (pc := 176) X d_Y_perform_176 rfl (q := 4) rfl ?_
                  refine zk_iconst (pc := 177) X (v := 4) d_Y_perform_177 rfl ?_
                  refine zk_iadd (pc := 178) X (v := nI (M + 4)) d_Y_perform_178 (nI_add (M) (4)) ?_
                  refine zk_iload (pc := 179) X d_Y_perform_179 (q := 7) rfl ?_
                  refine zk_iast (pc := 181) X 1 0 (ws' := [(hy, .inr (7, [.int ys, .int (nI yn), .ref yo, .ref yf, .ref yb, .int yg, .ref ym, .int yc, .int (nI yw), .ref yi, .int yq, .int (nI yl), .ref yL, .int ye, .int yt, .int yS, .int (nI yr), .int (nI ya), .ref yT, .ref yK, .ref yV])), (ym, .inl (cYm, 96, .inl (upd (upd gm (M + 4) ((gm (M + 4)) + 1)) (M + 4) b))), (yi, .inl (cYi, 16, .inl gi)), (yL, .inl (cYL, 320, .inl gl)), (yT, .inl (cYT, 320, .inr (.inl gt))), (yK, .inl (cYK, 320, .inl gk)), (yV, .inl (cYV, 320, .inl gv))]) (M + 4) rfl rfl rfl (by omega) (by decide) d_Y_perform_181 rfl ?_
                  refine zk_iload_n (pc := 182) X d_Y_perform_182 rfl (q := 5) rfl ?_
                  refine zk_bipush (pc := 183) X (v := 7) d_Y_perform_183 (by decide) ?_
                  refine zk_icmp_ne (pc := 185) X (tgt := 200) d_Y_perform_185 (by decide) (fun _ => ?_) (fun g => absurd g (fun g => absurd (h159.symm.trans g) (by decide)))
                  refine zk_iload_n (pc := 200) X d_Y_perform_200 rfl (q := 5) rfl ?_
                  refine zk_bipush (pc := 201) X (v := 8) d_Y_perform_201 (by decide) ?_
                  refine zk_icmp_ne (pc := 203) X (tgt := 218) d_Y_perform_203 (by decide) (fun _ => ?_) (fun g => absurd g (fun g => absurd (h159.symm.trans g) (by decide)))
                  refine zk_iload_n (pc := 218) X d_Y_perform_218 rfl (q := 5) rfl ?_
                  refine zk_bipush (pc := 219) X (v := 9) d_Y_perform_219 (by decide) ?_
                  refine zk_icmp_ne (pc := 221) X (tgt := 268) d_Y_perform_221 (by decide) (fun _ => ?_) (fun g => absurd g (fun g => absurd (h159.symm.trans g) (by decide)))
                  refine zk_iload_n (pc := 268) X d_Y_perform_268 rfl (q := 5) rfl ?_
                  refine zk_bipush (pc := 269) X (v := 10) d_Y_perform_269 (by decide) ?_
                  refine zk_icmp_ne (pc := 271) X (tgt := 301) d_Y_perform_271 (by decide) (fun _ => ?_) (fun g => absurd g (fun g => absurd (h159.symm.trans g) (by decide)))
                  refine zk_iload_n (pc := 301) X d_Y_perform_301 rfl (q := 5) rfl ?_
                  refine zk_bipush (pc := 302) X (v := 11) d_Y_perform_302 (by decide) ?_
                  refine zk_icmp_ne (pc := 304) X (tgt := 347) d_Y_perform_304 (by decide) (fun _ => ?_) (fun g => absurd g (fun g => absurd (h159.symm.trans g) (by decide)))
                  refine zk_iload_n (pc := 347) X d_Y_perform_347 rfl (q := 5) rfl ?_
                  refine zk_bipush (pc := 348) X (v := 12) d_Y_perform_348 (by decide) ?_
                  refine zk_icmp_ne (pc := 350) X (tgt := 363) d_Y_perform_350 (by decide) (fun _ => ?_) (fun g => absurd g (fun g => absurd (h159.symm.trans g) (by decide)))
                  exact zk_vret (pc := 363) X hQ hRt hLk ((upd (upd gm (M + 4) ((gm (M + 4)) + 1)) (M + 4) b), gi, yw, gl, yl, yS, yt, ye) ⟨hq.symm, (show yl ≤ yl + 10 by omega), (show 0 < M → yl = yl by omega), (show yw ≤ 16 by omega)⟩ [0, 1, 2, 3, 4, 5, 6] rfl (by decide) d_Y_perform_363
          · have hq := hq.trans (if_pos h134)
            refine zk_aload_n (pc := 137) X d_Y_perform_137 rfl (q := 3) rfl ?_
            refine zk_get (pc := 138) X (ci := 7) (v := .ref ym) in_Y 0 rfl rfl 6 (by decide) (zk_m tw_368) rfl d_Y_perform_138 ?_
            refine zk_iload (pc := 141) X d_Y_perform_141 (q := 0) rfl ?_
            refine zk_aload_n (pc := 143) X d_Y_perform_143 rfl (q := 3) rfl ?_
            refine zk_get (pc := 144) X (ci := 7) (v := .ref ym) in_Y 0 rfl rfl 6 (by decide) (zk_m tw_368) rfl d_Y_perform_144 ?_
            refine zk_iload (pc := 147) X d_Y_perform_147 (q := 2) rfl ?_
            refine zk_iald (pc := 149) X 1 0 (M + ((zk_ix3 a))) rfl rfl rfl (by omega) (by decide) d_Y_perform_149 ?_
            refine zk_iast (pc := 150) X 1 0 (ws' := [(hy, .inr (7, [.int ys, .int (nI yn), .ref yo, .ref yf, .ref yb, .int yg, .ref ym, .int yc, .int (nI yw), .ref yi, .int yq, .int (nI yl), .ref yL, .int ye, .int yt, .int yS, .int (nI yr), .int (nI ya), .ref yT, .ref yK, .ref yV])), (ym, .inl (cYm, 96, .inl (upd (upd gm (M + 4) ((gm (M + 4)) + 1)) (M + 16 + ((zk_ix31 (gm (M + ((zk_ix3 b))))))) ((upd gm (M + 4) ((gm (M + 4)) + 1)) (M + ((zk_ix3 a))))))), (yi, .inl (cYi, 16, .inl gi)), (yL, .inl (cYL, 320, .inl gl)), (yT, .inl (cYT, 320, .inr (.inl gt))), (yK, .inl (cYK, 320, .inl gk)), (yV, .inl (cYV, 320, .inl gv))]) (M + 16 + ((zk_ix31 (gm (M + ((zk_ix3 b))))))) rfl rfl rfl (by omega) (by decide) d_Y_perform_150 rfl ?_
            refine zk_iload_n (pc := 151) X d_Y_perform_151 rfl (q := 5) rfl ?_
            refine zk_iconst (pc := 152) X (v := 5) d_Y_perform_152 rfl ?_
            refine zk_icmp_eq (pc := 153) X (tgt := 172) d_Y_perform_153 (by decide) (fun g => absurd g (fun g => absurd (h134.symm.trans g) (by decide))) (fun _ => ?_)
            refine zk_iload_n (pc := 156) X d_Y_perform_156 rfl (q := 5) rfl ?_
            refine zk_bipush (pc := 157) X (v := 6) d_Y_perform_157 (by decide) ?_
            refine zk_icmp_ne (pc := 159) X (tgt := 182) d_Y_perform_159 (by decide) (fun _ => ?_) (fun g => absurd g (fun g => absurd (h134.symm.trans g) (by decide)))
            refine zk_iload_n (pc := 182) X d_Y_perform_182 rfl (q := 5) rfl ?_
            refine zk_bipush (pc := 183) X (v := 7) d_Y_perform_183 (by decide) ?_
            refine zk_icmp_ne (pc := 185) X (tgt := 200) d_Y_perform_185 (by decide) (fun _ => ?_) (fun g => absurd g (fun g => absurd (h134.symm.trans g) (by decide)))
            refine zk_iload_n (pc := 200) X d_Y_perform_200 rfl (q := 5) rfl ?_
            refine zk_bipush (pc := 201) X (v := 8) d_Y_perform_201 (by decide) ?_
            refine zk_icmp_ne (pc := 203) X (tgt := 218) d_Y_perform_203 (by decide) (fun _ => ?_) (fun g => absurd g (fun g => absurd (h134.symm.trans g) (by decide)))
            refine zk_iload_n (pc := 218) X d_Y_perform_218 rfl (q := 5) rfl ?_
            refine zk_bipush (pc := 219) X (v := 9) d_Y_perform_219 (by decide) ?_
            refine zk_icmp_ne (pc := 221) X (tgt := 268) d_Y_perform_221 (by decide) (fun _ => ?_) (fun g => absurd g (fun g => absurd (h134.symm.trans g) (by decide)))
            refine zk_iload_n (pc := 268) X d_Y_perform_268 rfl (q := 5) rfl ?_
            refine zk_bipush (pc := 269) X (v := 10) d_Y_perform_269 (by decide) ?_
            refine zk_icmp_ne (pc := 271) X (tgt := 301) d_Y_perform_271 (by decide) (fun _ => ?_) (fun g => absurd g (fun g => absurd (h134.symm.trans g) (by decide)))
            refine zk_iload_n (pc := 301) X d_Y_perform_301 rfl (q := 5) rfl ?_
            refine zk_bipush (pc := 302) X (v := 11) d_Y_perform_302 (by decide) ?_
            refine zk_icmp_ne (pc := 304) X (tgt := 347) d_Y_perform_304 (by decide) (fun _ => ?_) (fun g => absurd g (fun g => absurd (h134.symm.trans g) (by decide)))
            refine zk_iload_n (pc := 347) X d_Y_perform_347 rfl (q := 5) rfl ?_
            refine zk_bipush (pc := 348) X (v := 12) d_Y_perform_348 (by decide) ?_
            refine zk_icmp_ne (pc := 350) X (tgt := 363) d_Y_perform_350 (by decide) (fun _ => ?_) (fun g => absurd g (fun g => absurd (h134.symm.trans g) (by decide)))
            exact zk_vret (pc := 363) X hQ hRt hLk ((upd (upd gm (M + 4) ((gm (M + 4)) + 1)) (M + 16 + ((zk_ix31 (gm (M + ((zk_ix3 b))))))) ((upd gm (M + 4) ((gm (M + 4)) + 1)) (M + ((zk_ix3 a))))), gi, yw, gl, yl, yS, yt, ye) ⟨hq.symm, (show yl ≤ yl + 10 by omega), (show 0 < M → yl = yl by omega), (show yw ≤ 16 by omega)⟩ [0, 1, 2, 3, 4, 5, 6] rfl (by decide) d_Y_perform_363
        · have hq := hq.trans (if_pos h115)
          refine zk_aload_n (pc := 118) X d_Y_perform_118 rfl (q := 3) rfl ?_
          refine zk_get (pc := 119) X (ci := 7) (v := .ref ym) in_Y 0 rfl rfl 6 (by decide) (zk_m tw_368) rfl d_Y_perform_119 ?_
          refine zk_iload (pc := 122) X d_Y_perform_122 (q := 2) rfl ?_
          refine zk_aload_n (pc := 124) X d_Y_perform_124 rfl (q := 3) rfl ?_
          refine zk_get (pc := 125) X (ci := 7) (v := .ref ym) in_Y 0 rfl rfl 6 (by decide) (zk_m tw_368) rfl d_Y_perform_125 ?_
          refine zk_iload (pc := 128) X d_Y_perform_128 (q := 0) rfl ?_
          refine zk_iald (pc := 130) X 1 0 (M + 16 + ((zk_ix31 (gm (M + ((zk_ix3 b))))))) rfl rfl rfl (by omega) (by decide) d_Y_perform_130 ?_
          refine zk_iast (pc := 131) X 1 0 (ws' := [(hy, .inr (7, [.int ys, .int (nI yn), .ref yo, .ref yf, .ref yb, .int yg, .ref ym, .int yc, .int (nI yw), .ref yi, .int yq, .int (nI yl), .ref yL, .int ye, .int yt, .int yS, .int (nI yr), .int (nI ya), .ref yT, .ref yK, .ref yV])), (ym, .inl (cYm, 96, .inl (upd (upd gm (M + 4) ((gm (M + 4)) + 1)) (M + ((zk_ix3 a))) ((upd gm (M + 4) ((gm (M + 4)) + 1)) (M + 16 + ((zk_ix31 (gm (M + ((zk_ix3 b))))))))))), (yi, .inl (cYi, 16, .inl gi)), (yL, .inl (cYL, 320, .inl gl)), (yT, .inl (cYT, 320, .inr (.inl gt))), (yK, .inl (cYK, 320, .inl gk)), (yV, .inl (cYV, 320, .inl gv))]) (M + ((zk_ix3 a))) rfl rfl rfl (by omega) (by decide) d_Y_perform_131 rfl ?_
          refine zk_iload_n (pc := 132) X d_Y_perform_132 rfl (q := 5) rfl ?_
          refine zk_iconst (pc := 133) X (v := 4) d_Y_perform_133 rfl ?_
          refine zk_icmp_ne (pc := 134) X (tgt := 151) d_Y_perform_134 (by decide) (fun _ => ?_) (fun g => absurd g (fun g => absurd (h115.symm.trans g) (by decide)))
          refine zk_iload_n (pc := 151) X d_Y_perform_151 rfl (q := 5) rfl ?_
          refine zk_iconst (pc := 152) X (v := 5) d_Y_perform_152 rfl ?_
          refine zk_icmp_eq (pc := 153) X (tgt := 172) d_Y_perform_153 (by decide) (fun g => absurd g (fun g => absurd (h115.symm.trans g) (by decide))) (fun _ => ?_)
          refine zk_iload_n (pc := 156) X d_Y_perform_156 rfl (q := 5) rfl ?_
          refine zk_bipush (pc := 157) X (v := 6) d_Y_perform_157 (by decide) ?_
          refine zk_icmp_ne (pc := 159) X (tgt := 182) d_Y_perform_159 (by decide) (fun _ => ?_) (fun g => absurd g (fun g => absurd (h115.symm.trans g) (by decide)))
          refine zk_iload_n (pc := 182) X d_Y_perform_182 rfl (q := 5) rfl ?_
          refine zk_bipush (pc := 183) X (v := 7) d_Y_perform_183 (by decide) ?_
          refine zk_icmp_ne (pc := 185) X (tgt := 200) d_Y_perform_185 (by decide) (fun _ => ?_) (fun g => absurd g (fun g => absurd (h115.symm.trans g) (by decide)))
          refine zk_iload_n (pc := 200) X d_Y_perform_200 rfl (q := 5) rfl ?_
          refine zk_bipush (pc := 201) X (v := 8) d_Y_perform_201 (by decide) ?_
          refine zk_icmp_ne (pc := 203) X (tgt := 218) d_Y_perform_203 (by decide) (fun _ => ?_) (fun g => absurd g (fun g => absurd (h115.symm.trans g) (by decide)))
          refine zk_iload_n (pc := 218) X d_Y_perform_218 rfl (q := 5) rfl ?_
          refine zk_bipush (pc := 219) X (v := 9) d_Y_perform_219 (by decide) ?_
          refine zk_icmp_ne (pc := 221) X (tgt := 268) d_Y_perform_221 (by decide) (fun _ => ?_) (fun g => absurd g (fun g => absurd (h115.symm.trans g) (by decide)))
          refine zk_iload_n (pc := 268) X d_Y_perform_268 rfl (q := 5) rfl ?_
          refine zk_bipush (pc := 269) X (v := 10) d_Y_perform_269 (by decide) ?_
          refine zk_icmp_ne (pc := 271) X (tgt := 301) d_Y_perform_271 (by decide) (fun _ => ?_) (fun g => absurd g (fun g => absurd (h115.symm.trans g) (by decide)))
          refine zk_iload_n (pc := 301) X d_Y_perform_301 rfl (q := 5) rfl ?_
          refine zk_bipush (pc := 302) X (v := 11) d_Y_perform_302 (by decide) ?_
          refine zk_icmp_ne (pc := 304) X (tgt := 347) d_Y_perform_304 (by decide) (fun _ => ?_) (fun g => absurd g (fun g => absurd (h115.symm.trans g) (by decide)))
          refine zk_iload_n (pc := 347) X d_Y_perform_347 rfl (q := 5) rfl ?_
          refine zk_bipush (pc := 348) X (v := 12) d_Y_perform_348 (by decide) ?_
          refine zk_icmp_ne (pc := 350) X (tgt := 363) d_Y_perform_350 (by decide) (fun _ => ?_) (fun g => absurd g (fun g => absurd (h115.symm.trans g) (by decide)))
          exact zk_vret (pc := 363) X hQ hRt hLk ((upd (upd gm (M + 4) ((gm (M + 4)) + 1)) (M + ((zk_ix3 a))) ((upd gm (M + 4) ((gm (M + 4)) + 1)) (M + 16 + ((zk_ix31 (gm (M + ((zk_ix3 b))))))))), gi, yw, gl, yl, yS, yt, ye) ⟨hq.symm, (show yl ≤ yl + 10 by omega), (show 0 < M → yl = yl by omega), (show yw ≤ 16 by omega)⟩ [0, 1, 2, 3, 4, 5, 6] rfl (by decide) d_Y_perform_363
      · have hq := hq.trans (if_pos h93)
        refine zk_aload_n (pc := 96) X d_Y_perform_96 rfl (q := 3) rfl ?_
        refine zk_get (pc := 97) X (ci := 7) (v := .ref ym) in_Y 0 rfl rfl 6 (by decide) (zk_m tw_368) rfl d_Y_perform_97 ?_
        refine zk_iload (pc := 100) X d_Y_perform_100 (q := 2) rfl ?_
        refine zk_aload_n (pc := 102) X d_Y_perform_102 rfl (q := 3) rfl ?_
        refine zk_get (pc := 103) X (ci := 7) (v := .ref ym) in_Y 0 rfl rfl 6 (by decide) (zk_m tw_368) rfl d_Y_perform_103 ?_
        refine zk_iload (pc := 106) X d_Y_perform_106 (q := 2) rfl ?_
        refine zk_iald (pc := 108) X 1 0 (M + ((zk_ix3 a))) rfl rfl rfl (by omega) (by decide) d_Y_perform_108 ?_
        refine zk_iload (pc := 109) X d_Y_perform_109 (q := 1) rfl ?_
        refine zk_isub (pc := 111) X (v := (((upd gm (M + 4) ((gm (M + 4)) + 1)) (M + ((zk_ix3 a)))) - (gm (M + ((zk_ix3 b)))))) d_Y_perform_111 rfl ?_
        refine zk_iast (pc := 112) X 1 0 (ws' := [(hy, .inr (7, [.int ys, .int (nI yn), .ref yo, .ref yf, .ref yb, .int yg, .ref ym, .int yc, .int (nI yw), .ref yi, .int yq, .int (nI yl), .ref yL, .int ye, .int yt, .int yS, .int (nI yr), .int (nI ya), .ref yT, .ref yK, .ref yV])), (ym, .inl (cYm, 96, .inl (upd (upd gm (M + 4) ((gm (M + 4)) + 1)) (M + ((zk_ix3 a))) (((upd gm (M + 4) ((gm (M + 4)) + 1)) (M + ((zk_ix3 a)))) - (gm (M + ((zk_ix3 b)))))))), (yi, .inl (cYi, 16, .inl gi)), (yL, .inl (cYL, 320, .inl gl)), (yT, .inl (cYT, 320, .inr (.inl gt))), (yK, .inl (cYK, 320, .inl gk)), (yV, .inl (cYV, 320, .inl gv))]) (M + ((zk_ix3 a))) rfl rfl rfl (by omega) (by decide) d_Y_perform_112 rfl ?_
        refine zk_iload_n (pc := 113) X d_Y_perform_113 rfl (q := 5) rfl ?_
        refine zk_iconst (pc := 114) X (v := 3) d_Y_perform_114 rfl ?_
        refine zk_icmp_ne (pc := 115) X (tgt := 132) d_Y_perform_115 (by decide) (fun _ => ?_) (fun g => absurd g (fun g => absurd (h93.symm.trans g) (by decide)))
        refine zk_iload_n (pc := 132) X d_Y_perform_132 rfl (q := 5) rfl ?_
        refine zk_iconst (pc := 133) X (v := 4) d_Y_perform_133 rfl ?_
        refine zk_icmp_ne (pc := 134) X (tgt := 151) d_Y_perform_134 (by decide) (fun _ => ?_) (fun g => absurd g (fun g => absurd (h93.symm.trans g) (by decide)))
        refine zk_iload_n (pc := 151) X d_Y_perform_151 rfl (q := 5) rfl ?_
        refine zk_iconst (pc := 152) X (v := 5) d_Y_perform_152 rfl ?_
        refine zk_icmp_eq (pc := 153) X (tgt := 172) d_Y_perform_153 (by decide) (fun g => absurd g (fun g => absurd (h93.symm.trans g) (by decide))) (fun _ => ?_)
        refine zk_iload_n (pc := 156) X d_Y_perform_156 rfl (q := 5) rfl ?_
        refine zk_bipush (pc := 157) X (v := 6) d_Y_perform_157 (by decide) ?_
        refine zk_icmp_ne (pc := 159) X (tgt := 182) d_Y_perform_159 (by decide) (fun _ => ?_) (fun g => absurd g (fun g => absurd (h93.symm.trans g) (by decide)))
        refine zk_iload_n (pc := 182) X d_Y_perform_182 rfl (q := 5) rfl ?_
        refine zk_bipush (pc := 183) X (v := 7) d_Y_perform_183 (by decide) ?_
        refine zk_icmp_ne (pc := 185) X (tgt := 200) d_Y_perform_185 (by decide) (fun _ => ?_) (fun g => absurd g (fun g => absurd (h93.symm.trans g) (by decide)))
        refine zk_iload_n (pc := 200) X d_Y_perform_200 rfl (q := 5) rfl ?_
        refine zk_bipush (pc := 201) X (v := 8) d_Y_perform_201 (by decide) ?_
        refine zk_icmp_ne (pc := 203) X (tgt := 218) d_Y_perform_203 (by decide) (fun _ => ?_) (fun g => absurd g (fun g => absurd (h93.symm.trans g) (by decide)))
        refine zk_iload_n (pc := 218) X d_Y_perform_218 rfl (q := 5) rfl ?_
        refine zk_bipush (pc := 219) X (v := 9) d_Y_perform_219 (by decide) ?_
        refine zk_icmp_ne (pc := 221) X (tgt := 268) d_Y_perform_221 (by decide) (fun _ => ?_) (fun g => absurd g (fun g => absurd (h93.symm.trans g) (by decide)))
        refine zk_iload_n (pc := 268) X d_Y_perform_268 rfl (q := 5) rfl ?_
        refine zk_bipush (pc := 269) X (v := 10) d_Y_perform_269 (by decide) ?_
        refine zk_icmp_ne (pc := 271) X (tgt := 301) d_Y_perform_271 (by decide) (fun _ => ?_) (fun g => absurd g (fun g => absurd (h93.symm.trans g) (by decide)))
        refine zk_iload_n (pc := 301) X d_Y_perform_301 rfl (q := 5) rfl ?_
        refine zk_bipush (pc := 302) X (v := 11) d_Y_perform_302 (by decide) ?_
        refine zk_icmp_ne (pc := 304) X (tgt := 347) d_Y_perform_304 (by decide) (fun _ => ?_) (fun g => absurd g (fun g => absurd (h93.symm.trans g) (by decide)))
        refine zk_iload_n (pc := 347) X d_Y_perform_347 rfl (q := 5) rfl ?_
        refine zk_bipush (pc := 348) X (v := 12) d_Y_perform_348 (by decide) ?_
        refine zk_icmp_ne (pc := 350) X (tgt := 363) d_Y_perform_350 (by decide) (fun _ => ?_) (fun g => absurd g (fun g => absurd (h93.symm.trans g) (by decide)))
        exact zk_vret (pc := 363) X hQ hRt hLk ((upd (upd gm (M + 4) ((gm (M + 4)) + 1)) (M + ((zk_ix3 a))) (((upd gm (M + 4) ((gm (M + 4)) + 1)) (M + ((zk_ix3 a)))) - (gm (M + ((zk_ix3 b)))))), gi, yw, gl, yl, yS, yt, ye) ⟨hq.symm, (show yl ≤ yl + 10 by omega), (show 0 < M → yl = yl by omega), (show yw ≤ 16 by omega)⟩ [0, 1, 2, 3, 4, 5, 6] rfl (by decide) d_Y_perform_363
    · have hq := hq.trans (if_pos h71)
      refine zk_aload_n (pc := 74) X d_Y_perform_74 rfl (q := 3) rfl ?_
      refine zk_get (pc := 75) X (ci := 7) (v := .ref ym) in_Y 0 rfl rfl 6 (by decide) (zk_m tw_368) rfl d_Y_perform_75 ?_
      refine zk_iload (pc := 78) X d_Y_perform_78 (q := 2) rfl ?_
      refine zk_aload_n (pc := 80) X d_Y_perform_80 rfl (q := 3) rfl ?_
      refine zk_get (pc := 81) X (ci := 7) (v := .ref ym) in_Y 0 rfl rfl 6 (by decide) (zk_m tw_368) rfl d_Y_perform_81 ?_
      refine zk_iload (pc := 84) X d_Y_perform_84 (q := 2) rfl ?_
      refine zk_iald (pc := 86) X 1 0 (M + ((zk_ix3 a))) rfl rfl rfl (by omega) (by decide) d_Y_perform_86 ?_
      refine zk_iload (pc := 87) X d_Y_perform_87 (q := 1) rfl ?_
      refine zk_iadd (pc := 89) X (v := (((upd gm (M + 4) ((gm (M + 4)) + 1)) (M + ((zk_ix3 a)))) + (gm (M + ((zk_ix3 b)))))) d_Y_perform_89 rfl ?_
      refine zk_iast (pc := 90) X 1 0 (ws' := [(hy, .inr (7, [.int ys, .int (nI yn), .ref yo, .ref yf, .ref yb, .int yg, .ref ym, .int yc, .int (nI yw), .ref yi, .int yq, .int (nI yl), .ref yL, .int ye, .int yt, .int yS, .int (nI yr), .int (nI ya), .ref yT, .ref yK, .ref yV])), (ym, .inl (cYm, 96, .inl (upd (upd gm (M + 4) ((gm (M + 4)) + 1)) (M + ((zk_ix3 a))) (((upd gm (M + 4) ((gm (M + 4)) + 1)) (M + ((zk_ix3 a)))) + (gm (M + ((zk_ix3 b)))))))), (yi, .inl (cYi, 16, .inl gi)), (yL, .inl (cYL, 320, .inl gl)), (yT, .inl (cYT, 320, .inr (.inl gt))), (yK, .inl (cYK, 320, .inl gk)), (yV, .inl (cYV, 320, .inl gv))]) (M + ((zk_ix3 a))) rfl rfl rfl (by omega) (by decide) d_Y_perform_90 rfl ?_
      refine zk_iload_n (pc := 91) X d_Y_perform_91 rfl (q := 5) rfl ?_
      refine zk_iconst (pc := 92) X (v := 2) d_Y_perform_92 rfl ?_
      refine zk_icmp_ne (pc := 93) X (tgt := 113) d_Y_perform_93 (by decide) (fun _ => ?_) (fun g => absurd g (fun g => absurd (h71.symm.trans g) (by decide)))
      refine zk_iload_n (pc := 113) X d_Y_perform_113 rfl (q := 5) rfl ?_
      refine zk_iconst (pc := 114) X (v := 3) d_Y_perform_114 rfl ?_
      refine zk_icmp_ne (pc := 115) X (tgt := 132) d_Y_perform_115 (by decide) (fun _ => ?_) (fun g => absurd g (fun g => absurd (h71.symm.trans g) (by decide)))
      refine zk_iload_n (pc := 132) X d_Y_perform_132 rfl (q := 5) rfl ?_
      refine zk_iconst (pc := 133) X (v := 4) d_Y_perform_133 rfl ?_
      refine zk_icmp_ne (pc := 134) X (tgt := 151) d_Y_perform_134 (by decide) (fun _ => ?_) (fun g => absurd g (fun g => absurd (h71.symm.trans g) (by decide)))
      refine zk_iload_n (pc := 151) X d_Y_perform_151 rfl (q := 5) rfl ?_
      refine zk_iconst (pc := 152) X (v := 5) d_Y_perform_152 rfl ?_
      refine zk_icmp_eq (pc := 153) X (tgt := 172) d_Y_perform_153 (by decide) (fun g => absurd g (fun g => absurd (h71.symm.trans g) (by decide))) (fun _ => ?_)
      refine zk_iload_n (pc := 156) X d_Y_perform_156 rfl (q := 5) rfl ?_
      refine zk_bipush (pc := 157) X (v := 6) d_Y_perform_157 (by decide) ?_
      refine zk_icmp_ne (pc := 159) X (tgt := 182) d_Y_perform_159 (by decide) (fun _ => ?_) (fun g => absurd g (fun g => absurd (h71.symm.trans g) (by decide)))
      refine zk_iload_n (pc := 182) X d_Y_perform_182 rfl (q := 5) rfl ?_
      refine zk_bipush (pc := 183) X (v := 7) d_Y_perform_183 (by decide) ?_
      refine zk_icmp_ne (pc := 185) X (tgt := 200) d_Y_perform_185 (by decide) (fun _ => ?_) (fun g => absurd g (fun g => absurd (h71.symm.trans g) (by decide)))
      refine zk_iload_n (pc := 200) X d_Y_perform_200 rfl (q := 5) rfl ?_
      refine zk_bipush (pc := 201) X (v := 8) d_Y_perform_201 (by decide) ?_
      refine zk_icmp_ne (pc := 203) X (tgt := 218) d_Y_perform_203 (by decide) (fun _ => ?_) (fun g => absurd g (fun g => absurd (h71.symm.trans g) (by decide)))
      refine zk_iload_n (pc := 218) X d_Y_perform_218 rfl (q := 5) rfl ?_
      refine zk_bipush (pc := 219) X (v := 9) d_Y_perform_219 (by decide) ?_
      refine zk_icmp_ne (pc := 221) X (tgt := 268) d_Y_perform_221 (by decide) (fun _ => ?_) (fun g => absurd g (fun g => absurd (h71.symm.trans g) (by decide)))
      refine zk_iload_n (pc := 268) X d_Y_perform_268 rfl (q := 5) rfl ?_
      refine zk_bipush (pc := 269) X (v := 10) d_Y_perform_269 (by decide) ?_
      refine zk_icmp_ne (pc := 271) X (tgt := 301) d_Y_perform_271 (by decide) (fun _ => ?_) (fun g => absurd g (fun g => absurd (h71.symm.trans g) (by decide)))
      refine zk_iload_n (pc := 301) X d_Y_perform_301 rfl (q := 5) rfl ?_
      refine zk_bipush (pc := 302) X (v := 11) d_Y_perform_302 (by decide) ?_
      refine zk_icmp_ne (pc := 304) X (tgt := 347) d_Y_perform_304 (by decide) (fun _ => ?_) (fun g => absurd g (fun g => absurd (h71.symm.trans g) (by decide)))
      refine zk_iload_n (pc := 347) X d_Y_perform_347 rfl (q := 5) rfl ?_
      refine zk_bipush (pc := 348) X (v := 12) d_Y_perform_348 (by decide) ?_
      refine zk_icmp_ne (pc := 350) X (tgt := 363) d_Y_perform_350 (by decide) (fun _ => ?_) (fun g => absurd g (fun g => absurd (h71.symm.trans g) (by decide)))
      exact zk_vret (pc := 363) X hQ hRt hLk ((upd (upd gm (M + 4) ((gm (M + 4)) + 1)) (M + ((zk_ix3 a))) (((upd gm (M + 4) ((gm (M + 4)) + 1)) (M + ((zk_ix3 a)))) + (gm (M + ((zk_ix3 b)))))), gi, yw, gl, yl, yS, yt, ye) ⟨hq.symm, (show yl ≤ yl + 10 by omega), (show 0 < M → yl = yl by omega), (show yw ≤ 16 by omega)⟩ [0, 1, 2, 3, 4, 5, 6] rfl (by decide) d_Y_perform_363
  · have hq := hq.trans (if_pos h57)
    refine zk_aload_n (pc := 60) X d_Y_perform_60 rfl (q := 3) rfl ?_
    refine zk_get (pc := 61) X (ci := 7) (v := .ref ym) in_Y 0 rfl rfl 6 (by decide) (zk_m tw_368) rfl d_Y_perform_61 ?_
    refine zk_iload (pc := 64) X d_Y_perform_64 (q := 2) rfl ?_
    refine zk_iload (pc := 66) X d_Y_perform_66 (q := 7) rfl ?_
    refine zk_iast (pc := 68) X 1 0 (ws' := [(hy, .inr (7, [.int ys, .int (nI yn), .ref yo, .ref yf, .ref yb, .int yg, .ref ym, .int yc, .int (nI yw), .ref yi, .int yq, .int (nI yl), .ref yL, .int ye, .int yt, .int yS, .int (nI yr), .int (nI ya), .ref yT, .ref yK, .ref yV])), (ym, .inl (cYm, 96, .inl (upd (upd gm (M + 4) ((gm (M + 4)) + 1)) (M + ((zk_ix3 a))) b))), (yi, .inl (cYi, 16, .inl gi)), (yL, .inl (cYL, 320, .inl gl)), (yT, .inl (cYT, 320, .inr (.inl gt))), (yK, .inl (cYK, 320, .inl gk)), (yV, .inl (cYV, 320, .inl gv))]) (M + ((zk_ix3 a))) rfl rfl rfl (by omega) (by decide) d_Y_perform_68 rfl ?_
    refine zk_iload_n (pc := 69) X d_Y_perform_69 rfl (q := 5) rfl ?_
    refine zk_iconst (pc := 70) X (v := 1) d_Y_perform_70 rfl ?_
    refine zk_icmp_ne (pc := 71) X (tgt := 91) d_Y_perform_71 (by decide) (fun _ => ?_) (fun g => absurd g (fun g => absurd (h57.symm.trans g) (by decide)))
    refine zk_iload_n (pc := 91) X d_Y_perform_91 rfl (q := 5) rfl ?_
    refine zk_iconst (pc := 92) X (v := 2) d_Y_perform_92 rfl ?_
    refine zk_icmp_ne (pc := 93) X (tgt := 113) d_Y_perform_93 (by decide) (fun _ => ?_) (fun g => absurd g (fun g => absurd (h57.symm.trans g) (by decide)))
    refine zk_iload_n (pc := 113) X d_Y_perform_113 rfl (q := 5) rfl ?_
    refine zk_iconst (pc := 114) X (v := 3) d_Y_perform_114 rfl ?_
    refine zk_icmp_ne (pc := 115) X (tgt := 132) d_Y_perform_115 (by decide) (fun _ => ?_) (fun g => absurd g (fun g => absurd (h57.symm.trans g) (by decide)))
    refine zk_iload_n (pc := 132) X d_Y_perform_132 rfl (q := 5) rfl ?_
    refine zk_iconst (pc := 133) X (v := 4) d_Y_perform_133 rfl ?_
    refine zk_icmp_ne (pc := 134) X (tgt := 151) d_Y_perform_134 (by decide) (fun _ => ?_) (fun g => absurd g (fun g => absurd (h57.symm.trans g) (by decide)))
    refine zk_iload_n (pc := 151) X d_Y_perform_151 rfl (q := 5) rfl ?_
    refine zk_iconst (pc := 152) X (v := 5) d_Y_perform_152 rfl ?_
    refine zk_icmp_eq (pc := 153) X (tgt := 172) d_Y_perform_153 (by decide) (fun g => absurd g (fun g => absurd (h57.symm.trans g) (by decide))) (fun _ => ?_)
    refine zk_iload_n (pc := 156) X d_Y_perform_156 rfl (q := 5) rfl ?_
    refine zk_bipush (pc := 157) X (v := 6) d_Y_perform_157 (by decide) ?_
    refine zk_icmp_ne (pc := 159) X (tgt := 182) d_Y_perform_159 (by decide) (fun _ => ?_) (fun g => absurd g (fun g => absurd (h57.symm.trans g) (by decide)))
    refine zk_iload_n (pc := 182) X d_Y_perform_182 rfl (q := 5) rfl ?_
    refine zk_bipush (pc := 183) X (v := 7) d_Y_perform_183 (by decide) ?_
    refine zk_icmp_ne (pc := 185) X (tgt := 200) d_Y_perform_185 (by decide) (fun _ => ?_) (fun g => absurd g (fun g => absurd (h57.symm.trans g) (by decide)))
    refine zk_iload_n (pc := 200) X d_Y_perform_200 rfl (q := 5) rfl ?_
    refine zk_bipush (pc := 201) X (v := 8) d_Y_perform_201 (by decide) ?_
    refine zk_icmp_ne (pc := 203) X (tgt := 218) d_Y_perform_203 (by decide) (fun _ => ?_) (fun g => absurd g (fun g => absurd (h57.symm.trans g) (by decide)))
    refine zk_iload_n (pc := 218) X d_Y_perform_218 rfl (q := 5) rfl ?_
    refine zk_bipush (pc := 219) X (v := 9) d_Y_perform_219 (by decide) ?_
    refine zk_icmp_ne (pc := 221) X (tgt := 268) d_Y_perform_221 (by decide) (fun _ => ?_) (fun g => absurd g (fun g => absurd (h57.symm.trans g) (by decide)))
    refine zk_iload_n (pc := 268) X d_Y_perform_268 rfl (q := 5) rfl ?_
    refine zk_bipush (pc := 269) X (v := 10) d_Y_perform_269 (by decide) ?_
    refine zk_icmp_ne (pc := 271) X (tgt := 301) d_Y_perform_271 (by decide) (fun _ => ?_) (fun g => absurd g (fun g => absurd (h57.symm.trans g) (by decide)))
    refine zk_iload_n (pc := 301) X d_Y_perform_301 rfl (q := 5) rfl ?_
    refine zk_bipush (pc := 302) X (v := 11) d_Y_perform_302 (by decide) ?_
    refine zk_icmp_ne (pc := 304) X (tgt := 347) d_Y_perform_304 (by decide) (fun _ => ?_) (fun g => absurd g (fun g => absurd (h57.symm.trans g) (by decide)))
    refine zk_iload_n (pc := 347) X d_Y_perform_347 rfl (q := 5) rfl ?_
    refine zk_bipush (pc := 348) X (v := 12) d_Y_perform_348 (by decide) ?_
    refine zk_icmp_ne (pc := 350) X (tgt := 363) d_Y_perform_350 (by decide) (fun _ => ?_) (fun g => absurd g (fun g => absurd (h57.symm.trans g) (by decide)))
    exact zk_vret (pc := 363) X hQ hRt hLk ((upd (upd gm (M + 4) ((gm (M + 4)) + 1)) (M + ((zk_ix3 a))) b), gi, yw, gl, yl, yS, yt, ye) ⟨hq.symm, (show yl ≤ yl + 10 by omega), (show 0 < M → yl = yl by omega), (show yw ≤ 16 by omega)⟩ [0, 1, 2, 3, 4, 5, 6] rfl (by decide) d_Y_perform_363
