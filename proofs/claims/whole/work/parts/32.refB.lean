def sp_Y_add (o : Int32) (a : Int32) (b : Int32) (go : Nat → Int32) (gf : Nat → Int32) (gs : Nat → Int32) (yn : Nat) (yg : Int32) : Int32 × (Nat → Int32) × (Nat → Int32) × (Nat → Int32) × Nat :=
  if (sp_Y_in o 0 12) = 0 then
    ((-1), go, gf, gs, yn)
  else
    if 24 ≤ yn then
      ((-1), go, gf, gs, yn)
    else
      if yg = 0 then
        if o = 5 then
          if (sp_Y_in b 0 23) = 0 then
            ((-1), go, gf, gs, yn)
          else
            (nI yn, (upd go yn o), (upd gf yn a), (upd gs yn b), yn + 1)
        else
          if o = 6 then
            if (sp_Y_in b 0 23) = 0 then
              ((-1), go, gf, gs, yn)
            else
              (nI yn, (upd go yn o), (upd gf yn a), (upd gs yn b), yn + 1)
          else
            (nI yn, (upd go yn o), (upd gf yn a), (upd gs yn b), yn + 1)
      else
        ((-1), go, gf, gs, yn)
abbrev rm_Y_add : Room := { frames := 1, cells := 0, slots := 0, locals := 22 }
set_option maxHeartbeats 4000000 in
set_option maxRecDepth 100000 in
theorem c_Y_add (l : Launch) (dC : Nat → ClassId) (dI : Nat → Nat → Nat) (hy yo yf yb ym yi yL yT yK yV : Nat) (cYo cYf cYb : ClassId) (o : Int32) (a : Int32) (b : Int32) (go : Nat → Int32) (gf : Nat → Int32) (gs : Nat → Int32) (ys : Int32) (yn : Nat) (yg : Int32) (yc : Int32) (yw : Nat) (yq : Int32) (yl : Nat) (ye : Int32) (yt : Int32) (yS : Int32) (yr : Nat) (ya : Nat) (hyn : yn ≤ 24) : zk_Ci l y_Y_add w_Y_add rm_Y_add (dC, dI) vwCl [.ref hy, .int o, .int a, .int b] [(hy, .inr (7, [.int ys, .int (nI yn), .ref yo, .ref yf, .ref yb, .int yg, .ref ym, .int yc, .int (nI yw), .ref yi, .int yq, .int (nI yl), .ref yL, .int ye, .int yt, .int yS, .int (nI yr), .int (nI ya), .ref yT, .ref yK, .ref yV])), (yo, .inl (cYo, 24, .inl go)), (yf, .inl (cYf, 24, .inl gf)), (yb, .inl (cYb, 24, .inl gs))] [(cYo, .int), (cYf, .int), (cYb, .int)] (fun (r : Int32) (u : (Nat → Int32) × (Nat → Int32) × (Nat → Int32) × Nat) => (r, u) = sp_Y_add o a b go gf gs yn yg ∧ (u.2.2.2 ≤ 24)) (fun u => [(hy, .inr (7, [.int ys, .int (nI u.2.2.2), .ref yo, .ref yf, .ref yb, .int yg, .ref ym, .int yc, .int (nI yw), .ref yi, .int yq, .int (nI yl), .ref yL, .int ye, .int yt, .int yS, .int (nI yr), .int (nI ya), .ref yT, .ref yK, .ref yV])), (yo, .inl (cYo, 24, .inl u.1)), (yf, .inl (cYf, 24, .inl u.2.1)), (yb, .inl (cYb, 24, .inl u.2.2.1))]) := by
  refine zk_enteri (cc := b_Y_add) (maxL := 5) (ret := some .int) (by decide) rfl (Nat.le_of_ble_eq_true rfl) ?_
  intro p e s m args below meth c A Q hQ X hRt hLk
  have hq := sp_Y_add.eq_1 o a b go gf gs yn yg
  refine zk_lv (lv' := [(0, .ref hy), (1, .int o), (2, .int a), (3, .int b)]) [0, 1, 2, 3] rfl ?_
  refine zk_iload_n (pc := 0) X d_Y_add_0 rfl (q := 1) rfl ?_
  refine zk_iconst (pc := 1) X (v := 0) d_Y_add_1 rfl ?_
  refine zk_bipush (pc := 2) X (v := 12) d_Y_add_2 (by decide) ?_
  refine zk_calli (pc := 4) X (wc := []) (wr := [(hy, .inr (7, [.int ys, .int (nI yn), .ref yo, .ref yf, .ref yb, .int yg, .ref ym, .int yc, .int (nI yw), .ref yi, .int yq, .int (nI yl), .ref yL, .int ye, .int yt, .int yS, .int (nI yr), .int (nI ya), .ref yT, .ref yK, .ref yV])), (yo, .inl (cYo, 24, .inl go)), (yf, .inl (cYf, 24, .inl gf)), (yb, .inl (cYb, 24, .inl gs))]) [] [0, 1, 2, 3] rfl rfl (by decide) (by decide) (by decide) (zk_runS X (tysC := []) (As := [.int o, .int 0, .int 12]) (rest := []) (c_Y_in l dC dI o 0 12) [] rfl (zk_cwS 3 X.1.2.2.2.2 (zk_goodT tw_411) rfl rfl rfl (zk_m tw_409) (zk_m tw_410) (zk_m tw_9) (by decide +kernel) ⟨Nat.le_of_ble_eq_true rfl, Nat.le_of_ble_eq_true rfl⟩) rfl rfl (Nat.le_of_ble_eq_true rfl) ⟨Nat.zero_le _, Nat.zero_le _⟩ d_Y_add_4) ?_
  rintro r4 ⟨⟩ ⟨w4, f4_0⟩
  have f4_0 : zk_inr r4 o 0 12 := f4_0
  refine zk_ws (ws' := [(hy, .inr (7, [.int ys, .int (nI yn), .ref yo, .ref yf, .ref yb, .int yg, .ref ym, .int yc, .int (nI yw), .ref yi, .int yq, .int (nI yl), .ref yL, .int ye, .int yt, .int yS, .int (nI yr), .int (nI ya), .ref yT, .ref yK, .ref yV])), (yo, .inl (cYo, 24, .inl go)), (yf, .inl (cYf, 24, .inl gf)), (yb, .inl (cYb, 24, .inl gs))]) rfl ?_
  subst w4
  refine zk_if_eq (pc := 7) X (tgt := 51) d_Y_add_7 (by decide) (fun h7 => ?_) (fun h7 => ?_)
  · have hq := hq.trans (if_pos h7)
    refine zk_iconst (pc := 51) X (v := 0) d_Y_add_51 rfl ?_
    refine zk_istore (pc := 52) X (i := 4) (lv' := [(4, .int 0), (0, .ref hy), (1, .int o), (2, .int a), (3, .int b)]) d_Y_add_52 (by decide) rfl ?_
    refine zk_iload (pc := 54) X d_Y_add_54 (q := 0) rfl ?_
    refine zk_if_ne (pc := 56) X (tgt := 61) d_Y_add_56 (by decide) (fun h => absurd h (by decide)) (fun _ => ?_)
    refine zk_iconst (pc := 59) X (v := (-1)) d_Y_add_59 rfl ?_
    exact zk_iret (pc := 60) X hQ hRt hLk (go, gf, gs, yn) ⟨hq.symm, (show yn ≤ 24 by omega)⟩ [0, 1, 2, 3] rfl (by decide) d_Y_add_60
  · have hq := hq.trans (if_neg h7)
    refine zk_aload_n (pc := 10) X d_Y_add_10 rfl (q := 0) rfl ?_
    refine zk_get (pc := 11) X (ci := 7) (v := .int (nI yn)) in_Y 0 rfl rfl 1 (by decide) (zk_m tw_363) rfl d_Y_add_11 ?_
    refine zk_bipush (pc := 14) X (v := 24) d_Y_add_14 (by decide) ?_
    refine zk_icmpN_ge (pc := 16) X (tgt := 51) (yn) (24) rfl rfl (by omega) (by omega) d_Y_add_16 (by decide) (fun h16 => ?_) (fun h16 => ?_)
    · have hq := hq.trans (if_pos h16)
      refine zk_iconst (pc := 51) X (v := 0) d_Y_add_51 rfl ?_
      refine zk_istore (pc := 52) X (i := 4) (lv' := [(4, .int 0), (0, .ref hy), (1, .int o), (2, .int a), (3, .int b)]) d_Y_add_52 (by decide) rfl ?_
      refine zk_iload (pc := 54) X d_Y_add_54 (q := 0) rfl ?_
      refine zk_if_ne (pc := 56) X (tgt := 61) d_Y_add_56 (by decide) (fun h => absurd h (by decide)) (fun _ => ?_)
      refine zk_iconst (pc := 59) X (v := (-1)) d_Y_add_59 rfl ?_
      exact zk_iret (pc := 60) X hQ hRt hLk (go, gf, gs, yn) ⟨hq.symm, (show yn ≤ 24 by omega)⟩ [0, 1, 2, 3] rfl (by decide) d_Y_add_60
    · have hq := hq.trans (if_neg h16)
      refine zk_aload_n (pc := 19) X d_Y_add_19 rfl (q := 0) rfl ?_
      refine zk_get (pc := 20) X (ci := 7) (v := .int yg) in_Y 0 rfl rfl 5 (by decide) (zk_m tw_367) rfl d_Y_add_20 ?_
      refine zk_if_ne (pc := 23) X (tgt := 51) d_Y_add_23 (by decide) (fun h23 => ?_) (fun h23 => ?_)
      · have hq := hq.trans (if_neg h23)
        refine zk_iconst (pc := 51) X (v := 0) d_Y_add_51 rfl ?_
        refine zk_istore (pc := 52) X (i := 4) (lv' := [(4, .int 0), (0, .ref hy), (1, .int o), (2, .int a), (3, .int b)]) d_Y_add_52 (by decide) rfl ?_
        refine zk_iload (pc := 54) X d_Y_add_54 (q := 0) rfl ?_
        refine zk_if_ne (pc := 56) X (tgt := 61) d_Y_add_56 (by decide) (fun h => absurd h (by decide)) (fun _ => ?_)
        refine zk_iconst (pc := 59) X (v := (-1)) d_Y_add_59 rfl ?_
        exact zk_iret (pc := 60) X hQ hRt hLk (go, gf, gs, yn) ⟨hq.symm, (show yn ≤ 24 by omega)⟩ [0, 1, 2, 3] rfl (by decide) d_Y_add_60
      · have hq := hq.trans (if_pos h23)
        refine zk_iload_n (pc := 26) X d_Y_add_26 rfl (q := 1) rfl ?_
        refine zk_iconst (pc := 27) X (v := 5) d_Y_add_27 rfl ?_
        refine zk_icmp_eq (pc := 28) X (tgt := 37) d_Y_add_28 (by decide) (fun h28 => ?_) (fun h28 => ?_)
        · have hq := hq.trans (if_pos h28)
          refine zk_iload_n (pc := 37) X d_Y_add_37 rfl (q := 3) rfl ?_
          refine zk_iconst (pc := 38) X (v := 0) d_Y_add_38 rfl ?_
          refine zk_bipush (pc := 39) X (v := 23) d_Y_add_39 (by decide) ?_
          refine zk_calli (pc := 41) X (wc := []) (wr := [(hy, .inr (7, [.int ys, .int (nI yn), .ref yo, .ref yf, .ref yb, .int yg, .ref ym, .int yc, .int (nI yw), .ref yi, .int yq, .int (nI yl), .ref yL, .int ye, .int yt, .int yS, .int (nI yr), .int (nI ya), .ref yT, .ref yK, .ref yV])), (yo, .inl (cYo, 24, .inl go)), (yf, .inl (cYf, 24, .inl gf)), (yb, .inl (cYb, 24, .inl gs))]) [] [0, 1, 2, 3] rfl rfl (by decide) (by decide) (by decide) (zk_runS X (tysC := []) (As := [.int b, .int 0, .int 23]) (rest := []) (c_Y_in l dC dI b 0 23) [] rfl (zk_cwS 3 X.1.2.2.2.2 (zk_goodT tw_411) rfl rfl rfl (zk_m tw_409) (zk_m tw_410) (zk_m tw_9) (by decide +kernel) ⟨Nat.le_of_ble_eq_true rfl, Nat.le_of_ble_eq_true rfl⟩) rfl rfl (Nat.le_of_ble_eq_true rfl) ⟨Nat.zero_le _, Nat.zero_le _⟩ d_Y_add_41) ?_
          rintro r41 ⟨⟩ ⟨w41, f41_0⟩
          have f41_0 : zk_inr r41 b 0 23 := f41_0
          refine zk_ws (ws' := [(hy, .inr (7, [.int ys, .int (nI yn), .ref yo, .ref yf, .ref yb, .int yg, .ref ym, .int yc, .int (nI yw), .ref yi, .int yq, .int (nI yl), .ref yL, .int ye, .int yt, .int yS, .int (nI yr), .int (nI ya), .ref yT, .ref yK, .ref yV])), (yo, .inl (cYo, 24, .inl go)), (yf, .inl (cYf, 24, .inl gf)), (yb, .inl (cYb, 24, .inl gs))]) rfl ?_
          subst w41
          refine zk_if_eq (pc := 44) X (tgt := 51) d_Y_add_44 (by decide) (fun h44 => ?_) (fun h44 => ?_)
          · have hq := hq.trans (if_pos h44)
            refine zk_iconst (pc := 51) X (v := 0) d_Y_add_51 rfl ?_
            refine zk_istore (pc := 52) X (i := 4) (lv' := [(4, .int 0), (0, .ref hy), (1, .int o), (2, .int a), (3, .int b)]) d_Y_add_52 (by decide) rfl ?_
            refine zk_iload (pc := 54) X d_Y_add_54 (q := 0) rfl ?_
            refine zk_if_ne (pc := 56) X (tgt := 61) d_Y_add_56 (by decide) (fun h => absurd h (by decide)) (fun _ => ?_)
            refine zk_iconst (pc := 59) X (v := (-1)) d_Y_add_59 rfl ?_
            exact zk_iret (pc := 60) X hQ hRt hLk (go, gf, gs, yn) ⟨hq.symm, (show yn ≤ 24 by omega)⟩ [0, 1, 2, 3] rfl (by decide) d_Y_add_60
          · have hq := hq.trans (if_neg h44)
            refine zk_iconst (pc := 47) X (v := 1) d_Y_add_47 rfl ?_
            refine zk_goto (pc := 48) X (tgt := 52) d_Y_add_48 (by decide) ?_
            refine zk_istore (pc := 52) X (i := 4) (lv' := [(4, .int 1), (0, .ref hy), (1, .int o), (2, .int a), (3, .int b)]) d_Y_add_52 (by decide) rfl ?_
            refine zk_iload (pc := 54) X d_Y_add_54 (q := 0) rfl ?_
            refine zk_if_ne (pc := 56) X (tgt := 61) d_Y_add_56 (by decide) (fun _ => ?_) (fun h => absurd h (by decide))
            refine zk_aload_n (pc := 61) X d_Y_add_61 rfl (q := 1) rfl ?_
            refine zk_get (pc := 62) X (ci := 7) (v := .ref yo) in_Y 0 rfl rfl 2 (by decide) (zk_m tw_364) rfl d_Y_add_62 ?_
            refine zk_aload_n (pc := 65) X d_Y_add_65 rfl (q := 1) rfl ?_
            refine zk_get (pc := 66) X (ci := 7) (v := .int (nI yn)) in_Y 0 rfl rfl 1 (by decide) (zk_m tw_363) rfl d_Y_add_66 ?_
            refine zk_iload_n (pc := 69) X d_Y_add_69 rfl (q := 2) rfl ?_
            refine zk_iast (pc := 70) X 1 0 (ws' := [(hy, .inr (7, [.int ys, .int (nI yn), .ref yo, .ref yf, .ref yb, .int yg, .ref ym, .int yc, .int (nI yw), .ref yi, .int yq, .int (nI yl), .ref yL, .int ye, .int yt, .int yS, .int (nI yr), .int (nI ya), .ref yT, .ref yK, .ref yV])), (yo, .inl (cYo, 24, .inl (upd go yn o))), (yf, .inl (cYf, 24, .inl gf)), (yb, .inl (cYb, 24, .inl gs))]) (yn) rfl rfl rfl (by omega) (by decide) d_Y_add_70 rfl ?_
            refine zk_aload_n (pc := 71) X d_Y_add_71 rfl (q := 1) rfl ?_
            refine zk_get (pc := 72) X (ci := 7) (v := .ref yf) in_Y 0 rfl rfl 3 (by decide) (zk_m tw_365) rfl d_Y_add_72 ?_
            refine zk_aload_n (pc := 75) X d_Y_add_75 rfl (q := 1) rfl ?_
            refine zk_get (pc := 76) X (ci := 7) (v := .int (nI yn)) in_Y 0 rfl rfl 1 (by decide) (zk_m tw_363) rfl d_Y_add_76 ?_
            refine zk_iload_n (pc := 79) X d_Y_add_79 rfl (q := 3) rfl ?_
            refine zk_iast (pc := 80) X 2 1 (ws' := [(hy, .inr (7, [.int ys, .int (nI yn), .ref yo, .ref yf, .ref yb, .int yg, .ref ym, .int yc, .int (nI yw), .ref yi, .int yq, .int (nI yl), .ref yL, .int ye, .int yt, .int yS, .int (nI yr), .int (nI ya), .ref yT, .ref yK, .ref yV])), (yo, .inl (cYo, 24, .inl (upd go yn o))), (yf, .inl (cYf, 24, .inl (upd gf yn a))), (yb, .inl (cYb, 24, .inl gs))]) (yn) rfl rfl rfl (by omega) (by decide) d_Y_add_80 rfl ?_
            refine zk_aload_n (pc := 81) X d_Y_add_81 rfl (q := 1) rfl ?_
            refine zk_get (pc := 82) X (ci := 7) (v := .ref yb) in_Y 0 rfl rfl 4 (by decide) (zk_m tw_366) rfl d_Y_add_82 ?_
            refine zk_aload_n (pc := 85) X d_Y_add_85 rfl (q := 1) rfl ?_
            refine zk_get (pc := 86) X (ci := 7) (v := .int (nI yn)) in_Y 0 rfl rfl 1 (by decide) (zk_m tw_363) rfl d_Y_add_86 ?_
            refine zk_iload_n (pc := 89) X d_Y_add_89 rfl (q := 4) rfl ?_
            refine zk_iast (pc := 90) X 3 2 (ws' := [(hy, .inr (7, [.int ys, .int (nI yn), .ref yo, .ref yf, .ref yb, .int yg, .ref ym, .int yc, .int (nI yw), .ref yi, .int yq, .int (nI yl), .ref yL, .int ye, .int yt, .int yS, .int (nI yr), .int (nI ya), .ref yT, .ref yK, .ref yV])), (yo, .inl (cYo, 24, .inl (upd go yn o))), (yf, .inl (cYf, 24, .inl (upd gf yn a))), (yb, .inl (cYb, 24, .inl (upd gs yn b)))]) (yn) rfl rfl rfl (by omega) (by decide) d_Y_add_90 rfl ?_
            refine zk_aload_n (pc := 91) X d_Y_add_91 rfl (q := 1) rfl ?_
            refine zk_aload_n (pc := 92) X d_Y_add_92 rfl (q := 1) rfl ?_
            refine zk_get (pc := 93) X (ci := 7) (v := .int (nI yn)) in_Y 0 rfl rfl 1 (by decide) (zk_m tw_363) rfl d_Y_add_93 ?_
            refine zk_iconst (pc := 96) X (v := 1) d_Y_add_96 rfl ?_
            refine zk_iadd (pc := 97) X (v := nI (yn + 1)) d_Y_add_97 (nI_add (yn) (1)) ?_
            refine zk_put (pc := 98) X (ty := .int) (v := .int (nI (yn + 1))) (ws' := [(hy, .inr (7, [.int ys, .int (nI (yn + 1)), .ref yo, .ref yf, .ref yb, .int yg, .ref ym, .int yc, .int (nI yw), .ref yi, .int yq, .int (nI yl), .ref yL, .int ye, .int yt, .int yS, .int (nI yr), .int (nI ya), .ref yT, .ref yK, .ref yV])), (yo, .inl (cYo, 24, .inl (upd go yn o))), (yf, .inl (cYf, 24, .inl (upd gf yn a))), (yb, .inl (cYb, 24, .inl (upd gs yn b)))]) in_Y tok_Y nok_Y 0 rfl rfl 1 (by decide) (zk_m tw_363) rfl rfl rfl rfl (Nat.le_of_ble_eq_true rfl) d_Y_add_98 rfl ?_
            refine zk_aload_n (pc := 101) X d_Y_add_101 rfl (q := 1) rfl ?_
            refine zk_get (pc := 102) X (ci := 7) (v := .int (nI (yn + 1))) in_Y 0 rfl rfl 1 (by decide) (zk_m tw_363) rfl d_Y_add_102 ?_
            refine zk_iconst (pc := 105) X (v := 1) d_Y_add_105 rfl ?_
            refine zk_isub (pc := 106) X (v := nI yn) d_Y_add_106 (zk_nsub (yn) 1) ?_
            exact zk_iret (pc := 107) X hQ hRt hLk ((upd go yn o), (upd gf yn a), (upd gs yn b), yn + 1) ⟨hq.symm, (show (yn + 1) ≤ 24 by omega)⟩ [0, 1, 2, 3] rfl (by decide) d_Y_add_107
        · have hq := hq.trans (if_neg h28)
          refine zk_iload_n (pc := 31) X d_Y_add_31 rfl (q := 1) rfl ?_
          refine zk_bipush (pc := 32) X (v := 6) d_Y_add_32 (by decide) ?_
          refine zk_icmp_ne (pc := 34) X (tgt := 47) d_Y_add_34 (by decide) (fun h34 => ?_) (fun h34 => ?_)
          · have hq := hq.trans (if_neg h34)
            refine zk_iconst (pc := 47) X (v := 1) d_Y_add_47 rfl ?_
            refine zk_goto (pc := 48) X (tgt := 52) d_Y_add_48 (by decide) ?_
            refine zk_istore (pc := 52) X (i := 4) (lv' := [(4, .int 1), (0, .ref hy), (1, .int o), (2, .int a), (3, .int b)]) d_Y_add_52 (by decide) rfl ?_
            refine zk_iload (pc := 54) X d_Y_add_54 (q := 0) rfl ?_
            refine zk_if_ne (pc := 56) X (tgt := 61) d_Y_add_56 (by decide) (fun _ => ?_) (fun h => absurd h (by decide))
            refine zk_aload_n (pc := 61) X d_Y_add_61 rfl (q := 1) rfl ?_
            refine zk_get (pc := 62) X (ci := 7) (v := .ref yo) in_Y 0 rfl rfl 2 (by decide) (zk_m tw_364) rfl d_Y_add_62 ?_
            refine zk_aload_n (pc := 65) X d_Y_add_65 rfl (q := 1) rfl ?_
            refine zk_get (pc := 66) X (ci := 7) (v := .int (nI yn)) in_Y 0 rfl rfl 1 (by decide) (zk_m tw_363) rfl d_Y_add_66 ?_
            refine zk_iload_n (pc := 69) X d_Y_add_69 rfl (q := 2) rfl ?_
            refine zk_iast (pc := 70) X 1 0 (ws' := [(hy, .inr (7, [.int ys, .int (nI yn), .ref yo, .ref yf, .ref yb, .int yg, .ref ym, .int yc, .int (nI yw), .ref yi, .int yq, .int (nI yl), .ref yL, .int ye, .int yt, .int yS, .int (nI yr), .int (nI ya), .ref yT, .ref yK, .ref yV])), (yo, .inl (cYo, 24, .inl (upd go yn o))), (yf, .inl (cYf, 24, .inl gf)), (yb, .inl (cYb, 24, .inl gs))]) (yn) rfl rfl rfl (by omega) (by decide) d_Y_add_70 rfl ?_
            refine zk_aload_n (pc := 71) X d_Y_add_71 rfl (q := 1) rfl ?_
            refine zk_get (pc := 72) X (ci := 7) (v := .ref yf) in_Y 0 rfl rfl 3 (by decide) (zk_m tw_365) rfl d_Y_add_72 ?_
            refine zk_aload_n (pc := 75) X d_Y_add_75 rfl (q := 1) rfl ?_
            refine zk_get (pc := 76) X (ci := 7) (v := .int (nI yn)) in_Y 0 rfl rfl 1 (by decide) (zk_m tw_363) rfl d_Y_add_76 ?_
            refine zk_iload_n (pc := 79) X d_Y_add_79 rfl (q := 3) rfl ?_
            refine zk_iast (pc := 80) X 2 1 (ws' := [(hy, .inr (7, [.int ys, .int (nI yn), .ref yo, .ref yf, .ref yb, .int yg, .ref ym, .int yc, .int (nI yw), .ref yi, .int yq, .int (nI yl), .ref yL, .int ye, .int yt, .int yS, .int (nI yr), .int (nI ya), .ref yT, .ref yK, .ref yV])), (yo, .inl (cYo, 24, .inl (upd go yn o))), (yf, .inl (cYf, 24, .inl (upd gf yn a))), (yb, .inl (cYb, 24, .inl gs))]) (yn) rfl rfl rfl (by omega) (by decide) d_Y_add_80 rfl ?_
            refine zk_aload_n (pc := 81) X d_Y_add_81 rfl (q := 1) rfl ?_
            refine zk_get (pc := 82) X (ci := 7) (v := .ref yb) in_Y 0 rfl rfl 4 (by decide) (zk_m tw_366) rfl d_Y_add_82 ?_
            refine zk_aload_n (pc := 85) X d_Y_add_85 rfl (q := 1) rfl ?_
            refine zk_get (pc := 86) X (ci := 7) (v := .int (nI yn)) in_Y 0 rfl rfl 1 (by decide) (zk_m tw_363) rfl d_Y_add_86 ?_
            refine zk_iload_n (pc := 89) X d_Y_add_89 rfl (q := 4) rfl ?_
            refine zk_iast (pc := 90) X 3 2 (ws' := [(hy, .inr (7, [.int ys, .int (nI yn), .ref yo, .ref yf, .ref yb, .int yg, .ref ym, .int yc, .int (nI yw), .ref yi, .int yq, .int (nI yl), .ref yL, .int ye, .int yt, .int yS, .int (nI yr), .int (nI ya), .ref yT, .ref yK, .ref yV])), (yo, .inl (cYo, 24, .inl (upd go yn o))), (yf, .inl (cYf, 24, .inl (upd gf yn a))), (yb, .inl (cYb, 24, .inl (upd gs yn b)))]) (yn) rfl rfl rfl (by omega) (by decide) d_Y_add_90 rfl ?_
            refine zk_aload_n (pc := 91) X d_Y_add_91 rfl (q := 1) rfl ?_
            refine zk_aload_n (pc := 92) X d_Y_add_92 rfl (q := 1) rfl ?_
            refine zk_get (pc := 93) X (ci := 7) (v := .int (nI yn)) in_Y 0 rfl rfl 1 (by decide) (zk_m tw_363) rfl d_Y_add_93 ?_
            refine zk_iconst (pc := 96) X (v := 1) d_Y_add_96 rfl ?_
            refine zk_iadd (pc := 97) X (v := nI (yn + 1)) d_Y_add_97 (nI_add (yn) (1)) ?_
            refine zk_put (pc := 98) X (ty := .int) (v := .int (nI (yn + 1))) (ws' := [(hy, .inr (7, [.int ys, .int (nI (yn + 1)), .ref yo, .ref yf, .ref yb, .int yg, .ref ym, .int yc, .int (nI yw), .ref yi, .int yq, .int (nI yl), .ref yL, .int ye, .int yt, .int yS, .int (nI yr), .int (nI ya), .ref yT, .ref yK, .ref yV])), (yo, .inl (cYo, 24, .inl (upd go yn o))), (yf, .inl (cYf, 24, .inl (upd gf yn a))), (yb, .inl (cYb, 24, .inl (upd gs yn b)))]) in_Y tok_Y nok_Y 0 rfl rfl 1 (by decide) (zk_m tw_363) rfl rfl rfl rfl (Nat.le_of_ble_eq_true rfl) d_Y_add_98 rfl ?_
            refine zk_aload_n (pc := 101) X d_Y_add_101 rfl (q := 1) rfl ?_
            refine zk_get (pc := 102) X (ci := 7) (v := .int (nI (yn + 1))) in_Y 0 rfl rfl 1 (by decide) (zk_m tw_363) rfl d_Y_add_102 ?_
            refine zk_iconst (pc := 105) X (v := 1) d_Y_add_105 rfl ?_
            refine zk_isub (pc := 106) X (v := nI yn) d_Y_add_106 (zk_nsub (yn) 1) ?_
            exact zk_iret (pc := 107) X hQ hRt hLk ((upd go yn o), (upd gf yn a), (upd gs yn b), yn + 1) ⟨hq.symm, (show (yn + 1) ≤ 24 by omega)⟩ [0, 1, 2, 3] rfl (by decide) d_Y_add_107
          · have hq := hq.trans (if_pos h34)
            refine zk_iload_n (pc := 37) X d_Y_add_37 rfl (q := 3) rfl ?_
            refine zk_iconst (pc := 38) X (v := 0) d_Y_add_38 rfl ?_
            refine zk_bipush (pc := 39) X (v := 23) d_Y_add_39 (by decide) ?_
            refine zk_calli (pc := 41) X (wc := []) (wr := [(hy, .inr (7, [.int ys, .int (nI yn), .ref yo, .ref yf, .ref yb, .int yg, .ref ym, .int yc, .int (nI yw), .ref yi, .int yq, .int (nI yl), .ref yL, .int ye, .int yt, .int yS, .int (nI yr), .int (nI ya), .ref yT, .ref yK, .ref yV])), (yo, .inl (cYo, 24, .inl go)), (yf, .inl (cYf, 24, .inl gf)), (yb, .inl (cYb, 24, .inl gs))]) [] [0, 1, 2, 3] rfl rfl (by decide) (by decide) (by decide) (zk_runS X (tysC := []) (As := [.int b, .int 0, .int 23]) (rest := []) (c_Y_in l dC dI b 0 23) [] rfl (zk_cwS 3 X.1.2.2.2.2 (zk_goodT tw_411) rfl rfl rfl (zk_m tw_409) (zk_m tw_410) (zk_m tw_9) (by decide +kernel) ⟨Nat.le_of_ble_eq_true rfl, Nat.le_of_ble_eq_true rfl⟩) rfl rfl (Nat.le_of_ble_eq_true rfl) ⟨Nat.zero_le _, Nat.zero_le _⟩ d_Y_add_41) ?_
            rintro r41 ⟨⟩ ⟨w41, f41_0⟩
            have f41_0 : zk_inr r41 b 0 23 := f41_0
            refine zk_ws (ws' := [(hy, .inr (7, [.int ys, .int (nI yn), .ref yo, .ref yf, .ref yb, .int yg, .ref ym, .int yc, .int (nI yw), .ref yi, .int yq, .int (nI yl), .ref yL, .int ye, .int yt, .int yS, .int (nI yr), .int (nI ya), .ref yT, .ref yK, .ref yV])), (yo, .inl (cYo, 24, .inl go)), (yf, .inl (cYf, 24, .inl gf)), (yb, .inl (cYb, 24, .inl gs))]) rfl ?_
            subst w41
            refine zk_if_eq (pc := 44) X (tgt := 51) d_Y_add_44 (by decide) (fun h44 => ?_) (fun h44 => ?_)
            · have hq := hq.trans (if_pos h44)
              refine zk_iconst (pc := 51) X (v := 0) d_Y_add_51 rfl ?_
              refine zk_istore (pc := 52) X (i := 4) (lv' := [(4, .int 0), (0, .ref hy), (1, .int o), (2, .int a), (3, .int b)]) d_Y_add_52 (by decide) rfl ?_
              refine zk_iload (pc := 54) X d_Y_add_54 (q := 0) rfl ?_
              refine zk_if_ne (pc := 56) X (tgt := 61) d_Y_add_56 (by decide) (fun h => absurd h (by decide)) (fun _ => ?_)
              refine zk_iconst (pc := 59) X (v := (-1)) d_Y_add_59 rfl ?_
              exact zk_iret (pc := 60) X hQ hRt hLk (go, gf, gs, yn) ⟨hq.symm, (show yn ≤ 24 by omega)⟩ [0, 1, 2, 3] rfl (by decide) d_Y_add_60
            · have hq := hq.trans (if_neg h44)
              refine zk_iconst (pc := 47) X (v := 1) d_Y_add_47 rfl ?_
              refine zk_goto (pc := 48) X (tgt := 52) d_Y_add_48 (by decide) ?_
              refine zk_istore (pc := 52) X (i := 4) (lv' := [(4, .int 1), (0, .ref hy), (1, .int o), (2, .int a), (3, .int b)]) d_Y_add_52 (by decide) rfl ?_
              refine zk_iload (pc := 54) X d_Y_add_54 (q := 0) rfl ?_
              refine zk_if_ne (pc := 56) X (tgt := 61) d_Y_add_56 (by decide) (fun _ => ?_) (fun h => absurd h (by decide))
              refine zk_aload_n (pc := 61) X d_Y_add_61 rfl (q := 1) rfl ?_
              refine zk_get (pc := 62) X (ci := 7) (v := .ref yo) in_Y 0 rfl rfl 2 (by decide) (zk_m tw_364) rfl d_Y_add_62 ?_
              refine zk_aload_n (pc := 65) X d_Y_add_65 rfl (q := 1) rfl ?_
              refine zk_get (pc := 66) X (ci := 7) (v := .int (nI yn)) in_Y 0 rfl rfl 1 (by decide) (zk_m tw_363) rfl d_Y_add_66 ?_
              refine zk_iload_n (pc := 69) X d_Y_add_69 rfl (q := 2) rfl ?_
              refine zk_iast (pc := 70) X 1 0 (ws' := [(hy, .inr (7, [.int ys, .int (nI yn), .ref yo, .ref yf, .ref yb, .int yg, .ref ym, .int yc, .int (nI yw), .ref yi, .int yq, .int (nI yl), .ref yL, .int ye, .int yt, .int yS, .int (nI yr), .int (nI ya), .ref yT, .ref yK, .ref yV])), (yo, .inl (cYo, 24, .inl (upd go yn o))), (yf, .inl (cYf, 24, .inl gf)), (yb, .inl (cYb, 24, .inl gs))]) (yn) rfl rfl rfl (by omega) (by decide) d_Y_add_70 rfl ?_
              refine zk_aload_n (pc := 71) X d_Y_add_71 rfl (q := 1) rfl ?_
              refine zk_get (pc := 72) X (ci := 7) (v := .ref yf) in_Y 0 rfl rfl 3 (by decide) (zk_m tw_365) rfl d_Y_add_72 ?_
              refine zk_aload_n (pc := 75) X d_Y_add_75 rfl (q := 1) rfl ?_
              refine zk_get (pc := 76) X (ci := 7) (v := .int (nI yn)) in_Y 0 rfl rfl 1 (by decide) (zk_m tw_363) rfl d_Y_add_76 ?_
              refine zk_iload_n (pc := 79) X d_Y_add_79 rfl (q := 3) rfl ?_
              refine zk_iast (pc := 80) X 2 1 (ws' := [(hy, .inr (7, [.int ys, .int (nI yn), .ref yo, .ref yf, .ref yb, .int yg, .ref ym, .int yc, .int (nI yw), .ref yi, .int yq, .int (nI yl), .ref yL, .int ye, .int yt, .int yS, .int (nI yr), .int (nI ya), .ref yT, .ref yK, .ref yV])), (yo, .inl (cYo, 24, .inl (upd go yn o))), (yf, .inl (cYf, 24, .inl (upd gf yn a))), (yb, .inl (cYb, 24, .inl gs))]) (yn) rfl rfl rfl (by omega) (by decide) d_Y_add_80 rfl ?_
              refine zk_aload_n (pc := 81) X d_Y_add_81 rfl (q := 1) rfl ?_
              refine zk_get (pc := 82) X (ci := 7) (v := .ref yb) in_Y 0 rfl rfl 4 (by decide) (zk_m tw_366) rfl d_Y_add_82 ?_
              refine zk_aload_n (pc := 85) X d_Y_add_85 rfl (q := 1) rfl ?_
              refine zk_get (pc := 86) X (ci := 7) (v := .int (nI yn)) in_Y 0 rfl rfl 1 (by decide) (zk_m tw_363) rfl d_Y_add_86 ?_
              refine zk_iload_n (pc := 89) X d_Y_add_89 rfl (q := 4) rfl ?_
              refine zk_iast (pc := 90) X 3 2 (ws' := [(hy, .inr (7, [.int ys, .int (nI yn), .ref yo, .ref yf, .ref yb, .int yg, .ref ym, .int yc, .int (nI yw), .ref yi, .int yq, .int (nI yl), .ref yL, .int ye, .int yt, .int yS, .int (nI yr), .int (nI ya), .ref yT, .ref yK, .ref yV])), (yo, .inl (cYo, 24, .inl (upd go yn o))), (yf, .inl (cYf, 24, .inl (upd gf yn a))), (yb, .inl (cYb, 24, .inl (upd gs yn b)))]) (yn) rfl rfl rfl (by omega) (by decide) d_Y_add_90 rfl ?_
              refine zk_aload_n (pc := 91) X d_Y_add_91 rfl (q := 1) rfl ?_
              refine zk_aload_n (pc := 92) X d_Y_add_92 rfl (q := 1) rfl ?_
              refine zk_get (pc := 93) X (ci := 7) (v := .int (nI yn)) in_Y 0 rfl rfl 1 (by decide) (zk_m tw_363) rfl d_Y_add_93 ?_
              refine zk_iconst (pc := 96) X (v := 1) d_Y_add_96 rfl ?_
              refine zk_iadd (pc := 97) X (v := nI (yn + 1)) d_Y_add_97 (nI_add (yn) (1)) ?_
              refine zk_put (pc := 98) X (ty := .int) (v := .int (nI (yn + 1))) (ws' := [(hy, .inr (7, [.int ys, .int (nI (yn + 1)), .ref yo, .ref yf, .ref yb, .int yg, .ref ym, .int yc, .int (nI yw), .ref yi, .int yq, .int (nI yl), .ref yL, .int ye, .int yt, .int yS, .int (nI yr), .int (nI ya), .ref yT, .ref yK, .ref yV])), (yo, .inl (cYo, 24, .inl (upd go yn o))), (yf, .inl (cYf, 24, .inl (upd gf yn a))), (yb, .inl (cYb, 24, .inl (upd gs yn b)))]) in_Y tok_Y nok_Y 0 rfl rfl 1 (by decide) (zk_m tw_363) rfl rfl rfl rfl (Nat.le_of_ble_eq_true rfl) d_Y_add_98 rfl ?_
              refine zk_aload_n (pc := 101) X d_Y_add_101 rfl (q := 1) rfl ?_
              refine zk_get (pc := 102) X (ci := 7) (v := .int (nI (yn + 1))) in_Y 0 rfl rfl 1 (by decide) (zk_m tw_363) rfl d_Y_add_102 ?_
              refine zk_iconst (pc := 105) X (v := 1) d_Y_add_105 rfl ?_
              refine zk_isub (pc := 106) X (v := nI yn) d_Y_add_106 (zk_nsub (yn) 1) ?_
              exact zk_iret (pc := 107) X hQ hRt hLk ((upd go yn o), (upd gf yn a), (upd gs yn b), yn + 1) ⟨hq.symm, (show (yn + 1) ≤ 24 by omega)⟩ [0, 1, 2, 3] rfl (by decide) d_Y_add_107
def sp_Y_anew_2 (M : Nat) (ys : Int32) : Nat → Nat → (Nat → Int32) → (Nat → Int32)
  | 0, j, gm1 => gm1
  | fuel + 1, j, gm1 =>
    if 48 ≤ j then
      (upd gm1 (M + 11) ys)
    else
      sp_Y_anew_2 M ys fuel (j + 1) (upd gm1 (M + j) 0)
def sp_Y_anew (M : Nat) (gm : Nat → Int32) (ys : Int32) : (Nat → Int32) :=
  sp_Y_anew_2 M ys 49 0 gm
abbrev rm_Y_anew : Room := { frames := 0, cells := 0, slots := 0, locals := 0 }
set_option maxHeartbeats 4000000 in
set_option maxRecDepth 100000 in
theorem c_Y_anew (l : Launch) (dC : Nat → ClassId) (dI : Nat → Nat → Nat) (hy yo yf yb ym yi yL yT yK yV : Nat) (cYm : ClassId) (M : Nat) (gm : Nat → Int32) (ys : Int32) (yn : Nat) (yg : Int32) (yc : Int32) (yw : Nat) (yq : Int32) (yl : Nat) (ye : Int32) (yt : Int32) (yS : Int32) (yr : Nat) (ya : Nat) (hM : M ≤ 48) : zk_Cv l y_Y_anew w_Y_anew rm_Y_anew (dC, dI) vwCl [.ref hy, .int (nI M)] [(hy, .inr (7, [.int ys, .int (nI yn), .ref yo, .ref yf, .ref yb, .int yg, .ref ym, .int yc, .int (nI yw), .ref yi, .int yq, .int (nI yl), .ref yL, .int ye, .int yt, .int yS, .int (nI yr), .int (nI ya), .ref yT, .ref yK, .ref yV])), (ym, .inl (cYm, 96, .inl gm))] [(cYm, .int)] (fun (u : (Nat → Int32)) => u = sp_Y_anew M gm ys) (fun u => [(hy, .inr (7, [.int ys, .int (nI yn), .ref yo, .ref yf, .ref yb, .int yg, .ref ym, .int yc, .int (nI yw), .ref yi, .int yq, .int (nI yl), .ref yL, .int ye, .int yt, .int yS, .int (nI yr), .int (nI ya), .ref yT, .ref yK, .ref yV])), (ym, .inl (cYm, 96, .inl u))]) := by
  refine zk_enterv (cc := b_Y_anew) (maxL := 3) (ret := none) (by decide) rfl (Nat.le_of_ble_eq_true rfl) ?_
  intro p e s m args below meth c A Q hQ X hRt hLk
  have cut2 : ∀ (fuel : Nat) (j : Nat) (gm1 : Nat → Int32), (j ≤ 48) → 48 - j < fuel → sp_Y_anew M gm ys = sp_Y_anew_2 M ys fuel j gm1 → zk_Z p l e rm_Y_anew s m args below meth c Q A (dC, dI) vwCl 3 0 0 [(hy, .inr (7, [.int ys, .int (nI yn), .ref yo, .ref yf, .ref yb, .int yg, .ref ym, .int yc, .int (nI yw), .ref yi, .int yq, .int (nI yl), .ref yL, .int ye, .int yt, .int yS, .int (nI yr), .int (nI ya), .ref yT, .ref yK, .ref yV])), (ym, .inl (cYm, 96, .inl gm1))] [(0, .ref hy), (1, .int (nI M)), (2, .int (nI j))] [] 2 := by
    intro fuel
    induction fuel with
    | zero => intro j gm1 hjj hMs; exact absurd hMs (Nat.not_lt_zero _)
    | succ fuel ih =>
      intro j gm1 hjj hMs hq
      rw [sp_Y_anew_2] at hq
      refine zk_iload_n (pc := 2) X d_Y_anew_2 rfl (q := 2) rfl ?_
      refine zk_bipush (pc := 3) X (v := 48) d_Y_anew_3 (by decide) ?_
      refine zk_icmpN_ge (pc := 5) X (tgt := 23) (j) (48) rfl rfl (by omega) (by omega) d_Y_anew_5 (by decide) (fun h5 => ?_) (fun h5 => ?_)
      · have hq := hq.trans (if_pos h5)
        refine zk_aload_n (pc := 23) X d_Y_anew_23 rfl (q := 0) rfl ?_
        refine zk_get (pc := 24) X (ci := 7) (v := .ref ym) in_Y 0 rfl rfl 6 (by decide) (zk_m tw_368) rfl d_Y_anew_24 ?_
        refine zk_iload_n (pc := 27) X d_Y_anew_27 rfl (q := 1) rfl ?_
        refine zk_bipush (pc := 28) X (v := 11) d_Y_anew_28 (by decide) ?_
        refine zk_iadd (pc := 30) X (v := nI (M + 11)) d_Y_anew_30 (nI_add (M) (11)) ?_
        refine zk_aload_n (pc := 31) X d_Y_anew_31 rfl (q := 0) rfl ?_
        refine zk_get (pc := 32) X (ci := 7) (v := .int ys) in_Y 0 rfl rfl 0 (by decide) (zk_m tw_362) rfl d_Y_anew_32 ?_
        refine zk_iast (pc := 35) X 1 0 (ws' := [(hy, .inr (7, [.int ys, .int (nI yn), .ref yo, .ref yf, .ref yb, .int yg, .ref ym, .int yc, .int (nI yw), .ref yi, .int yq, .int (nI yl), .ref yL, .int ye, .int yt, .int yS, .int (nI yr), .int (nI ya), .ref yT, .ref yK, .ref yV])), (ym, .inl (cYm, 96, .inl (upd gm1 (M + 11) ys)))]) (M + 11) rfl rfl rfl (by omega) (by decide) d_Y_anew_35 rfl ?_
        exact zk_vret (pc := 36) X hQ hRt hLk (upd gm1 (M + 11) ys) hq.symm [0, 1] rfl (by decide) d_Y_anew_36
      · have hq := hq.trans (if_neg h5)
        refine zk_aload_n (pc := 8) X d_Y_anew_8 rfl (q := 0) rfl ?_
        refine zk_get (pc := 9) X (ci := 7) (v := .ref ym) in_Y 0 rfl rfl 6 (by decide) (zk_m tw_368) rfl d_Y_anew_9 ?_
        refine zk_iload_n (pc := 12) X d_Y_anew_12 rfl (q := 1) rfl ?_
        refine zk_iload_n (pc := 13) X d_Y_anew_13 rfl (q := 2) rfl ?_
        refine zk_iadd (pc := 14) X (v := nI (M + j)) d_Y_anew_14 (nI_add (M) (j)) ?_
        refine zk_iconst (pc := 15) X (v := 0) d_Y_anew_15 rfl ?_
        refine zk_iast (pc := 16) X 1 0 (ws' := [(hy, .inr (7, [.int ys, .int (nI yn), .ref yo, .ref yf, .ref yb, .int yg, .ref ym, .int yc, .int (nI yw), .ref yi, .int yq, .int (nI yl), .ref yL, .int ye, .int yt, .int yS, .int (nI yr), .int (nI ya), .ref yT, .ref yK, .ref yV])), (ym, .inl (cYm, 96, .inl (upd gm1 (M + j) 0)))]) (M + j) rfl rfl rfl (by omega) (by decide) d_Y_anew_16 rfl ?_
        refine zk_iinc (pc := 17) X (k0 := 2) (v := nI (j + 1)) (lv' := [(2, .int (nI (j + 1))), (0, .ref hy), (1, .int (nI M))]) d_Y_anew_17 rfl (nI_add (j) 1) (by decide) rfl ?_
        refine zk_goto (pc := 20) X (tgt := 2) d_Y_anew_20 (by decide) ?_
        refine zk_lv (lv' := [(0, .ref hy), (1, .int (nI M)), (2, .int (nI (j + 1)))]) [1, 2, 0] rfl ?_
        exact ih (j + 1) (upd gm1 (M + j) 0) (by omega) (by omega) hq
  have hq := sp_Y_anew.eq_1 M gm ys
  refine zk_lv (lv' := [(0, .ref hy), (1, .int (nI M))]) [0, 1] rfl ?_
  refine zk_iconst (pc := 0) X (v := 0) d_Y_anew_0 rfl ?_
  refine zk_istore_n (pc := 1) X (i := 2) (lv' := [(2, .int 0), (0, .ref hy), (1, .int (nI M))]) d_Y_anew_1 rfl (by decide) rfl ?_
  refine zk_lv (lv' := [(0, .ref hy), (1, .int (nI M)), (2, .int 0)]) [1, 2, 0] rfl ?_
  exact cut2 (49) 0 gm (by omega) (by omega) hq
def sp_Y_clear (gm : Nat → Int32) (ys : Int32) (yn : Nat) : Int32 × (Nat → Int32) × Nat × Int32 × Int32 × Nat × Int32 × Nat × Int32 × Int32 × Int32 :=
  (fun gm_17 =>
    (nI yn, gm_17, 0, 0, 0, 0, 0, 0, 0, 0, 1)) (sp_Y_anew 0 gm ys)
abbrev rm_Y_clear : Room := { frames := 1, cells := 0, slots := 0, locals := 22 }
set_option maxHeartbeats 4000000 in
set_option maxRecDepth 100000 in
theorem c_Y_clear (l : Launch) (dC : Nat → ClassId) (dI : Nat → Nat → Nat) (hy yo yf yb ym yi yL yT yK yV : Nat) (cYm : ClassId) (gm : Nat → Int32) (ys : Int32) (yn : Nat) (yg : Int32) (yc : Int32) (yw : Nat) (yq : Int32) (yl : Nat) (ye : Int32) (yt : Int32) (yS : Int32) (yr : Nat) (ya : Nat) : zk_Ci l y_Y_clear w_Y_clear rm_Y_clear (dC, dI) vwCl [.ref hy] [(hy, .inr (7, [.int ys, .int (nI yn), .ref yo, .ref yf, .ref yb, .int yg, .ref ym, .int yc, .int (nI yw), .ref yi, .int yq, .int (nI yl), .ref yL, .int ye, .int yt, .int yS, .int (nI yr), .int (nI ya), .ref yT, .ref yK, .ref yV])), (ym, .inl (cYm, 96, .inl gm))] [(cYm, .int)] (fun (r : Int32) (u : (Nat → Int32) × Nat × Int32 × Int32 × Nat × Int32 × Nat × Int32 × Int32 × Int32) => (r, u) = sp_Y_clear gm ys yn) (fun u => [(hy, .inr (7, [.int ys, .int (nI u.2.1), .ref yo, .ref yf, .ref yb, .int u.2.2.1, .ref ym, .int u.2.2.2.1, .int (nI u.2.2.2.2.1), .ref yi, .int u.2.2.2.2.2.1, .int (nI u.2.2.2.2.2.2.1), .ref yL, .int u.2.2.2.2.2.2.2.1, .int u.2.2.2.2.2.2.2.2.1, .int u.2.2.2.2.2.2.2.2.2, .int (nI yr), .int (nI ya), .ref yT, .ref yK, .ref yV])), (ym, .inl (cYm, 96, .inl u.1))]) := by
  refine zk_enteri (cc := b_Y_clear) (maxL := 2) (ret := some .int) (by decide) rfl (Nat.le_of_ble_eq_true rfl) ?_
  intro p e s m args below meth c A Q hQ X hRt hLk
  have hq := sp_Y_clear.eq_1 gm ys yn
  refine zk_lv (lv' := [(0, .ref hy)]) [0] rfl ?_
  refine zk_aload_n (pc := 0) X d_Y_clear_0 rfl (q := 0) rfl ?_
  refine zk_get (pc := 1) X (ci := 7) (v := .int (nI yn)) in_Y 0 rfl rfl 1 (by decide) (zk_m tw_363) rfl d_Y_clear_1 ?_
  refine zk_istore_n (pc := 4) X (i := 1) (lv' := [(1, .int (nI yn)), (0, .ref hy)]) d_Y_clear_4 rfl (by decide) rfl ?_
  refine zk_aload_n (pc := 5) X d_Y_clear_5 rfl (q := 1) rfl ?_
  refine zk_iconst (pc := 6) X (v := 0) d_Y_clear_6 rfl ?_
  refine zk_put (pc := 7) X (ty := .int) (v := .int 0) (ws' := [(hy, .inr (7, [.int ys, .int 0, .ref yo, .ref yf, .ref yb, .int yg, .ref ym, .int yc, .int (nI yw), .ref yi, .int yq, .int (nI yl), .ref yL, .int ye, .int yt, .int yS, .int (nI yr), .int (nI ya), .ref yT, .ref yK, .ref yV])), (ym, .inl (cYm, 96, .inl gm))]) in_Y tok_Y nok_Y 0 rfl rfl 1 (by decide) (zk_m tw_363) rfl rfl rfl rfl (Nat.le_of_ble_eq_true rfl) d_Y_clear_7 rfl ?_
  refine zk_aload_n (pc := 10) X d_Y_clear_10 rfl (q := 1) rfl ?_
  refine zk_iconst (pc := 11) X (v := 0) d_Y_clear_11 rfl ?_
  refine zk_put (pc := 12) X (ty := .boolean) (v := .int 0) (ws' := [(hy, .inr (7, [.int ys, .int 0, .ref yo, .ref yf, .ref yb, .int 0, .ref ym, .int yc, .int (nI yw), .ref yi, .int yq, .int (nI yl), .ref yL, .int ye, .int yt, .int yS, .int (nI yr), .int (nI ya), .ref yT, .ref yK, .ref yV])), (ym, .inl (cYm, 96, .inl gm))]) in_Y tok_Y nok_Y 0 rfl rfl 5 (by decide) (zk_m tw_367) rfl rfl rfl rfl (Nat.le_of_ble_eq_true rfl) d_Y_clear_12 rfl ?_
  refine zk_aload_n (pc := 15) X d_Y_clear_15 rfl (q := 1) rfl ?_
  refine zk_iconst (pc := 16) X (v := 0) d_Y_clear_16 rfl ?_
  refine zk_callv (pc := 17) X (wc := [(hy, .inr (7, [.int ys, .int 0, .ref yo, .ref yf, .ref yb, .int 0, .ref ym, .int yc, .int (nI yw), .ref yi, .int yq, .int (nI yl), .ref yL, .int ye, .int yt, .int yS, .int (nI yr), .int (nI ya), .ref yT, .ref yK, .ref yV])), (ym, .inl (cYm, 96, .inl gm))]) (wr := []) [0, 1] [] rfl rfl (by decide) (by decide) (by decide) (zk_runV X (C := R_Y) (tysC := [(cYm, .int)]) (As := [.int 0]) (rest := []) (c_Y_anew l dC dI hy yo yf yb ym yi yL yT yK yV cYm 0 gm ys 0 0 yc yw yq yl ye yt yS yr ya (by omega)) [0] rfl (ci := 7) rfl 0 rfl (zk_cwV 1 X.1.2.2.2.2 (zk_goodT tw_418) rfl rfl rfl (zk_m tw_416) (zk_m tw_417) (zk_m tw_532) (zk_m tw_9) rfl (by decide +kernel) ⟨Nat.le_of_ble_eq_true rfl, Nat.le_of_ble_eq_true rfl⟩) rfl rfl (Nat.le_of_ble_eq_true rfl) ⟨Nat.zero_le _, Nat.zero_le _⟩ d_Y_clear_17) ?_
  rintro gm_17 w17
  refine zk_ws (ws' := [(hy, .inr (7, [.int ys, .int 0, .ref yo, .ref yf, .ref yb, .int 0, .ref ym, .int yc, .int (nI yw), .ref yi, .int yq, .int (nI yl), .ref yL, .int ye, .int yt, .int yS, .int (nI yr), .int (nI ya), .ref yT, .ref yK, .ref yV])), (ym, .inl (cYm, 96, .inl gm_17))]) rfl ?_
  try dsimp only at w17
  rw [← w17] at hq
  try dsimp only at hq
  refine zk_aload_n (pc := 20) X d_Y_clear_20 rfl (q := 1) rfl ?_
  refine zk_iconst (pc := 21) X (v := 0) d_Y_clear_21 rfl ?_
  refine zk_put (pc := 22) X (ty := .int) (v := .int 0) (ws' := [(hy, .inr (7, [.int ys, .int 0, .ref yo, .ref yf, .ref yb, .int 0, .ref ym, .int 0, .int (nI yw), .ref yi, .int yq, .int (nI yl), .ref yL, .int ye, .int yt, .int yS, .int (nI yr), .int (nI ya), .ref yT, .ref yK, .ref yV])), (ym, .inl (cYm, 96, .inl gm_17))]) in_Y tok_Y nok_Y 0 rfl rfl 7 (by decide) (zk_m tw_369) rfl rfl rfl rfl (Nat.le_of_ble_eq_true rfl) d_Y_clear_22 rfl ?_
  refine zk_aload_n (pc := 25) X d_Y_clear_25 rfl (q := 1) rfl ?_
  refine zk_iconst (pc := 26) X (v := 0) d_Y_clear_26 rfl ?_
  refine zk_put (pc := 27) X (ty := .int) (v := .int 0) (ws' := [(hy, .inr (7, [.int ys, .int 0, .ref yo, .ref yf, .ref yb, .int 0, .ref ym, .int 0, .int 0, .ref yi, .int yq, .int (nI yl), .ref yL, .int ye, .int yt, .int yS, .int (nI yr), .int (nI ya), .ref yT, .ref yK, .ref yV])), (ym, .inl (cYm, 96, .inl gm_17))]) in_Y tok_Y nok_Y 0 rfl rfl 8 (by decide) (zk_m tw_370) rfl rfl rfl rfl (Nat.le_of_ble_eq_true rfl) d_Y_clear_27 rfl ?_
  refine zk_aload_n (pc := 30) X d_Y_clear_30 rfl (q := 1) rfl ?_
  refine zk_iconst (pc := 31) X (v := 0) d_Y_clear_31 rfl ?_
  refine zk_put (pc := 32) X (ty := .boolean) (v := .int 0) (ws' := [(hy, .inr (7, [.int ys, .int 0, .ref yo, .ref yf, .ref yb, .int 0, .ref ym, .int 0, .int 0, .ref yi, .int 0, .int (nI yl), .ref yL, .int ye, .int yt, .int yS, .int (nI yr), .int (nI ya), .ref yT, .ref yK, .ref yV])), (ym, .inl (cYm, 96, .inl gm_17))]) in_Y tok_Y nok_Y 0 rfl rfl 10 (by decide) (zk_m tw_372) rfl rfl rfl rfl (Nat.le_of_ble_eq_true rfl) d_Y_clear_32 rfl ?_
  refine zk_aload_n (pc := 35) X d_Y_clear_35 rfl (q := 1) rfl ?_
  refine zk_iconst (pc := 36) X (v := 0) d_Y_clear_36 rfl ?_
  refine zk_put (pc := 37) X (ty := .int) (v := .int 0) (ws' := [(hy, .inr (7, [.int ys, .int 0, .ref yo, .ref yf, .ref yb, .int 0, .ref ym, .int 0, .int 0, .ref yi, .int 0, .int 0, .ref yL, .int ye, .int yt, .int yS, .int (nI yr), .int (nI ya), .ref yT, .ref yK, .ref yV])), (ym, .inl (cYm, 96, .inl gm_17))]) in_Y tok_Y nok_Y 0 rfl rfl 11 (by decide) (zk_m tw_373) rfl rfl rfl rfl (Nat.le_of_ble_eq_true rfl) d_Y_clear_37 rfl ?_
  refine zk_aload_n (pc := 40) X d_Y_clear_40 rfl (q := 1) rfl ?_
  refine zk_iconst (pc := 41) X (v := 0) d_Y_clear_41 rfl ?_
  refine zk_put (pc := 42) X (ty := .int) (v := .int 0) (ws' := [(hy, .inr (7, [.int ys, .int 0, .ref yo, .ref yf, .ref yb, .int 0, .ref ym, .int 0, .int 0, .ref yi, .int 0, .int 0, .ref yL, .int 0, .int yt, .int yS, .int (nI yr), .int (nI ya), .ref yT, .ref yK, .ref yV])), (ym, .inl (cYm, 96, .inl gm_17))]) in_Y tok_Y nok_Y 0 rfl rfl 13 (by decide) (zk_m tw_375) rfl rfl rfl rfl (Nat.le_of_ble_eq_true rfl) d_Y_clear_42 rfl ?_
  refine zk_aload_n (pc := 45) X d_Y_clear_45 rfl (q := 1) rfl ?_
  refine zk_iconst (pc := 46) X (v := 0) d_Y_clear_46 rfl ?_
  refine zk_put (pc := 47) X (ty := .int) (v := .int 0) (ws' := [(hy, .inr (7, [.int ys, .int 0, .ref yo, .ref yf, .ref yb, .int 0, .ref ym, .int 0, .int 0, .ref yi, .int 0, .int 0, .ref yL, .int 0, .int 0, .int yS, .int (nI yr), .int (nI ya), .ref yT, .ref yK, .ref yV])), (ym, .inl (cYm, 96, .inl gm_17))]) in_Y tok_Y nok_Y 0 rfl rfl 14 (by decide) (zk_m tw_376) rfl rfl rfl rfl (Nat.le_of_ble_eq_true rfl) d_Y_clear_47 rfl ?_
  refine zk_aload_n (pc := 50) X d_Y_clear_50 rfl (q := 1) rfl ?_
  refine zk_iconst (pc := 51) X (v := 1) d_Y_clear_51 rfl ?_
  refine zk_put (pc := 52) X (ty := .int) (v := .int 1) (ws' := [(hy, .inr (7, [.int ys, .int 0, .ref yo, .ref yf, .ref yb, .int 0, .ref ym, .int 0, .int 0, .ref yi, .int 0, .int 0, .ref yL, .int 0, .int 0, .int 1, .int (nI yr), .int (nI ya), .ref yT, .ref yK, .ref yV])), (ym, .inl (cYm, 96, .inl gm_17))]) in_Y tok_Y nok_Y 0 rfl rfl 15 (by decide) (zk_m tw_377) rfl rfl rfl rfl (Nat.le_of_ble_eq_true rfl) d_Y_clear_52 rfl ?_
  refine zk_iload_n (pc := 55) X d_Y_clear_55 rfl (q := 0) rfl ?_
  exact zk_iret (pc := 56) X hQ hRt hLk (gm_17, 0, 0, 0, 0, 0, 0, 0, 0, 1) hq.symm [0, 1] rfl (by decide) d_Y_clear_56
def sp_Y_input (v : Int32) (gi : Nat → Int32) (yw : Nat) : Int32 × (Nat → Int32) × Nat :=
  if yw < 16 then
    (nI (yw + 1), (upd gi yw v), yw + 1)
  else
    ((-1), gi, yw)
abbrev rm_Y_input : Room := { frames := 0, cells := 0, slots := 0, locals := 0 }
set_option maxHeartbeats 4000000 in
set_option maxRecDepth 100000 in
theorem c_Y_input (l : Launch) (dC : Nat → ClassId) (dI : Nat → Nat → Nat) (hy yo yf yb ym yi yL yT yK yV : Nat) (cYi : ClassId) (v : Int32) (gi : Nat → Int32) (ys : Int32) (yn : Nat) (yg : Int32) (yc : Int32) (yw : Nat) (yq : Int32) (yl : Nat) (ye : Int32) (yt : Int32) (yS : Int32) (yr : Nat) (ya : Nat) (hyw : yw ≤ 16) : zk_Ci l y_Y_input w_Y_input rm_Y_input (dC, dI) vwCl [.ref hy, .int v] [(hy, .inr (7, [.int ys, .int (nI yn), .ref yo, .ref yf, .ref yb, .int yg, .ref ym, .int yc, .int (nI yw), .ref yi, .int yq, .int (nI yl), .ref yL, .int ye, .int yt, .int yS, .int (nI yr), .int (nI ya), .ref yT, .ref yK, .ref yV])), (yi, .inl (cYi, 16, .inl gi))] [(cYi, .int)] (fun (r : Int32) (u : (Nat → Int32) × Nat) => (r, u) = sp_Y_input v gi yw ∧ (u.2 ≤ 16)) (fun u => [(hy, .inr (7, [.int ys, .int (nI yn), .ref yo, .ref yf, .ref yb, .int yg, .ref ym, .int yc, .int (nI u.2), .ref yi, .int yq, .int (nI yl), .ref yL, .int ye, .int yt, .int yS, .int (nI yr), .int (nI ya), .ref yT, .ref yK, .ref yV])), (yi, .inl (cYi, 16, .inl u.1))]) := by
  refine zk_enteri (cc := b_Y_input) (maxL := 2) (ret := some .int) (by decide) rfl (Nat.le_of_ble_eq_true rfl) ?_
  intro p e s m args below meth c A Q hQ X hRt hLk
  have hq := sp_Y_input.eq_1 v gi yw
  refine zk_lv (lv' := [(0, .ref hy), (1, .int v)]) [0, 1] rfl ?_
  refine zk_aload_n (pc := 0) X d_Y_input_0 rfl (q := 0) rfl ?_
  refine zk_get (pc := 1) X (ci := 7) (v := .int (nI yw)) in_Y 0 rfl rfl 8 (by decide) (zk_m tw_370) rfl d_Y_input_1 ?_
  refine zk_bipush (pc := 4) X (v := 16) d_Y_input_4 (by decide) ?_
  refine zk_icmpN_lt (pc := 6) X (tgt := 11) (yw) (16) rfl rfl (by omega) (by omega) d_Y_input_6 (by decide) (fun h6 => ?_) (fun h6 => ?_)
  · have hq := hq.trans (if_pos h6)
    refine zk_aload_n (pc := 11) X d_Y_input_11 rfl (q := 0) rfl ?_
    refine zk_get (pc := 12) X (ci := 7) (v := .ref yi) in_Y 0 rfl rfl 9 (by decide) (zk_m tw_371) rfl d_Y_input_12 ?_
    refine zk_aload_n (pc := 15) X d_Y_input_15 rfl (q := 0) rfl ?_
    refine zk_get (pc := 16) X (ci := 7) (v := .int (nI yw)) in_Y 0 rfl rfl 8 (by decide) (zk_m tw_370) rfl d_Y_input_16 ?_
    refine zk_iload_n (pc := 19) X d_Y_input_19 rfl (q := 1) rfl ?_
    refine zk_iast (pc := 20) X 1 0 (ws' := [(hy, .inr (7, [.int ys, .int (nI yn), .ref yo, .ref yf, .ref yb, .int yg, .ref ym, .int yc, .int (nI yw), .ref yi, .int yq, .int (nI yl), .ref yL, .int ye, .int yt, .int yS, .int (nI yr), .int (nI ya), .ref yT, .ref yK, .ref yV])), (yi, .inl (cYi, 16, .inl (upd gi yw v)))]) (yw) rfl rfl rfl (by omega) (by decide) d_Y_input_20 rfl ?_
    refine zk_aload_n (pc := 21) X d_Y_input_21 rfl (q := 0) rfl ?_
    refine zk_aload_n (pc := 22) X d_Y_input_22 rfl (q := 0) rfl ?_
    refine zk_get (pc := 23) X (ci := 7) (v := .int (nI yw)) in_Y 0 rfl rfl 8 (by decide) (zk_m tw_370) rfl d_Y_input_23 ?_
    refine zk_iconst (pc := 26) X (v := 1) d_Y_input_26 rfl ?_
    refine zk_iadd (pc := 27) X (v := nI (yw + 1)) d_Y_input_27 (nI_add (yw) (1)) ?_
    refine zk_put (pc := 28) X (ty := .int) (v := .int (nI (yw + 1))) (ws' := [(hy, .inr (7, [.int ys, .int (nI yn), .ref yo, .ref yf, .ref yb, .int yg, .ref ym, .int yc, .int (nI (yw + 1)), .ref yi, .int yq, .int (nI yl), .ref yL, .int ye, .int yt, .int yS, .int (nI yr), .int (nI ya), .ref yT, .ref yK, .ref yV])), (yi, .inl (cYi, 16, .inl (upd gi yw v)))]) in_Y tok_Y nok_Y 0 rfl rfl 8 (by decide) (zk_m tw_370) rfl rfl rfl rfl (Nat.le_of_ble_eq_true rfl) d_Y_input_28 rfl ?_
    refine zk_aload_n (pc := 31) X d_Y_input_31 rfl (q := 0) rfl ?_
    refine zk_get (pc := 32) X (ci := 7) (v := .int (nI (yw + 1))) in_Y 0 rfl rfl 8 (by decide) (zk_m tw_370) rfl d_Y_input_32 ?_
    exact zk_iret (pc := 35) X hQ hRt hLk ((upd gi yw v), yw + 1) ⟨hq.symm, (show (yw + 1) ≤ 16 by omega)⟩ [0, 1] rfl (by decide) d_Y_input_35
  · have hq := hq.trans (if_neg h6)
    refine zk_iconst (pc := 9) X (v := (-1)) d_Y_input_9 rfl ?_
    exact zk_iret (pc := 10) X hQ hRt hLk (gi, yw) ⟨hq.symm, (show yw ≤ 16 by omega)⟩ [0, 1] rfl (by decide) d_Y_input_10
def sp_Y_request (yq : Int32) : Int32 × Int32 :=
  if yq = 0 then
    (1, 1)
  else
    (0, 1)
abbrev rm_Y_request : Room := { frames := 0, cells := 0, slots := 0, locals := 0 }
set_option maxHeartbeats 4000000 in
set_option maxRecDepth 100000 in
theorem c_Y_request (l : Launch) (dC : Nat → ClassId) (dI : Nat → Nat → Nat) (hy yo yf yb ym yi yL yT yK yV : Nat) (ys : Int32) (yn : Nat) (yg : Int32) (yc : Int32) (yw : Nat) (yq : Int32) (yl : Nat) (ye : Int32) (yt : Int32) (yS : Int32) (yr : Nat) (ya : Nat) : zk_Ci l y_Y_request w_Y_request rm_Y_request (dC, dI) vwCl [.ref hy] [(hy, .inr (7, [.int ys, .int (nI yn), .ref yo, .ref yf, .ref yb, .int yg, .ref ym, .int yc, .int (nI yw), .ref yi, .int yq, .int (nI yl), .ref yL, .int ye, .int yt, .int yS, .int (nI yr), .int (nI ya), .ref yT, .ref yK, .ref yV]))] [] (fun (r : Int32) (u : Int32) => (r, u) = sp_Y_request yq) (fun u => [(hy, .inr (7, [.int ys, .int (nI yn), .ref yo, .ref yf, .ref yb, .int yg, .ref ym, .int yc, .int (nI yw), .ref yi, .int u, .int (nI yl), .ref yL, .int ye, .int yt, .int yS, .int (nI yr), .int (nI ya), .ref yT, .ref yK, .ref yV]))]) := by
  refine zk_enteri (cc := b_Y_request) (maxL := 2) (ret := some .boolean) (by decide) rfl (Nat.le_of_ble_eq_true rfl) ?_
  intro p e s m args below meth c A Q hQ X hRt hLk
  have hq := sp_Y_request.eq_1 yq
  refine zk_lv (lv' := [(0, .ref hy)]) [0] rfl ?_
  refine zk_aload_n (pc := 0) X d_Y_request_0 rfl (q := 0) rfl ?_
  refine zk_get (pc := 1) X (ci := 7) (v := .int yq) in_Y 0 rfl rfl 10 (by decide) (zk_m tw_372) rfl d_Y_request_1 ?_
  refine zk_istore_n (pc := 4) X (i := 1) (lv' := [(1, .int yq), (0, .ref hy)]) d_Y_request_4 rfl (by decide) rfl ?_
  refine zk_aload_n (pc := 5) X d_Y_request_5 rfl (q := 1) rfl ?_
  refine zk_iconst (pc := 6) X (v := 1) d_Y_request_6 rfl ?_
  refine zk_put (pc := 7) X (ty := .boolean) (v := .int 1) (ws' := [(hy, .inr (7, [.int ys, .int (nI yn), .ref yo, .ref yf, .ref yb, .int yg, .ref ym, .int yc, .int (nI yw), .ref yi, .int 1, .int (nI yl), .ref yL, .int ye, .int yt, .int yS, .int (nI yr), .int (nI ya), .ref yT, .ref yK, .ref yV]))]) in_Y tok_Y nok_Y 0 rfl rfl 10 (by decide) (zk_m tw_372) rfl rfl rfl rfl (Nat.le_of_ble_eq_true rfl) d_Y_request_7 rfl ?_
  refine zk_iload_n (pc := 10) X d_Y_request_10 rfl (q := 0) rfl ?_
  refine zk_if_ne (pc := 11) X (tgt := 18) d_Y_request_11 (by decide) (fun h11 => ?_) (fun h11 => ?_)
  · have hq := hq.trans (if_neg h11)
    refine zk_iconst (pc := 18) X (v := 0) d_Y_request_18 rfl ?_
    exact zk_zret (pc := 19) X hQ hRt hLk rfl 1 hq.symm [0] rfl (by decide) d_Y_request_19
  · have hq := hq.trans (if_pos h11)
    refine zk_iconst (pc := 14) X (v := 1) d_Y_request_14 rfl ?_
    refine zk_goto (pc := 15) X (tgt := 19) d_Y_request_15 (by decide) ?_
    exact zk_zret (pc := 19) X hQ hRt hLk rfl 1 hq.symm [0] rfl (by decide) d_Y_request_19
def sp_Y_pass (n : Int32) (yc : Int32) : Int32 × Int32 :=
  if (sp_Y_in n 1 1000000) = 0 then
    (0, yc)
  else
    (1, (yc + n))
abbrev rm_Y_pass : Room := { frames := 1, cells := 0, slots := 0, locals := 22 }
set_option maxHeartbeats 4000000 in
set_option maxRecDepth 100000 in
theorem c_Y_pass (l : Launch) (dC : Nat → ClassId) (dI : Nat → Nat → Nat) (hy yo yf yb ym yi yL yT yK yV : Nat) (n : Int32) (ys : Int32) (yn : Nat) (yg : Int32) (yc : Int32) (yw : Nat) (yq : Int32) (yl : Nat) (ye : Int32) (yt : Int32) (yS : Int32) (yr : Nat) (ya : Nat) : zk_Ci l y_Y_pass w_Y_pass rm_Y_pass (dC, dI) vwCl [.ref hy, .int n] [(hy, .inr (7, [.int ys, .int (nI yn), .ref yo, .ref yf, .ref yb, .int yg, .ref ym, .int yc, .int (nI yw), .ref yi, .int yq, .int (nI yl), .ref yL, .int ye, .int yt, .int yS, .int (nI yr), .int (nI ya), .ref yT, .ref yK, .ref yV]))] [] (fun (r : Int32) (u : Int32) => (r, u) = sp_Y_pass n yc) (fun u => [(hy, .inr (7, [.int ys, .int (nI yn), .ref yo, .ref yf, .ref yb, .int yg, .ref ym, .int u, .int (nI yw), .ref yi, .int yq, .int (nI yl), .ref yL, .int ye, .int yt, .int yS, .int (nI yr), .int (nI ya), .ref yT, .ref yK, .ref yV]))]) := by
  refine zk_enteri (cc := b_Y_pass) (maxL := 2) (ret := some .boolean) (by decide) rfl (Nat.le_of_ble_eq_true rfl) ?_
  intro p e s m args below meth c A Q hQ X hRt hLk
  have hq := sp_Y_pass.eq_1 n yc
  refine zk_lv (lv' := [(0, .ref hy), (1, .int n)]) [0, 1] rfl ?_
  refine zk_iload_n (pc := 0) X d_Y_pass_0 rfl (q := 1) rfl ?_
  refine zk_iconst (pc := 1) X (v := 1) d_Y_pass_1 rfl ?_
  refine zk_ldc (pc := 2) X (v := 1000000) d_Y_pass_2 (zk_m tw_431) ?_
  refine zk_calli (pc := 4) X (wc := []) (wr := [(hy, .inr (7, [.int ys, .int (nI yn), .ref yo, .ref yf, .ref yb, .int yg, .ref ym, .int yc, .int (nI yw), .ref yi, .int yq, .int (nI yl), .ref yL, .int ye, .int yt, .int yS, .int (nI yr), .int (nI ya), .ref yT, .ref yK, .ref yV]))]) [] [0] rfl rfl (by decide) (by decide) (by decide) (zk_runS X (tysC := []) (As := [.int n, .int 1, .int 1000000]) (rest := []) (c_Y_in l dC dI n 1 1000000) [] rfl (zk_cwS 3 X.1.2.2.2.2 (zk_goodT tw_411) rfl rfl rfl (zk_m tw_409) (zk_m tw_410) (zk_m tw_9) (by decide +kernel) ⟨Nat.le_of_ble_eq_true rfl, Nat.le_of_ble_eq_true rfl⟩) rfl rfl (Nat.le_of_ble_eq_true rfl) ⟨Nat.zero_le _, Nat.zero_le _⟩ d_Y_pass_4) ?_
  rintro r4 ⟨⟩ ⟨w4, f4_0⟩
  have f4_0 : zk_inr r4 n 1 1000000 := f4_0
  refine zk_ws (ws' := [(hy, .inr (7, [.int ys, .int (nI yn), .ref yo, .ref yf, .ref yb, .int yg, .ref ym, .int yc, .int (nI yw), .ref yi, .int yq, .int (nI yl), .ref yL, .int ye, .int yt, .int yS, .int (nI yr), .int (nI ya), .ref yT, .ref yK, .ref yV]))]) rfl ?_
  subst w4
  refine zk_if_ne (pc := 7) X (tgt := 12) d_Y_pass_7 (by decide) (fun h7 => ?_) (fun h7 => ?_)
  · have hq := hq.trans (if_neg h7)
    refine zk_aload_n (pc := 12) X d_Y_pass_12 rfl (q := 0) rfl ?_
    refine zk_aload_n (pc := 13) X d_Y_pass_13 rfl (q := 0) rfl ?_
    refine zk_get (pc := 14) X (ci := 7) (v := .int yc) in_Y 0 rfl rfl 7 (by decide) (zk_m tw_369) rfl d_Y_pass_14 ?_
    refine zk_iload_n (pc := 17) X d_Y_pass_17 rfl (q := 1) rfl ?_
    refine zk_iadd (pc := 18) X (v := (yc + n)) d_Y_pass_18 rfl ?_
    refine zk_put (pc := 19) X (ty := .int) (v := .int (yc + n)) (ws' := [(hy, .inr (7, [.int ys, .int (nI yn), .ref yo, .ref yf, .ref yb, .int yg, .ref ym, .int (yc + n), .int (nI yw), .ref yi, .int yq, .int (nI yl), .ref yL, .int ye, .int yt, .int yS, .int (nI yr), .int (nI ya), .ref yT, .ref yK, .ref yV]))]) in_Y tok_Y nok_Y 0 rfl rfl 7 (by decide) (zk_m tw_369) rfl rfl rfl rfl (Nat.le_of_ble_eq_true rfl) d_Y_pass_19 rfl ?_
    refine zk_iconst (pc := 22) X (v := 1) d_Y_pass_22 rfl ?_
    exact zk_zret (pc := 23) X hQ hRt hLk rfl (yc + n) hq.symm [0] rfl (by decide) d_Y_pass_23
  · have hq := hq.trans (if_pos h7)
    refine zk_iconst (pc := 10) X (v := 0) d_Y_pass_10 rfl ?_
    exact zk_zret (pc := 11) X hQ hRt hLk rfl yc hq.symm [0] rfl (by decide) d_Y_pass_11
def sp_Y_writeByte (b : Int32) (gl : Nat → Int32) (yl : Nat) (yS : Int32) : (Nat → Int32) × Nat × Int32 :=
  ((upd gl yl b), yl + 1, (sp_Y_mix yS b))
abbrev rm_Y_writeByte : Room := { frames := 1, cells := 0, slots := 0, locals := 22 }
set_option maxHeartbeats 4000000 in
set_option maxRecDepth 100000 in
theorem c_Y_writeByte (l : Launch) (dC : Nat → ClassId) (dI : Nat → Nat → Nat) (hy yo yf yb ym yi yL yT yK yV : Nat) (cYL : ClassId) (b : Int32) (gl : Nat → Int32) (ys : Int32) (yn : Nat) (yg : Int32) (yc : Int32) (yw : Nat) (yq : Int32) (yl : Nat) (ye : Int32) (yt : Int32) (yS : Int32) (yr : Nat) (ya : Nat) (hyl : yl < 320) : zk_Cv l y_Y_writeByte w_Y_writeByte rm_Y_writeByte (dC, dI) vwCl [.ref hy, .int b] [(hy, .inr (7, [.int ys, .int (nI yn), .ref yo, .ref yf, .ref yb, .int yg, .ref ym, .int yc, .int (nI yw), .ref yi, .int yq, .int (nI yl), .ref yL, .int ye, .int yt, .int yS, .int (nI yr), .int (nI ya), .ref yT, .ref yK, .ref yV])), (yL, .inl (cYL, 320, .inl gl))] [(cYL, .int)] (fun (u : (Nat → Int32) × Nat × Int32) => u = sp_Y_writeByte b gl yl yS ∧ (u.2.1 = yl + 1)) (fun u => [(hy, .inr (7, [.int ys, .int (nI yn), .ref yo, .ref yf, .ref yb, .int yg, .ref ym, .int yc, .int (nI yw), .ref yi, .int yq, .int (nI u.2.1), .ref yL, .int ye, .int yt, .int u.2.2, .int (nI yr), .int (nI ya), .ref yT, .ref yK, .ref yV])), (yL, .inl (cYL, 320, .inl u.1))]) := by
  refine zk_enterv (cc := b_Y_writeByte) (maxL := 2) (ret := none) (by decide) rfl (Nat.le_of_ble_eq_true rfl) ?_
  intro p e s m args below meth c A Q hQ X hRt hLk
  have hq := sp_Y_writeByte.eq_1 b gl yl yS
  refine zk_lv (lv' := [(0, .ref hy), (1, .int b)]) [0, 1] rfl ?_
  refine zk_aload_n (pc := 0) X d_Y_writeByte_0 rfl (q := 0) rfl ?_
  refine zk_get (pc := 1) X (ci := 7) (v := .ref yL) in_Y 0 rfl rfl 12 (by decide) (zk_m tw_374) rfl d_Y_writeByte_1 ?_
  refine zk_aload_n (pc := 4) X d_Y_writeByte_4 rfl (q := 0) rfl ?_
  refine zk_get (pc := 5) X (ci := 7) (v := .int (nI yl)) in_Y 0 rfl rfl 11 (by decide) (zk_m tw_373) rfl d_Y_writeByte_5 ?_
  refine zk_iload_n (pc := 8) X d_Y_writeByte_8 rfl (q := 1) rfl ?_
  refine zk_iast (pc := 9) X 1 0 (ws' := [(hy, .inr (7, [.int ys, .int (nI yn), .ref yo, .ref yf, .ref yb, .int yg, .ref ym, .int yc, .int (nI yw), .ref yi, .int yq, .int (nI yl), .ref yL, .int ye, .int yt, .int yS, .int (nI yr), .int (nI ya), .ref yT, .ref yK, .ref yV])), (yL, .inl (cYL, 320, .inl (upd gl yl b)))]) (yl) rfl rfl rfl (by omega) (by decide) d_Y_writeByte_9 rfl ?_
  refine zk_aload_n (pc := 10) X d_Y_writeByte_10 rfl (q := 0) rfl ?_
  refine zk_aload_n (pc := 11) X d_Y_writeByte_11 rfl (q := 0) rfl ?_
  refine zk_get (pc := 12) X (ci := 7) (v := .int (nI yl)) in_Y 0 rfl rfl 11 (by decide) (zk_m tw_373) rfl d_Y_writeByte_12 ?_
  refine zk_iconst (pc := 15) X (v := 1) d_Y_writeByte_15 rfl ?_
  refine zk_iadd (pc := 16) X (v := nI (yl + 1)) d_Y_writeByte_16 (nI_add (yl) (1)) ?_
  refine zk_put (pc := 17) X (ty := .int) (v := .int (nI (yl + 1))) (ws' := [(hy, .inr (7, [.int ys, .int (nI yn), .ref yo, .ref yf, .ref yb, .int yg, .ref ym, .int yc, .int (nI yw), .ref yi, .int yq, .int (nI (yl + 1)), .ref yL, .int ye, .int yt, .int yS, .int (nI yr), .int (nI ya), .ref yT, .ref yK, .ref yV])), (yL, .inl (cYL, 320, .inl (upd gl yl b)))]) in_Y tok_Y nok_Y 0 rfl rfl 11 (by decide) (zk_m tw_373) rfl rfl rfl rfl (Nat.le_of_ble_eq_true rfl) d_Y_writeByte_17 rfl ?_
  refine zk_aload_n (pc := 20) X d_Y_writeByte_20 rfl (q := 0) rfl ?_
  refine zk_aload_n (pc := 21) X d_Y_writeByte_21 rfl (q := 0) rfl ?_
  refine zk_get (pc := 22) X (ci := 7) (v := .int yS) in_Y 0 rfl rfl 15 (by decide) (zk_m tw_377) rfl d_Y_writeByte_22 ?_
  refine zk_iload_n (pc := 25) X d_Y_writeByte_25 rfl (q := 1) rfl ?_
  refine zk_calli (pc := 26) X (wc := []) (wr := [(hy, .inr (7, [.int ys, .int (nI yn), .ref yo, .ref yf, .ref yb, .int yg, .ref ym, .int yc, .int (nI yw), .ref yi, .int yq, .int (nI (yl + 1)), .ref yL, .int ye, .int yt, .int yS, .int (nI yr), .int (nI ya), .ref yT, .ref yK, .ref yV])), (yL, .inl (cYL, 320, .inl (upd gl yl b)))]) [] [0, 1] rfl rfl (by decide) (by decide) (by decide) (zk_runS X (tysC := []) (As := [.int yS, .int b]) (rest := [.ref hy]) (c_Y_mix l dC dI yS b) [] rfl (zk_cwS 2 X.1.2.2.2.2 (zk_goodT tw_458) rfl rfl rfl (zk_m tw_456) (zk_m tw_457) (zk_m tw_9) (by decide +kernel) ⟨Nat.le_of_ble_eq_true rfl, Nat.le_of_ble_eq_true rfl⟩) rfl rfl (Nat.le_of_ble_eq_true rfl) ⟨Nat.zero_le _, Nat.zero_le _⟩ d_Y_writeByte_26) ?_
  rintro r26 ⟨⟩ w26
  refine zk_ws (ws' := [(hy, .inr (7, [.int ys, .int (nI yn), .ref yo, .ref yf, .ref yb, .int yg, .ref ym, .int yc, .int (nI yw), .ref yi, .int yq, .int (nI (yl + 1)), .ref yL, .int ye, .int yt, .int yS, .int (nI yr), .int (nI ya), .ref yT, .ref yK, .ref yV])), (yL, .inl (cYL, 320, .inl (upd gl yl b)))]) rfl ?_
  subst w26
  refine zk_put (pc := 29) X (ty := .int) (v := .int (sp_Y_mix yS b)) (ws' := [(hy, .inr (7, [.int ys, .int (nI yn), .ref yo, .ref yf, .ref yb, .int yg, .ref ym, .int yc, .int (nI yw), .ref yi, .int yq, .int (nI (yl + 1)), .ref yL, .int ye, .int yt, .int (sp_Y_mix yS b), .int (nI yr), .int (nI ya), .ref yT, .ref yK, .ref yV])), (yL, .inl (cYL, 320, .inl (upd gl yl b)))]) in_Y tok_Y nok_Y 0 rfl rfl 15 (by decide) (zk_m tw_377) rfl rfl rfl rfl (Nat.le_of_ble_eq_true rfl) d_Y_writeByte_29 rfl ?_
  exact zk_vret (pc := 32) X hQ hRt hLk ((upd gl yl b), yl + 1, (sp_Y_mix yS b)) ⟨hq.symm, (show (yl + 1) = yl + 1 by omega)⟩ [0, 1] rfl (by decide) d_Y_writeByte_32
def sp_Y_writeNumber_2 : Nat → Int64 → (Nat → Int32) → Nat → Int32 → (Nat → Int32) × Nat × Int32
  | 0, rest, gl1, yl1, yS1 => (gl1, yl1, yS1)
  | fuel + 1, rest, gl1, yl1, yS1 =>
    if rest < (128 : Int64) then
      (match sp_Y_writeByte (Int64.toInt32 rest) gl1 yl1 yS1 with
      | (gl_36, yl_36, yS_36) =>
        (gl_36, yl_36, yS_36))
    else
      (match sp_Y_writeByte ((Int64.toInt32 (zf_lrem rest (128 : Int64))) + 128) gl1 yl1 yS1 with
      | (gl_21, yl_21, yS_21) =>
        sp_Y_writeNumber_2 fuel (rest / (128 : Int64)) gl_21 yl_21 yS_21)
def sp_Y_writeNumber (v : Int64) (gl : Nat → Int32) (yl : Nat) (yS : Int32) : (Nat → Int32) × Nat × Int32 :=
  sp_Y_writeNumber_2 5 v gl yl yS
abbrev rm_Y_writeNumber : Room := { frames := 2, cells := 0, slots := 0, locals := 43 }
set_option maxHeartbeats 4000000 in
set_option maxRecDepth 100000 in
theorem c_Y_writeNumber (l : Launch) (dC : Nat → ClassId) (dI : Nat → Nat → Nat) (hy yo yf yb ym yi yL yT yK yV : Nat) (cYL : ClassId) (v : Int64) (gl : Nat → Int32) (ys : Int32) (yn : Nat) (yg : Int32) (yc : Int32) (yw : Nat) (yq : Int32) (yl : Nat) (ye : Int32) (yt : Int32) (yS : Int32) (yr : Nat) (ya : Nat) (hyl : yl + 5 ≤ 320) (hv : v.toInt < 34359738368) : zk_Cv l y_Y_writeNumber w_Y_writeNumber rm_Y_writeNumber (dC, dI) vwCl [.ref hy, .long v] [(hy, .inr (7, [.int ys, .int (nI yn), .ref yo, .ref yf, .ref yb, .int yg, .ref ym, .int yc, .int (nI yw), .ref yi, .int yq, .int (nI yl), .ref yL, .int ye, .int yt, .int yS, .int (nI yr), .int (nI ya), .ref yT, .ref yK, .ref yV])), (yL, .inl (cYL, 320, .inl gl))] [(cYL, .int)] (fun (u : (Nat → Int32) × Nat × Int32) => u = sp_Y_writeNumber v gl yl yS ∧ (u.2.1 ≤ yl + 5)) (fun u => [(hy, .inr (7, [.int ys, .int (nI yn), .ref yo, .ref yf, .ref yb, .int yg, .ref ym, .int yc, .int (nI yw), .ref yi, .int yq, .int (nI u.2.1), .ref yL, .int ye, .int yt, .int u.2.2, .int (nI yr), .int (nI ya), .ref yT, .ref yK, .ref yV])), (yL, .inl (cYL, 320, .inl u.1))]) := by
  refine zk_enterv (cc := b_Y_writeNumber) (maxL := 5) (ret := none) (by decide) rfl (Nat.le_of_ble_eq_true rfl) ?_
  intro p e s m args below meth c A Q hQ X hRt hLk
  have cut2 : ∀ (fuel : Nat) (rest : Int64) (gl1 : Nat → Int32) (yl1 : Nat) (yS1 : Int32), (rest.toInt < 128 ^ fuel) → (yl1 + fuel ≤ yl + 5) → 0 < fuel → sp_Y_writeNumber v gl yl yS = sp_Y_writeNumber_2 fuel rest gl1 yl1 yS1 → zk_Z p l e rm_Y_writeNumber s m args below meth c Q A (dC, dI) vwCl 5 0 0 [(hy, .inr (7, [.int ys, .int (nI yn), .ref yo, .ref yf, .ref yb, .int yg, .ref ym, .int yc, .int (nI yw), .ref yi, .int yq, .int (nI yl1), .ref yL, .int ye, .int yt, .int yS1, .int (nI yr), .int (nI ya), .ref yT, .ref yK, .ref yV])), (yL, .inl (cYL, 320, .inl gl1))] [(0, .ref hy), (1, .long v), (3, .long rest)] [] 2 := by
    intro fuel
    induction fuel with
    | zero => intro rest gl1 yl1 yS1 hr hl1 hMs; exact absurd hMs (Nat.not_lt_zero _)
    | succ fuel ih =>
      intro rest gl1 yl1 yS1 hr hl1 hMs hq
      rw [sp_Y_writeNumber_2] at hq
      refine zk_lload_n (pc := 2) X d_Y_writeNumber_2 rfl (q := 2) rfl ?_
      refine zk_ldc2 (pc := 3) X (v := 128) d_Y_writeNumber_3 (zk_m tw_452) ?_
      refine zk_lc_lt (pc := 6) X (tgt := 33) d_Y_writeNumber_6 d_Y_writeNumber_7 (by decide) (fun h6 => ?_) (fun h6 => ?_)
      · have hq := hq.trans (if_pos h6)
        refine zk_aload_n (pc := 33) X d_Y_writeNumber_33 rfl (q := 0) rfl ?_
        refine zk_lload_n (pc := 34) X d_Y_writeNumber_34 rfl (q := 2) rfl ?_
        refine zk_l2i (pc := 35) X (v := (Int64.toInt32 rest)) d_Y_writeNumber_35 rfl ?_
        refine zk_callv (pc := 36) X (wc := [(hy, .inr (7, [.int ys, .int (nI yn), .ref yo, .ref yf, .ref yb, .int yg, .ref ym, .int yc, .int (nI yw), .ref yi, .int yq, .int (nI yl1), .ref yL, .int ye, .int yt, .int yS1, .int (nI yr), .int (nI ya), .ref yT, .ref yK, .ref yV])), (yL, .inl (cYL, 320, .inl gl1))]) (wr := []) [0, 1] [] rfl rfl (by decide) (by decide) (by decide) (zk_runV X (C := R_Y) (tysC := [(cYL, .int)]) (As := [.int (Int64.toInt32 rest)]) (rest := []) (c_Y_writeByte l dC dI hy yo yf yb ym yi yL yT yK yV cYL (Int64.toInt32 rest) gl1 ys yn yg yc yw yq yl1 ye yt yS1 yr ya (by omega)) [0] rfl (ci := 7) rfl 0 rfl (zk_cwV 1 X.1.2.2.2.2 (zk_goodT tw_455) rfl rfl rfl (zk_m tw_453) (zk_m tw_454) (zk_m tw_538) (zk_m tw_9) rfl (by decide +kernel) ⟨Nat.le_of_ble_eq_true rfl, Nat.le_of_ble_eq_true rfl⟩) rfl rfl (Nat.le_of_ble_eq_true rfl) ⟨Nat.zero_le _, Nat.zero_le _⟩ d_Y_writeNumber_36) ?_
        rintro ⟨gl_36, yl_36, yS_36⟩ ⟨w36, f36_0⟩
        have f36_0 : yl_36 = yl1 + 1 := f36_0
        refine zk_ws (ws' := [(hy, .inr (7, [.int ys, .int (nI yn), .ref yo, .ref yf, .ref yb, .int yg, .ref ym, .int yc, .int (nI yw), .ref yi, .int yq, .int (nI yl_36), .ref yL, .int ye, .int yt, .int yS_36, .int (nI yr), .int (nI ya), .ref yT, .ref yK, .ref yV])), (yL, .inl (cYL, 320, .inl gl_36))]) rfl ?_
        try dsimp only at w36
        rw [← w36] at hq
        try dsimp only at hq
        exact zk_vret (pc := 39) X hQ hRt hLk (gl_36, yl_36, yS_36) ⟨hq.symm, (show yl_36 ≤ yl + 5 by omega)⟩ [0, 1] rfl (by decide) d_Y_writeNumber_39
      · have hq := hq.trans (if_neg h6)
        refine zk_aload_n (pc := 10) X d_Y_writeNumber_10 rfl (q := 0) rfl ?_
        refine zk_lload_n (pc := 11) X d_Y_writeNumber_11 rfl (q := 2) rfl ?_
        refine zk_ldc2 (pc := 12) X (v := 128) d_Y_writeNumber_12 (zk_m tw_452) ?_
        refine zk_lrem (pc := 15) X (v := (zf_lrem rest (128 : Int64))) d_Y_writeNumber_15 (by decide) rfl ?_
        refine zk_l2i (pc := 16) X (v := (Int64.toInt32 (zf_lrem rest (128 : Int64)))) d_Y_writeNumber_16 rfl ?_
        refine zk_sipush (pc := 17) X (v := 128) d_Y_writeNumber_17 (by decide) ?_
        refine zk_iadd (pc := 20) X (v := ((Int64.toInt32 (zf_lrem rest (128 : Int64))) + 128)) d_Y_writeNumber_20 rfl ?_
        refine zk_callv (pc := 21) X (wc := [(hy, .inr (7, [.int ys, .int (nI yn), .ref yo, .ref yf, .ref yb, .int yg, .ref ym, .int yc, .int (nI yw), .ref yi, .int yq, .int (nI yl1), .ref yL, .int ye, .int yt, .int yS1, .int (nI yr), .int (nI ya), .ref yT, .ref yK, .ref yV])), (yL, .inl (cYL, 320, .inl gl1))]) (wr := []) [0, 1] [] rfl rfl (by decide) (by decide) (by decide) (zk_runV X (C := R_Y) (tysC := [(cYL, .int)]) (As := [.int ((Int64.toInt32 (zf_lrem rest (128 : Int64))) + 128)]) (rest := []) (c_Y_writeByte l dC dI hy yo yf yb ym yi yL yT yK yV cYL ((Int64.toInt32 (zf_lrem rest (128 : Int64))) + 128) gl1 ys yn yg yc yw yq yl1 ye yt yS1 yr ya (by omega)) [0] rfl (ci := 7) rfl 0 rfl (zk_cwV 1 X.1.2.2.2.2 (zk_goodT tw_455) rfl rfl rfl (zk_m tw_453) (zk_m tw_454) (zk_m tw_538) (zk_m tw_9) rfl (by decide +kernel) ⟨Nat.le_of_ble_eq_true rfl, Nat.le_of_ble_eq_true rfl⟩) rfl rfl (Nat.le_of_ble_eq_true rfl) ⟨Nat.zero_le _, Nat.zero_le _⟩ d_Y_writeNumber_21) ?_
        rintro ⟨gl_21, yl_21, yS_21⟩ ⟨w21, f21_0⟩
        have f21_0 : yl_21 = yl1 + 1 := f21_0
        refine zk_ws (ws' := [(hy, .inr (7, [.int ys, .int (nI yn), .ref yo, .ref yf, .ref yb, .int yg, .ref ym, .int yc, .int (nI yw), .ref yi, .int yq, .int (nI yl_21), .ref yL, .int ye, .int yt, .int yS_21, .int (nI yr), .int (nI ya), .ref yT, .ref yK, .ref yV])), (yL, .inl (cYL, 320, .inl gl_21))]) rfl ?_
        try dsimp only at w21
        rw [← w21] at hq
        try dsimp only at hq
        refine zk_lload_n (pc := 24) X d_Y_writeNumber_24 rfl (q := 2) rfl ?_
        refine zk_ldc2 (pc := 25) X (v := 128) d_Y_writeNumber_25 (zk_m tw_452) ?_
        refine zk_ldiv (pc := 28) X (v := (rest / (128 : Int64))) d_Y_writeNumber_28 (by decide) rfl ?_
        refine zk_lstore_n (pc := 29) X (i := 3) (lv' := [(3, .long (rest / (128 : Int64))), (0, .ref hy), (1, .long v)]) d_Y_writeNumber_29 rfl (by decide) rfl ?_
        refine zk_goto (pc := 30) X (tgt := 2) d_Y_writeNumber_30 (by decide) ?_
        refine zk_lv (lv' := [(0, .ref hy), (1, .long v), (3, .long (rest / (128 : Int64)))]) [1, 2, 0] rfl ?_
        exact ih (rest / (128 : Int64)) gl_21 yl_21 yS_21 (zk_d128 h6 hr).1 (by omega) (zk_d128 h6 hr).2 hq
  have hq := sp_Y_writeNumber.eq_1 v gl yl yS
  refine zk_lv (lv' := [(0, .ref hy), (1, .long v)]) [0, 1] rfl ?_
  refine zk_lload_n (pc := 0) X d_Y_writeNumber_0 rfl (q := 1) rfl ?_
  refine zk_lstore_n (pc := 1) X (i := 3) (lv' := [(3, .long v), (0, .ref hy), (1, .long v)]) d_Y_writeNumber_1 rfl (by decide) rfl ?_
  refine zk_lv (lv' := [(0, .ref hy), (1, .long v), (3, .long v)]) [1, 2, 0] rfl ?_
  exact cut2 (5) v gl yl yS (zk_p5 hv) (by omega) (by omega) hq
def sp_Y_writeEntry (kind : Int32) (gm : Nat → Int32) (gl : Nat → Int32) (yl : Nat) (ye : Int32) (yt : Int32) (yS : Int32) : (Nat → Int32) × Nat × Int32 × Int32 × Int32 :=
  (match sp_Y_writeNumber (((4 : Int64) * (Int32.toInt64 ((gm 9) - yt))) + (Int32.toInt64 kind)) gl yl yS with
  | (gl_23, yl_23, yS_23) =>
    (gl_23, yl_23, yS_23, (gm 9), (ye + 1)))
abbrev rm_Y_writeEntry : Room := { frames := 3, cells := 0, slots := 0, locals := 67 }
set_option maxHeartbeats 4000000 in
set_option maxRecDepth 100000 in
theorem c_Y_writeEntry (l : Launch) (dC : Nat → ClassId) (dI : Nat → Nat → Nat) (hy yo yf yb ym yi yL yT yK yV : Nat) (cYm cYL : ClassId) (kind : Int32) (gm : Nat → Int32) (gl : Nat → Int32) (ys : Int32) (yn : Nat) (yg : Int32) (yc : Int32) (yw : Nat) (yq : Int32) (yl : Nat) (ye : Int32) (yt : Int32) (yS : Int32) (yr : Nat) (ya : Nat) (hyl : yl + 5 ≤ 320) : zk_Cv l y_Y_writeEntry w_Y_writeEntry rm_Y_writeEntry (dC, dI) vwCl [.ref hy, .int kind] [(hy, .inr (7, [.int ys, .int (nI yn), .ref yo, .ref yf, .ref yb, .int yg, .ref ym, .int yc, .int (nI yw), .ref yi, .int yq, .int (nI yl), .ref yL, .int ye, .int yt, .int yS, .int (nI yr), .int (nI ya), .ref yT, .ref yK, .ref yV])), (ym, .inl (cYm, 96, .inl gm)), (yL, .inl (cYL, 320, .inl gl))] [(cYm, .int), (cYL, .int)] (fun (u : (Nat → Int32) × Nat × Int32 × Int32 × Int32) => u = sp_Y_writeEntry kind gm gl yl ye yt yS ∧ (u.2.1 ≤ yl + 5)) (fun u => [(hy, .inr (7, [.int ys, .int (nI yn), .ref yo, .ref yf, .ref yb, .int yg, .ref ym, .int yc, .int (nI yw), .ref yi, .int yq, .int (nI u.2.1), .ref yL, .int u.2.2.2.2, .int u.2.2.2.1, .int u.2.2.1, .int (nI yr), .int (nI ya), .ref yT, .ref yK, .ref yV])), (ym, .inl (cYm, 96, .inl gm)), (yL, .inl (cYL, 320, .inl u.1))]) := by
  refine zk_enterv (cc := b_Y_writeEntry) (maxL := 3) (ret := none) (by decide) rfl (Nat.le_of_ble_eq_true rfl) ?_
  intro p e s m args below meth c A Q hQ X hRt hLk
  have hq := sp_Y_writeEntry.eq_1 kind gm gl yl ye yt yS
  refine zk_lv (lv' := [(0, .ref hy), (1, .int kind)]) [0, 1] rfl ?_
  refine zk_aload_n (pc := 0) X d_Y_writeEntry_0 rfl (q := 0) rfl ?_
  refine zk_get (pc := 1) X (ci := 7) (v := .ref ym) in_Y 0 rfl rfl 6 (by decide) (zk_m tw_368) rfl d_Y_writeEntry_1 ?_
  refine zk_bipush (pc := 4) X (v := 9) d_Y_writeEntry_4 (by decide) ?_
  refine zk_iald (pc := 6) X 1 0 (9) rfl rfl rfl (by decide) (by decide) d_Y_writeEntry_6 ?_
  refine zk_istore_n (pc := 7) X (i := 2) (lv' := [(2, .int (gm 9)), (0, .ref hy), (1, .int kind)]) d_Y_writeEntry_7 rfl (by decide) rfl ?_
  refine zk_aload_n (pc := 8) X d_Y_writeEntry_8 rfl (q := 1) rfl ?_
  refine zk_ldc2 (pc := 9) X (v := 4) d_Y_writeEntry_9 (zk_m tw_448) ?_
  refine zk_iload_n (pc := 12) X d_Y_writeEntry_12 rfl (q := 0) rfl ?_
  refine zk_aload_n (pc := 13) X d_Y_writeEntry_13 rfl (q := 1) rfl ?_
  refine zk_get (pc := 14) X (ci := 7) (v := .int yt) in_Y 0 rfl rfl 14 (by decide) (zk_m tw_376) rfl d_Y_writeEntry_14 ?_
  refine zk_isub (pc := 17) X (v := ((gm 9) - yt)) d_Y_writeEntry_17 rfl ?_
  refine zk_i2l (pc := 18) X (v := (Int32.toInt64 ((gm 9) - yt))) d_Y_writeEntry_18 rfl ?_
  refine zk_lmul (pc := 19) X (v := ((4 : Int64) * (Int32.toInt64 ((gm 9) - yt)))) d_Y_writeEntry_19 rfl ?_
  refine zk_iload_n (pc := 20) X d_Y_writeEntry_20 rfl (q := 2) rfl ?_
  refine zk_i2l (pc := 21) X (v := (Int32.toInt64 kind)) d_Y_writeEntry_21 rfl ?_
  refine zk_ladd (pc := 22) X (v := (((4 : Int64) * (Int32.toInt64 ((gm 9) - yt))) + (Int32.toInt64 kind))) d_Y_writeEntry_22 rfl ?_
  refine zk_callv (pc := 23) X (wc := [(hy, .inr (7, [.int ys, .int (nI yn), .ref yo, .ref yf, .ref yb, .int yg, .ref ym, .int yc, .int (nI yw), .ref yi, .int yq, .int (nI yl), .ref yL, .int ye, .int yt, .int yS, .int (nI yr), .int (nI ya), .ref yT, .ref yK, .ref yV])), (yL, .inl (cYL, 320, .inl gl))]) (wr := [(ym, .inl (cYm, 96, .inl gm))]) [0, 2] [1] rfl rfl (by decide) (by decide) (by decide) (zk_runV X (C := R_Y) (tysC := [(cYL, .int)]) (As := [.long (((4 : Int64) * (Int32.toInt64 ((gm 9) - yt))) + (Int32.toInt64 kind))]) (rest := []) (c_Y_writeNumber l dC dI hy yo yf yb ym yi yL yT yK yV cYL (((4 : Int64) * (Int32.toInt64 ((gm 9) - yt))) + (Int32.toInt64 kind)) gl ys yn yg yc yw yq yl ye yt yS yr ya (by omega) (zk_we _ _)) [1] rfl (ci := 7) rfl 0 rfl (zk_cwV 1 X.1.2.2.2.2 (zk_goodT tw_451) rfl rfl rfl (zk_m tw_449) (zk_m tw_450) (zk_m tw_537) (zk_m tw_9) rfl (by decide +kernel) ⟨Nat.le_of_ble_eq_true rfl, Nat.le_of_ble_eq_true rfl⟩) rfl rfl (Nat.le_of_ble_eq_true rfl) ⟨Nat.zero_le _, Nat.zero_le _⟩ d_Y_writeEntry_23) ?_
  rintro ⟨gl_23, yl_23, yS_23⟩ ⟨w23, f23_0⟩
  have f23_0 : yl_23 ≤ yl + 5 := f23_0
  refine zk_ws (ws' := [(ym, .inl (cYm, 96, .inl gm)), (hy, .inr (7, [.int ys, .int (nI yn), .ref yo, .ref yf, .ref yb, .int yg, .ref ym, .int yc, .int (nI yw), .ref yi, .int yq, .int (nI yl_23), .ref yL, .int ye, .int yt, .int yS_23, .int (nI yr), .int (nI ya), .ref yT, .ref yK, .ref yV])), (yL, .inl (cYL, 320, .inl gl_23))]) rfl ?_
  try dsimp only at w23
  rw [← w23] at hq
  try dsimp only at hq
  refine zk_aload_n (pc := 26) X d_Y_writeEntry_26 rfl (q := 1) rfl ?_
  refine zk_iload_n (pc := 27) X d_Y_writeEntry_27 rfl (q := 0) rfl ?_
  refine zk_put (pc := 28) X (ty := .int) (v := .int (gm 9)) (ws' := [(ym, .inl (cYm, 96, .inl gm)), (hy, .inr (7, [.int ys, .int (nI yn), .ref yo, .ref yf, .ref yb, .int yg, .ref ym, .int yc, .int (nI yw), .ref yi, .int yq, .int (nI yl_23), .ref yL, .int ye, .int (gm 9), .int yS_23, .int (nI yr), .int (nI ya), .ref yT, .ref yK, .ref yV])), (yL, .inl (cYL, 320, .inl gl_23))]) in_Y tok_Y nok_Y 1 rfl rfl 14 (by decide) (zk_m tw_376) rfl rfl rfl rfl (Nat.le_of_ble_eq_true rfl) d_Y_writeEntry_28 rfl ?_
  refine zk_aload_n (pc := 31) X d_Y_writeEntry_31 rfl (q := 1) rfl ?_
  refine zk_aload_n (pc := 32) X d_Y_writeEntry_32 rfl (q := 1) rfl ?_
  refine zk_get (pc := 33) X (ci := 7) (v := .int ye) in_Y 1 rfl rfl 13 (by decide) (zk_m tw_375) rfl d_Y_writeEntry_33 ?_
  refine zk_iconst (pc := 36) X (v := 1) d_Y_writeEntry_36 rfl ?_
  refine zk_iadd (pc := 37) X (v := (ye + 1)) d_Y_writeEntry_37 rfl ?_
  refine zk_put (pc := 38) X (ty := .int) (v := .int (ye + 1)) (ws' := [(ym, .inl (cYm, 96, .inl gm)), (hy, .inr (7, [.int ys, .int (nI yn), .ref yo, .ref yf, .ref yb, .int yg, .ref ym, .int yc, .int (nI yw), .ref yi, .int yq, .int (nI yl_23), .ref yL, .int (ye + 1), .int (gm 9), .int yS_23, .int (nI yr), .int (nI ya), .ref yT, .ref yK, .ref yV])), (yL, .inl (cYL, 320, .inl gl_23))]) in_Y tok_Y nok_Y 1 rfl rfl 13 (by decide) (zk_m tw_375) rfl rfl rfl rfl (Nat.le_of_ble_eq_true rfl) d_Y_writeEntry_38 rfl ?_
  exact zk_vret (pc := 41) X hQ hRt hLk (gl_23, yl_23, yS_23, (gm 9), (ye + 1)) ⟨hq.symm, (show yl_23 ≤ yl + 5 by omega)⟩ [1, 0, 2] rfl (by decide) d_Y_writeEntry_41
def sp_Y_found_5 (M : Nat) (kind : Int32) (gm : Nat → Int32) (gt : Nat → Int64) (gk : Nat → Int32) (yr : Nat) : Nat → Int32 → Nat → Int32
  | 0, e1, j => 0
  | fuel + 1, e1, j =>
    if yr ≤ j then
      e1
    else
      if (gt j) = (Int32.toInt64 (gm (M + 9))) then
        if (gk j) = kind then
          sp_Y_found_5 M kind gm gt gk yr fuel (nI j) (j + 1)
        else
          sp_Y_found_5 M kind gm gt gk yr fuel e1 (j + 1)
      else
        sp_Y_found_5 M kind gm gt gk yr fuel e1 (j + 1)
def sp_Y_found (M : Nat) (kind : Int32) (gm : Nat → Int32) (gt : Nat → Int64) (gk : Nat → Int32) (yr : Nat) : Int32 :=
  sp_Y_found_5 M kind gm gt gk yr (yr + 1) (-1) 0
abbrev rm_Y_found : Room := { frames := 0, cells := 0, slots := 0, locals := 0 }
set_option maxHeartbeats 4000000 in
set_option maxRecDepth 100000 in
theorem c_Y_found (l : Launch) (dC : Nat → ClassId) (dI : Nat → Nat → Nat) (hy yo yf yb ym yi yL yT yK yV : Nat) (cYm cYT cYK : ClassId) (M : Nat) (kind : Int32) (gm : Nat → Int32) (gt : Nat → Int64) (gk : Nat → Int32) (ys : Int32) (yn : Nat) (yg : Int32) (yc : Int32) (yw : Nat) (yq : Int32) (yl : Nat) (ye : Int32) (yt : Int32) (yS : Int32) (yr : Nat) (ya : Nat) (hM : M ≤ 48) (hyr : yr ≤ 320) : zk_Ci l y_Y_found w_Y_found rm_Y_found (dC, dI) vwCl [.ref hy, .int (nI M), .int kind] [(hy, .inr (7, [.int ys, .int (nI yn), .ref yo, .ref yf, .ref yb, .int yg, .ref ym, .int yc, .int (nI yw), .ref yi, .int yq, .int (nI yl), .ref yL, .int ye, .int yt, .int yS, .int (nI yr), .int (nI ya), .ref yT, .ref yK, .ref yV])), (ym, .inl (cYm, 96, .inl gm)), (yT, .inl (cYT, 320, .inr (.inl gt))), (yK, .inl (cYK, 320, .inl gk))] [(cYm, .int), (cYT, .long), (cYK, .int)] (fun (r : Int32) (u : Unit) => r = sp_Y_found M kind gm gt gk yr ∧ (zk_fd r yr)) (fun _ => [(hy, .inr (7, [.int ys, .int (nI yn), .ref yo, .ref yf, .ref yb, .int yg, .ref ym, .int yc, .int (nI yw), .ref yi, .int yq, .int (nI yl), .ref yL, .int ye, .int yt, .int yS, .int (nI yr), .int (nI ya), .ref yT, .ref yK, .ref yV])), (ym, .inl (cYm, 96, .inl gm)), (yT, .inl (cYT, 320, .inr (.inl gt))), (yK, .inl (cYK, 320, .inl gk))]) := by
  refine zk_enteri (cc := b_Y_found) (maxL := 5) (ret := some .int) (by decide) rfl (Nat.le_of_ble_eq_true rfl) ?_
  intro p e s m args below meth c A Q hQ X hRt hLk
  have cut5 : ∀ (fuel : Nat) (e1 : Int32) (j : Nat), (j ≤ yr) → (zk_fd e1 j) → yr - j < fuel → sp_Y_found M kind gm gt gk yr = sp_Y_found_5 M kind gm gt gk yr fuel e1 j → zk_Z p l e rm_Y_found s m args below meth c Q A (dC, dI) vwCl 5 0 0 [(hy, .inr (7, [.int ys, .int (nI yn), .ref yo, .ref yf, .ref yb, .int yg, .ref ym, .int yc, .int (nI yw), .ref yi, .int yq, .int (nI yl), .ref yL, .int ye, .int yt, .int yS, .int (nI yr), .int (nI ya), .ref yT, .ref yK, .ref yV])), (ym, .inl (cYm, 96, .inl gm)), (yT, .inl (cYT, 320, .inr (.inl gt))), (yK, .inl (cYK, 320, .inl gk))] [(0, .ref hy), (1, .int (nI M)), (2, .int kind), (3, .int e1), (4, .int (nI j))] [] 5 := by
    intro fuel
    induction fuel with
    | zero => intro e1 j hjj hfd hMs; exact absurd hMs (Nat.not_lt_zero _)
    | succ fuel ih =>
      intro e1 j hjj hfd hMs hq
      rw [sp_Y_found_5] at hq
      refine zk_iload (pc := 5) X d_Y_found_5 (q := 4) rfl ?_
      refine zk_aload_n (pc := 7) X d_Y_found_7 rfl (q := 0) rfl ?_
      refine zk_get (pc := 8) X (ci := 7) (v := .int (nI yr)) in_Y 0 rfl rfl 16 (by decide) (zk_m tw_378) rfl d_Y_found_8 ?_
      refine zk_icmpN_ge (pc := 11) X (tgt := 59) (j) (yr) rfl rfl (by omega) (by omega) d_Y_found_11 (by decide) (fun h11 => ?_) (fun h11 => ?_)
      · have hq := hq.trans (if_pos h11)
        refine zk_iload_n (pc := 59) X d_Y_found_59 rfl (q := 3) rfl ?_
        exact zk_iret (pc := 60) X hQ hRt hLk () ⟨hq.symm, (show zk_fd e1 yr by exact zk_fdm hfd (by omega))⟩ [0, 1, 2, 3] rfl (by decide) d_Y_found_60
      · have hq := hq.trans (if_neg h11)
        refine zk_aload_n (pc := 14) X d_Y_found_14 rfl (q := 0) rfl ?_
        refine zk_get (pc := 15) X (ci := 7) (v := .ref yT) in_Y 0 rfl rfl 18 (by decide) (zk_m tw_380) rfl d_Y_found_15 ?_
        refine zk_iload (pc := 18) X d_Y_found_18 (q := 4) rfl ?_
        refine zk_lald (pc := 20) X 2 1 (j) rfl rfl rfl (by omega) (by decide) d_Y_found_20 ?_
        refine zk_aload_n (pc := 21) X d_Y_found_21 rfl (q := 0) rfl ?_
        refine zk_get (pc := 22) X (ci := 7) (v := .ref ym) in_Y 0 rfl rfl 6 (by decide) (zk_m tw_368) rfl d_Y_found_22 ?_
        refine zk_iload_n (pc := 25) X d_Y_found_25 rfl (q := 1) rfl ?_
        refine zk_bipush (pc := 26) X (v := 9) d_Y_found_26 (by decide) ?_
        refine zk_iadd (pc := 28) X (v := nI (M + 9)) d_Y_found_28 (nI_add (M) (9)) ?_
        refine zk_iald (pc := 29) X 1 0 (M + 9) rfl rfl rfl (by omega) (by decide) d_Y_found_29 ?_
        refine zk_i2l (pc := 30) X (v := (Int32.toInt64 (gm (M + 9)))) d_Y_found_30 rfl ?_
        refine zk_lc_ne (pc := 31) X (tgt := 51) d_Y_found_31 d_Y_found_32 (by decide) (fun h31 => ?_) (fun h31 => ?_)
        · have hq := hq.trans (if_neg h31)
          refine zk_iload_n (pc := 51) X d_Y_found_51 rfl (q := 3) rfl ?_
          refine zk_istore_n (pc := 52) X (i := 3) (lv' := [(3, .int e1), (0, .ref hy), (1, .int (nI M)), (2, .int kind), (4, .int (nI j))]) d_Y_found_52 rfl (by decide) rfl ?_
          refine zk_iinc (pc := 53) X (k0 := 4) (v := nI (j + 1)) (lv' := [(4, .int (nI (j + 1))), (3, .int e1), (0, .ref hy), (1, .int (nI M)), (2, .int kind)]) d_Y_found_53 rfl (nI_add (j) 1) (by decide) rfl ?_
          refine zk_goto (pc := 56) X (tgt := 5) d_Y_found_56 (by decide) ?_
          refine zk_lv (lv' := [(0, .ref hy), (1, .int (nI M)), (2, .int kind), (3, .int e1), (4, .int (nI (j + 1)))]) [2, 3, 4, 1, 0] rfl ?_
          exact ih e1 (j + 1) (by omega) (by first | exact zk_fds hfd | exact zk_fdj _) (by omega) hq
        · have hq := hq.trans (if_pos h31)
          refine zk_aload_n (pc := 35) X d_Y_found_35 rfl (q := 0) rfl ?_
          refine zk_get (pc := 36) X (ci := 7) (v := .ref yK) in_Y 0 rfl rfl 19 (by decide) (zk_m tw_381) rfl d_Y_found_36 ?_
          refine zk_iload (pc := 39) X d_Y_found_39 (q := 4) rfl ?_
          refine zk_iald (pc := 41) X 3 2 (j) rfl rfl rfl (by omega) (by decide) d_Y_found_41 ?_
          refine zk_iload_n (pc := 42) X d_Y_found_42 rfl (q := 2) rfl ?_
          refine zk_icmp_ne (pc := 43) X (tgt := 51) d_Y_found_43 (by decide) (fun h43 => ?_) (fun h43 => ?_)
          · have hq := hq.trans (if_neg h43)
            refine zk_iload_n (pc := 51) X d_Y_found_51 rfl (q := 3) rfl ?_
            refine zk_istore_n (pc := 52) X (i := 3) (lv' := [(3, .int e1), (0, .ref hy), (1, .int (nI M)), (2, .int kind), (4, .int (nI j))]) d_Y_found_52 rfl (by decide) rfl ?_
            refine zk_iinc (pc := 53) X (k0 := 4) (v := nI (j + 1)) (lv' := [(4, .int (nI (j + 1))), (3, .int e1), (0, .ref hy), (1, .int (nI M)), (2, .int kind)]) d_Y_found_53 rfl (nI_add (j) 1) (by decide) rfl ?_
            refine zk_goto (pc := 56) X (tgt := 5) d_Y_found_56 (by decide) ?_
            refine zk_lv (lv' := [(0, .ref hy), (1, .int (nI M)), (2, .int kind), (3, .int e1), (4, .int (nI (j + 1)))]) [2, 3, 4, 1, 0] rfl ?_
            exact ih e1 (j + 1) (by omega) (by first | exact zk_fds hfd | exact zk_fdj _) (by omega) hq
          · have hq := hq.trans (if_pos h43)
            refine zk_iload (pc := 46) X d_Y_found_46 (q := 4) rfl ?_
            refine zk_goto (pc := 48) X (tgt := 52) d_Y_found_48 (by decide) ?_
            refine zk_istore_n (pc := 52) X (i := 3) (lv' := [(3, .int (nI j)), (0, .ref hy), (1, .int (nI M)), (2, .int kind), (4, .int (nI j))]) d_Y_found_52 rfl (by decide) rfl ?_
            refine zk_iinc (pc := 53) X (k0 := 4) (v := nI (j + 1)) (lv' := [(4, .int (nI (j + 1))), (3, .int (nI j)), (0, .ref hy), (1, .int (nI M)), (2, .int kind)]) d_Y_found_53 rfl (nI_add (j) 1) (by decide) rfl ?_
            refine zk_goto (pc := 56) X (tgt := 5) d_Y_found_56 (by decide) ?_
            refine zk_lv (lv' := [(0, .ref hy), (1, .int (nI M)), (2, .int kind), (3, .int (nI j)), (4, .int (nI (j + 1)))]) [2, 3, 4, 1, 0] rfl ?_
            exact ih (nI j) (j + 1) (by omega) (by first | exact zk_fds hfd | exact zk_fdj _) (by omega) hq
  have hq := sp_Y_found.eq_1 M kind gm gt gk yr
  refine zk_lv (lv' := [(0, .ref hy), (1, .int (nI M)), (2, .int kind)]) [0, 1, 2] rfl ?_
  refine zk_iconst (pc := 0) X (v := (-1)) d_Y_found_0 rfl ?_
  refine zk_istore_n (pc := 1) X (i := 3) (lv' := [(3, .int (-1)), (0, .ref hy), (1, .int (nI M)), (2, .int kind)]) d_Y_found_1 rfl (by decide) rfl ?_
  refine zk_iconst (pc := 2) X (v := 0) d_Y_found_2 rfl ?_
  refine zk_istore (pc := 3) X (i := 4) (lv' := [(4, .int 0), (3, .int (-1)), (0, .ref hy), (1, .int (nI M)), (2, .int kind)]) d_Y_found_3 (by decide) rfl ?_
  refine zk_lv (lv' := [(0, .ref hy), (1, .int (nI M)), (2, .int kind), (3, .int (-1)), (4, .int 0)]) [2, 3, 4, 1, 0] rfl ?_
  exact cut5 (yr + 1) (-1) 0 (by omega) (Or.inl rfl) (by omega) hq
