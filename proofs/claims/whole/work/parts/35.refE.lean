def sp_Y_readNumber_4 (gl : Nat → Int32) (yl : Nat) : Nat → Int64 → Nat → Nat → Int64 × Nat
  | 0, nu, j, ya1 => (0, ya1)
  | fuel + 1, nu, j, ya1 =>
    if 5 ≤ j then
      ((-1 : Int64), ya1)
    else
      if ya1 < yl then
        if (128 : Int32) ≤ (gl ya1) then
          sp_Y_readNumber_4 gl yl fuel (nu ||| (zf_lshl (Int32.toInt64 ((gl ya1) &&& 127)) (7 * (nI j)))) (j + 1) (ya1 + 1)
        else
          (((nu ||| (zf_lshl (Int32.toInt64 ((gl ya1) &&& 127)) (7 * (nI j)))) &&& (4294967295 : Int64)), ya1 + 1)
      else
        ((-1 : Int64), ya1)
def sp_Y_readNumber (gl : Nat → Int32) (yl : Nat) (ya : Nat) : Int64 × Nat :=
  sp_Y_readNumber_4 gl yl 6 (0 : Int64) 0 ya
abbrev rm_Y_readNumber : Room := { frames := 0, cells := 0, slots := 0, locals := 0 }
set_option maxHeartbeats 4000000 in
set_option maxRecDepth 100000 in
theorem c_Y_readNumber (l : Launch) (dC : Nat → ClassId) (dI : Nat → Nat → Nat) (hy yo yf yb ym yi yL yT yK yV : Nat) (cYL : ClassId) (gl : Nat → Int32) (ys : Int32) (yn : Nat) (yg : Int32) (yc : Int32) (yw : Nat) (yq : Int32) (yl : Nat) (ye : Int32) (yt : Int32) (yS : Int32) (yr : Nat) (ya : Nat) (hyl : yl ≤ 320) (hya : ya ≤ yl) : zk_Cl l y_Y_readNumber w_Y_readNumber rm_Y_readNumber (dC, dI) vwCl [.ref hy] [(hy, .inr (7, [.int ys, .int (nI yn), .ref yo, .ref yf, .ref yb, .int yg, .ref ym, .int yc, .int (nI yw), .ref yi, .int yq, .int (nI yl), .ref yL, .int ye, .int yt, .int yS, .int (nI yr), .int (nI ya), .ref yT, .ref yK, .ref yV])), (yL, .inl (cYL, 320, .inl gl))] [(cYL, .int)] (fun (r : Int64) (u : Nat) => (r, u) = sp_Y_readNumber gl yl ya ∧ (u ≤ yl) ∧ (ya ≤ u) ∧ (ya < yl → ya + 1 ≤ u)) (fun u => [(hy, .inr (7, [.int ys, .int (nI yn), .ref yo, .ref yf, .ref yb, .int yg, .ref ym, .int yc, .int (nI yw), .ref yi, .int yq, .int (nI yl), .ref yL, .int ye, .int yt, .int yS, .int (nI yr), .int (nI u), .ref yT, .ref yK, .ref yV])), (yL, .inl (cYL, 320, .inl gl))]) := by
  refine zk_enterl (cc := b_Y_readNumber) (maxL := 5) (ret := some .long) (by decide) rfl (Nat.le_of_ble_eq_true rfl) ?_
  intro p e s m args below meth c A Q hQ X hRt hLk
  have cut4 : ∀ (fuel : Nat) (nu : Int64) (j : Nat) (ya1 : Nat), (j ≤ 5) → (ya1 ≤ yl) → (ya1 = ya + j) → 5 - j < fuel → sp_Y_readNumber gl yl ya = sp_Y_readNumber_4 gl yl fuel nu j ya1 → zk_Z p l e rm_Y_readNumber s m args below meth c Q A (dC, dI) vwCl 5 0 0 [(hy, .inr (7, [.int ys, .int (nI yn), .ref yo, .ref yf, .ref yb, .int yg, .ref ym, .int yc, .int (nI yw), .ref yi, .int yq, .int (nI yl), .ref yL, .int ye, .int yt, .int yS, .int (nI yr), .int (nI ya1), .ref yT, .ref yK, .ref yV])), (yL, .inl (cYL, 320, .inl gl))] [(0, .ref hy), (1, .long nu), (3, .int (nI j))] [] 4 := by
    intro fuel
    induction fuel with
    | zero => intro nu j ya1 hjj ha1 ha2 hMs; exact absurd hMs (Nat.not_lt_zero _)
    | succ fuel ih =>
      intro nu j ya1 hjj ha1 ha2 hMs hq
      rw [sp_Y_readNumber_4] at hq
      refine zk_iload_n (pc := 4) X d_Y_readNumber_4 rfl (q := 2) rfl ?_
      refine zk_iconst (pc := 5) X (v := 5) d_Y_readNumber_5 rfl ?_
      refine zk_icmpN_ge (pc := 6) X (tgt := 79) (j) (5) rfl rfl (by omega) (by omega) d_Y_readNumber_6 (by decide) (fun h6 => ?_) (fun h6 => ?_)
      · have hq := hq.trans (if_pos h6)
        refine zk_ldc2 (pc := 79) X (v := -1) d_Y_readNumber_79 (zk_m tw_491) ?_
        exact zk_lret (pc := 82) X hQ hRt hLk ya1 ⟨hq.symm, (show ya1 ≤ yl by omega), (show ya ≤ ya1 by omega), (show ya < yl → ya + 1 ≤ ya1 by omega)⟩ [0, 1] rfl (by decide) d_Y_readNumber_82
      · have hq := hq.trans (if_neg h6)
        refine zk_aload_n (pc := 9) X d_Y_readNumber_9 rfl (q := 0) rfl ?_
        refine zk_get (pc := 10) X (ci := 7) (v := .int (nI ya1)) in_Y 0 rfl rfl 17 (by decide) (zk_m tw_379) rfl d_Y_readNumber_10 ?_
        refine zk_aload_n (pc := 13) X d_Y_readNumber_13 rfl (q := 0) rfl ?_
        refine zk_get (pc := 14) X (ci := 7) (v := .int (nI yl)) in_Y 0 rfl rfl 11 (by decide) (zk_m tw_373) rfl d_Y_readNumber_14 ?_
        refine zk_icmpN_lt (pc := 17) X (tgt := 24) (ya1) (yl) rfl rfl (by omega) (by omega) d_Y_readNumber_17 (by decide) (fun h17 => ?_) (fun h17 => ?_)
        · have hq := hq.trans (if_pos h17)
          refine zk_aload_n (pc := 24) X d_Y_readNumber_24 rfl (q := 0) rfl ?_
          refine zk_get (pc := 25) X (ci := 7) (v := .ref yL) in_Y 0 rfl rfl 12 (by decide) (zk_m tw_374) rfl d_Y_readNumber_25 ?_
          refine zk_aload_n (pc := 28) X d_Y_readNumber_28 rfl (q := 0) rfl ?_
          refine zk_get (pc := 29) X (ci := 7) (v := .int (nI ya1)) in_Y 0 rfl rfl 17 (by decide) (zk_m tw_379) rfl d_Y_readNumber_29 ?_
          refine zk_iald (pc := 32) X 1 0 (ya1) rfl rfl rfl (by omega) (by decide) d_Y_readNumber_32 ?_
          refine zk_istore (pc := 33) X (i := 4) (lv' := [(4, .int (gl ya1)), (0, .ref hy), (1, .long nu), (3, .int (nI j))]) d_Y_readNumber_33 (by decide) rfl ?_
          refine zk_aload_n (pc := 35) X d_Y_readNumber_35 rfl (q := 1) rfl ?_
          refine zk_aload_n (pc := 36) X d_Y_readNumber_36 rfl (q := 1) rfl ?_
          refine zk_get (pc := 37) X (ci := 7) (v := .int (nI ya1)) in_Y 0 rfl rfl 17 (by decide) (zk_m tw_379) rfl d_Y_readNumber_37 ?_
          refine zk_iconst (pc := 40) X (v := 1) d_Y_readNumber_40 rfl ?_
          refine zk_iadd (pc := 41) X (v := nI (ya1 + 1)) d_Y_readNumber_41 (nI_add (ya1) (1)) ?_
          refine zk_put (pc := 42) X (ty := .int) (v := .int (nI (ya1 + 1))) (ws' := [(hy, .inr (7, [.int ys, .int (nI yn), .ref yo, .ref yf, .ref yb, .int yg, .ref ym, .int yc, .int (nI yw), .ref yi, .int yq, .int (nI yl), .ref yL, .int ye, .int yt, .int yS, .int (nI yr), .int (nI (ya1 + 1)), .ref yT, .ref yK, .ref yV])), (yL, .inl (cYL, 320, .inl gl))]) in_Y tok_Y nok_Y 0 rfl rfl 17 (by decide) (zk_m tw_379) rfl rfl rfl rfl (Nat.le_of_ble_eq_true rfl) d_Y_readNumber_42 rfl ?_
          refine zk_lload_n (pc := 45) X d_Y_readNumber_45 rfl (q := 2) rfl ?_
          refine zk_iload (pc := 46) X d_Y_readNumber_46 (q := 0) rfl ?_
          refine zk_bipush (pc := 48) X (v := 127) d_Y_readNumber_48 (by decide) ?_
          refine zk_iand (pc := 50) X (v := ((gl ya1) &&& 127)) d_Y_readNumber_50 rfl ?_
          refine zk_i2l (pc := 51) X (v := (Int32.toInt64 ((gl ya1) &&& 127))) d_Y_readNumber_51 rfl ?_
          refine zk_bipush (pc := 52) X (v := 7) d_Y_readNumber_52 (by decide) ?_
          refine zk_iload_n (pc := 54) X d_Y_readNumber_54 rfl (q := 3) rfl ?_
          refine zk_imul (pc := 55) X (v := (7 * (nI j))) d_Y_readNumber_55 rfl ?_
          refine zk_lshl (pc := 56) X (v := (zf_lshl (Int32.toInt64 ((gl ya1) &&& 127)) (7 * (nI j)))) d_Y_readNumber_56 rfl ?_
          refine zk_lor (pc := 57) X (v := (nu ||| (zf_lshl (Int32.toInt64 ((gl ya1) &&& 127)) (7 * (nI j))))) d_Y_readNumber_57 rfl ?_
          refine zk_lstore_n (pc := 58) X (i := 1) (lv' := [(1, .long (nu ||| (zf_lshl (Int32.toInt64 ((gl ya1) &&& 127)) (7 * (nI j))))), (4, .int (gl ya1)), (0, .ref hy), (3, .int (nI j))]) d_Y_readNumber_58 rfl (by decide) rfl ?_
          refine zk_iload (pc := 59) X d_Y_readNumber_59 (q := 1) rfl ?_
          refine zk_sipush (pc := 61) X (v := 128) d_Y_readNumber_61 (by decide) ?_
          refine zk_icmp_ge (pc := 64) X (tgt := 73) d_Y_readNumber_64 (by decide) (fun h64 => ?_) (fun h64 => ?_)
          · have hq := hq.trans (if_pos h64)
            refine zk_iinc (pc := 73) X (k0 := 3) (v := nI (j + 1)) (lv' := [(3, .int (nI (j + 1))), (1, .long (nu ||| (zf_lshl (Int32.toInt64 ((gl ya1) &&& 127)) (7 * (nI j))))), (4, .int (gl ya1)), (0, .ref hy)]) d_Y_readNumber_73 rfl (nI_add (j) 1) (by decide) rfl ?_
            refine zk_goto (pc := 76) X (tgt := 4) d_Y_readNumber_76 (by decide) ?_
            refine zk_lv (lv' := [(0, .ref hy), (1, .long (nu ||| (zf_lshl (Int32.toInt64 ((gl ya1) &&& 127)) (7 * (nI j))))), (3, .int (nI (j + 1)))]) [3, 1, 0] rfl ?_
            exact ih (nu ||| (zf_lshl (Int32.toInt64 ((gl ya1) &&& 127)) (7 * (nI j)))) (j + 1) (ya1 + 1) (by omega) (by omega) (by omega) (by omega) hq
          · have hq := hq.trans (if_neg h64)
            refine zk_lload_n (pc := 67) X d_Y_readNumber_67 rfl (q := 0) rfl ?_
            refine zk_ldc2 (pc := 68) X (v := 4294967295) d_Y_readNumber_68 (zk_m tw_492) ?_
            refine zk_land (pc := 71) X (v := ((nu ||| (zf_lshl (Int32.toInt64 ((gl ya1) &&& 127)) (7 * (nI j)))) &&& (4294967295 : Int64))) d_Y_readNumber_71 rfl ?_
            exact zk_lret (pc := 72) X hQ hRt hLk (ya1 + 1) ⟨hq.symm, (show (ya1 + 1) ≤ yl by omega), (show ya ≤ (ya1 + 1) by omega), (show ya < yl → ya + 1 ≤ (ya1 + 1) by omega)⟩ [0, 1] rfl (by decide) d_Y_readNumber_72
        · have hq := hq.trans (if_neg h17)
          refine zk_ldc2 (pc := 20) X (v := -1) d_Y_readNumber_20 (zk_m tw_491) ?_
          exact zk_lret (pc := 23) X hQ hRt hLk ya1 ⟨hq.symm, (show ya1 ≤ yl by omega), (show ya ≤ ya1 by omega), (show ya < yl → ya + 1 ≤ ya1 by omega)⟩ [0, 1] rfl (by decide) d_Y_readNumber_23
  have hq := sp_Y_readNumber.eq_1 gl yl ya
  refine zk_lv (lv' := [(0, .ref hy)]) [0] rfl ?_
  refine zk_lconst (pc := 0) X (v := 0) d_Y_readNumber_0 rfl ?_
  refine zk_lstore_n (pc := 1) X (i := 1) (lv' := [(1, .long (0 : Int64)), (0, .ref hy)]) d_Y_readNumber_1 rfl (by decide) rfl ?_
  refine zk_iconst (pc := 2) X (v := 0) d_Y_readNumber_2 rfl ?_
  refine zk_istore_n (pc := 3) X (i := 3) (lv' := [(3, .int 0), (1, .long (0 : Int64)), (0, .ref hy)]) d_Y_readNumber_3 rfl (by decide) rfl ?_
  refine zk_lv (lv' := [(0, .ref hy), (1, .long (0 : Int64)), (3, .int 0)]) [2, 1, 0] rfl ?_
  exact cut4 (6) (0 : Int64) 0 ya (by omega) (by omega) (by omega) (by omega) hq
def sp_Y_readAll_12 (gl : Nat → Int32) (yl : Nat) : Nat → Int64 → (Nat → Int64) → (Nat → Int32) → (Nat → Int32) → Nat → Nat → Int32 × (Nat → Int64) × (Nat → Int32) × (Nat → Int32) × Nat × Nat
  | 0, sp1, gt1, gk1, gv1, yr1, ya1 => (0, gt1, gk1, gv1, yr1, ya1)
  | fuel + 1, sp1, gt1, gk1, gv1, yr1, ya1 =>
    if yl ≤ ya1 then
      (1, gt1, gk1, gv1, yr1, ya1)
    else
      (match sp_Y_readNumber gl yl ya1 with
      | (r24, ya_24) =>
        if r24 < (4 : Int64) then
          (0, gt1, gk1, gv1, yr1, ya_24)
        else
          if (Int64.toInt32 (r24 &&& (3 : Int64))) = 0 then
            (0, gt1, gk1, gv1, yr1, ya_24)
          else
            if (Int64.toInt32 (r24 &&& (3 : Int64))) = 3 then
              if (0 : Int64) ≤ (0 : Int64) then
                if (zf_lrem (0 : Int64) (2 : Int64)) = (0 : Int64) then
                  sp_Y_readAll_12 gl yl fuel (sp1 + (r24 / (4 : Int64))) (vp_updL gt1 yr1 (sp1 + (r24 / (4 : Int64)))) (upd gk1 yr1 (Int64.toInt32 (r24 &&& (3 : Int64)))) (upd gv1 yr1 (Int64.toInt32 ((0 : Int64) / (2 : Int64)))) (yr1 + 1) ya_24
                else
                  sp_Y_readAll_12 gl yl fuel (sp1 + (r24 / (4 : Int64))) (vp_updL gt1 yr1 (sp1 + (r24 / (4 : Int64)))) (upd gk1 yr1 (Int64.toInt32 (r24 &&& (3 : Int64)))) (upd gv1 yr1 (Int64.toInt32 ((-1 : Int64) - ((0 : Int64) / (2 : Int64))))) (yr1 + 1) ya_24
              else
                (0, gt1, gk1, gv1, yr1, ya_24)
            else
              (match sp_Y_readNumber gl yl ya_24 with
              | (r70, ya_70) =>
                if (0 : Int64) ≤ r70 then
                  if (Int64.toInt32 (r24 &&& (3 : Int64))) = 2 then
                    sp_Y_readAll_12 gl yl fuel (sp1 + (r24 / (4 : Int64))) (vp_updL gt1 yr1 (sp1 + (r24 / (4 : Int64)))) (upd gk1 yr1 (Int64.toInt32 (r24 &&& (3 : Int64)))) (upd gv1 yr1 (Int64.toInt32 r70)) (yr1 + 1) ya_70
                  else
                    if (zf_lrem r70 (2 : Int64)) = (0 : Int64) then
                      sp_Y_readAll_12 gl yl fuel (sp1 + (r24 / (4 : Int64))) (vp_updL gt1 yr1 (sp1 + (r24 / (4 : Int64)))) (upd gk1 yr1 (Int64.toInt32 (r24 &&& (3 : Int64)))) (upd gv1 yr1 (Int64.toInt32 (r70 / (2 : Int64)))) (yr1 + 1) ya_70
                    else
                      sp_Y_readAll_12 gl yl fuel (sp1 + (r24 / (4 : Int64))) (vp_updL gt1 yr1 (sp1 + (r24 / (4 : Int64)))) (upd gk1 yr1 (Int64.toInt32 (r24 &&& (3 : Int64)))) (upd gv1 yr1 (Int64.toInt32 ((-1 : Int64) - (r70 / (2 : Int64))))) (yr1 + 1) ya_70
                else
                  (0, gt1, gk1, gv1, yr1, ya_70)))
def sp_Y_readAll (gl : Nat → Int32) (gt : Nat → Int64) (gk : Nat → Int32) (gv : Nat → Int32) (yl : Nat) : Int32 × (Nat → Int64) × (Nat → Int32) × (Nat → Int32) × Nat × Nat :=
  sp_Y_readAll_12 gl yl (yl + 1) (0 : Int64) gt gk gv 0 0
abbrev rm_Y_readAll : Room := { frames := 1, cells := 0, slots := 0, locals := 24 }
set_option maxHeartbeats 4000000 in
set_option maxRecDepth 100000 in
theorem c_Y_readAll (l : Launch) (dC : Nat → ClassId) (dI : Nat → Nat → Nat) (hy yo yf yb ym yi yL yT yK yV : Nat) (cYL cYT cYK cYV : ClassId) (gl : Nat → Int32) (gt : Nat → Int64) (gk : Nat → Int32) (gv : Nat → Int32) (ys : Int32) (yn : Nat) (yg : Int32) (yc : Int32) (yw : Nat) (yq : Int32) (yl : Nat) (ye : Int32) (yt : Int32) (yS : Int32) (yr : Nat) (ya : Nat) (hyl : yl ≤ 320) : zk_Ci l y_Y_readAll w_Y_readAll rm_Y_readAll (dC, dI) vwCl [.ref hy] [(hy, .inr (7, [.int ys, .int (nI yn), .ref yo, .ref yf, .ref yb, .int yg, .ref ym, .int yc, .int (nI yw), .ref yi, .int yq, .int (nI yl), .ref yL, .int ye, .int yt, .int yS, .int (nI yr), .int (nI ya), .ref yT, .ref yK, .ref yV])), (yL, .inl (cYL, 320, .inl gl)), (yT, .inl (cYT, 320, .inr (.inl gt))), (yK, .inl (cYK, 320, .inl gk)), (yV, .inl (cYV, 320, .inl gv))] [(cYL, .int), (cYT, .long), (cYK, .int), (cYV, .int)] (fun (r : Int32) (u : (Nat → Int64) × (Nat → Int32) × (Nat → Int32) × Nat × Nat) => (r, u) = sp_Y_readAll gl gt gk gv yl ∧ (u.2.2.2.1 ≤ 320) ∧ (zk_b01 r)) (fun u => [(hy, .inr (7, [.int ys, .int (nI yn), .ref yo, .ref yf, .ref yb, .int yg, .ref ym, .int yc, .int (nI yw), .ref yi, .int yq, .int (nI yl), .ref yL, .int ye, .int yt, .int yS, .int (nI u.2.2.2.1), .int (nI u.2.2.2.2), .ref yT, .ref yK, .ref yV])), (yL, .inl (cYL, 320, .inl gl)), (yT, .inl (cYT, 320, .inr (.inl u.1))), (yK, .inl (cYK, 320, .inl u.2.1)), (yV, .inl (cYV, 320, .inl u.2.2.1))]) := by
  refine zk_enteri (cc := b_Y_readAll) (maxL := 8) (ret := some .boolean) (by decide) rfl (Nat.le_of_ble_eq_true rfl) ?_
  intro p e s m args below meth c A Q hQ X hRt hLk
  have cut12 : ∀ (fuel : Nat) (sp1 : Int64) (gt1 : Nat → Int64) (gk1 : Nat → Int32) (gv1 : Nat → Int32) (yr1 : Nat) (ya1 : Nat), (yr1 ≤ ya1) → (ya1 ≤ yl) → yl - ya1 < fuel → sp_Y_readAll gl gt gk gv yl = sp_Y_readAll_12 gl yl fuel sp1 gt1 gk1 gv1 yr1 ya1 → zk_Z p l e rm_Y_readAll s m args below meth c Q A (dC, dI) vwCl 8 0 0 [(hy, .inr (7, [.int ys, .int (nI yn), .ref yo, .ref yf, .ref yb, .int yg, .ref ym, .int yc, .int (nI yw), .ref yi, .int yq, .int (nI yl), .ref yL, .int ye, .int yt, .int yS, .int (nI yr1), .int (nI ya1), .ref yT, .ref yK, .ref yV])), (yL, .inl (cYL, 320, .inl gl)), (yT, .inl (cYT, 320, .inr (.inl gt1))), (yK, .inl (cYK, 320, .inl gk1)), (yV, .inl (cYV, 320, .inl gv1))] [(0, .ref hy), (1, .long sp1)] [] 12 := by
    intro fuel
    induction fuel with
    | zero => intro sp1 gt1 gk1 gv1 yr1 ya1 hr1 ha1 hMs; exact absurd hMs (Nat.not_lt_zero _)
    | succ fuel ih =>
      intro sp1 gt1 gk1 gv1 yr1 ya1 hr1 ha1 hMs hq
      rw [sp_Y_readAll_12] at hq
      refine zk_aload_n (pc := 12) X d_Y_readAll_12 rfl (q := 0) rfl ?_
      refine zk_get (pc := 13) X (ci := 7) (v := .int (nI ya1)) in_Y 0 rfl rfl 17 (by decide) (zk_m tw_379) rfl d_Y_readAll_13 ?_
      refine zk_aload_n (pc := 16) X d_Y_readAll_16 rfl (q := 0) rfl ?_
      refine zk_get (pc := 17) X (ci := 7) (v := .int (nI yl)) in_Y 0 rfl rfl 11 (by decide) (zk_m tw_373) rfl d_Y_readAll_17 ?_
      refine zk_icmpN_ge (pc := 20) X (tgt := 171) (ya1) (yl) rfl rfl (by omega) (by omega) d_Y_readAll_20 (by decide) (fun h20 => ?_) (fun h20 => ?_)
      · have hq := hq.trans (if_pos h20)
        refine zk_iconst (pc := 171) X (v := 1) d_Y_readAll_171 rfl ?_
        exact zk_zret (pc := 172) X hQ hRt hLk rfl (gt1, gk1, gv1, yr1, ya1) ⟨hq.symm, (show yr1 ≤ 320 by omega), (show zk_b01 1 by first | exact Or.inl rfl | exact Or.inr rfl)⟩ [0, 1, 2, 3, 4] rfl (by decide) d_Y_readAll_172
      · have hq := hq.trans (if_neg h20)
        refine zk_aload_n (pc := 23) X d_Y_readAll_23 rfl (q := 0) rfl ?_
        refine zk_calll (pc := 24) X (wc := [(hy, .inr (7, [.int ys, .int (nI yn), .ref yo, .ref yf, .ref yb, .int yg, .ref ym, .int yc, .int (nI yw), .ref yi, .int yq, .int (nI yl), .ref yL, .int ye, .int yt, .int yS, .int (nI yr1), .int (nI ya1), .ref yT, .ref yK, .ref yV])), (yL, .inl (cYL, 320, .inl gl))]) (wr := [(yT, .inl (cYT, 320, .inr (.inl gt1))), (yK, .inl (cYK, 320, .inl gk1)), (yV, .inl (cYV, 320, .inl gv1))]) [0, 1] [2, 3, 4] rfl rfl (by decide) (by decide) (by decide) (zk_runV X (C := R_Y) (tysC := [(cYL, .int)]) (As := []) (rest := []) (c_Y_readNumber l dC dI hy yo yf yb ym yi yL yT yK yV cYL gl ys yn yg yc yw yq yl ye yt yS yr1 ya1 (by omega) (by omega)) [0] rfl (ci := 7) rfl 0 rfl (zk_cwV 0 X.1.2.2.2.2 (zk_goodT tw_490) rfl rfl rfl (zk_m tw_488) (zk_m tw_489) (zk_m tw_545) (zk_m tw_9) rfl (by decide +kernel) ⟨Nat.le_of_ble_eq_true rfl, Nat.le_of_ble_eq_true rfl⟩) rfl rfl (Nat.le_of_ble_eq_true rfl) ⟨Nat.zero_le _, Nat.zero_le _⟩ d_Y_readAll_24) ?_
        rintro r24 ya_24 ⟨w24, f24_0, f24_1, f24_2⟩
        have f24_0 : ya_24 ≤ yl := f24_0
        have f24_1 : ya1 ≤ ya_24 := f24_1
        have f24_2 : ya1 < yl → ya1 + 1 ≤ ya_24 := f24_2
        refine zk_ws (ws' := [(yT, .inl (cYT, 320, .inr (.inl gt1))), (yK, .inl (cYK, 320, .inl gk1)), (yV, .inl (cYV, 320, .inl gv1)), (hy, .inr (7, [.int ys, .int (nI yn), .ref yo, .ref yf, .ref yb, .int yg, .ref ym, .int yc, .int (nI yw), .ref yi, .int yq, .int (nI yl), .ref yL, .int ye, .int yt, .int yS, .int (nI yr1), .int (nI ya_24), .ref yT, .ref yK, .ref yV])), (yL, .inl (cYL, 320, .inl gl))]) rfl ?_
        try dsimp only at w24
        rw [← w24] at hq
        try dsimp only at hq
        refine zk_lstore_n (pc := 27) X (i := 3) (lv' := [(3, .long r24), (0, .ref hy), (1, .long sp1)]) d_Y_readAll_27 rfl (by decide) rfl ?_
        refine zk_lload_n (pc := 28) X d_Y_readAll_28 rfl (q := 0) rfl ?_
        refine zk_ldc2 (pc := 29) X (v := 3) d_Y_readAll_29 (zk_m tw_493) ?_
        refine zk_land (pc := 32) X (v := (r24 &&& (3 : Int64))) d_Y_readAll_32 rfl ?_
        refine zk_l2i (pc := 33) X (v := (Int64.toInt32 (r24 &&& (3 : Int64)))) d_Y_readAll_33 rfl ?_
        refine zk_istore (pc := 34) X (i := 5) (lv' := [(5, .int (Int64.toInt32 (r24 &&& (3 : Int64)))), (3, .long r24), (0, .ref hy), (1, .long sp1)]) d_Y_readAll_34 (by decide) rfl ?_
        refine zk_lload_n (pc := 36) X d_Y_readAll_36 rfl (q := 1) rfl ?_
        refine zk_ldc2 (pc := 37) X (v := 4) d_Y_readAll_37 (zk_m tw_448) ?_
        refine zk_lc_lt (pc := 40) X (tgt := 49) d_Y_readAll_40 d_Y_readAll_41 (by decide) (fun h40 => ?_) (fun h40 => ?_)
        · have hq := hq.trans (if_pos h40)
          refine zk_iconst (pc := 49) X (v := 0) d_Y_readAll_49 rfl ?_
          exact zk_zret (pc := 50) X hQ hRt hLk rfl (gt1, gk1, gv1, yr1, ya_24) ⟨hq.symm, (show yr1 ≤ 320 by omega), (show zk_b01 0 by first | exact Or.inl rfl | exact Or.inr rfl)⟩ [3, 4, 0, 1, 2] rfl (by decide) d_Y_readAll_50
        · have hq := hq.trans (if_neg h40)
          refine zk_iload (pc := 44) X d_Y_readAll_44 (q := 0) rfl ?_
          refine zk_if_ne (pc := 46) X (tgt := 51) d_Y_readAll_46 (by decide) (fun h46 => ?_) (fun h46 => ?_)
          · have hq := hq.trans (if_neg h46)
            refine zk_lload_n (pc := 51) X d_Y_readAll_51 rfl (q := 3) rfl ?_
            refine zk_lload_n (pc := 52) X d_Y_readAll_52 rfl (q := 1) rfl ?_
            refine zk_ldc2 (pc := 53) X (v := 4) d_Y_readAll_53 (zk_m tw_448) ?_
            refine zk_ldiv (pc := 56) X (v := (r24 / (4 : Int64))) d_Y_readAll_56 (by decide) rfl ?_
            refine zk_ladd (pc := 57) X (v := (sp1 + (r24 / (4 : Int64)))) d_Y_readAll_57 rfl ?_
            refine zk_lstore_n (pc := 58) X (i := 1) (lv' := [(1, .long (sp1 + (r24 / (4 : Int64)))), (5, .int (Int64.toInt32 (r24 &&& (3 : Int64)))), (3, .long r24), (0, .ref hy)]) d_Y_readAll_58 rfl (by decide) rfl ?_
            refine zk_iload (pc := 59) X d_Y_readAll_59 (q := 1) rfl ?_
            refine zk_iconst (pc := 61) X (v := 3) d_Y_readAll_61 rfl ?_
            refine zk_icmp_ne (pc := 62) X (tgt := 69) d_Y_readAll_62 (by decide) (fun h62 => ?_) (fun h62 => ?_)
            · have hq := hq.trans (if_neg h62)
              refine zk_aload_n (pc := 69) X d_Y_readAll_69 rfl (q := 3) rfl ?_
              refine zk_calll (pc := 70) X (wc := [(hy, .inr (7, [.int ys, .int (nI yn), .ref yo, .ref yf, .ref yb, .int yg, .ref ym, .int yc, .int (nI yw), .ref yi, .int yq, .int (nI yl), .ref yL, .int ye, .int yt, .int yS, .int (nI yr1), .int (nI ya_24), .ref yT, .ref yK, .ref yV])), (yL, .inl (cYL, 320, .inl gl))]) (wr := [(yT, .inl (cYT, 320, .inr (.inl gt1))), (yK, .inl (cYK, 320, .inl gk1)), (yV, .inl (cYV, 320, .inl gv1))]) [3, 4] [0, 1, 2] rfl rfl (by decide) (by decide) (by decide) (zk_runV X (C := R_Y) (tysC := [(cYL, .int)]) (As := []) (rest := []) (c_Y_readNumber l dC dI hy yo yf yb ym yi yL yT yK yV cYL gl ys yn yg yc yw yq yl ye yt yS yr1 ya_24 (by omega) (by omega)) [0] rfl (ci := 7) rfl 3 rfl (zk_cwV 0 X.1.2.2.2.2 (zk_goodT tw_490) rfl rfl rfl (zk_m tw_488) (zk_m tw_489) (zk_m tw_545) (zk_m tw_9) rfl (by decide +kernel) ⟨Nat.le_of_ble_eq_true rfl, Nat.le_of_ble_eq_true rfl⟩) rfl rfl (Nat.le_of_ble_eq_true rfl) ⟨Nat.zero_le _, Nat.zero_le _⟩ d_Y_readAll_70) ?_
              rintro r70 ya_70 ⟨w70, f70_0, f70_1, f70_2⟩
              have f70_0 : ya_70 ≤ yl := f70_0
              have f70_1 : ya_24 ≤ ya_70 := f70_1
              have f70_2 : ya_24 < yl → ya_24 + 1 ≤ ya_70 := f70_2
              refine zk_ws (ws' := [(yT, .inl (cYT, 320, .inr (.inl gt1))), (yK, .inl (cYK, 320, .inl gk1)), (yV, .inl (cYV, 320, .inl gv1)), (hy, .inr (7, [.int ys, .int (nI yn), .ref yo, .ref yf, .ref yb, .int yg, .ref ym, .int yc, .int (nI yw), .ref yi, .int yq, .int (nI yl), .ref yL, .int ye, .int yt, .int yS, .int (nI yr1), .int (nI ya_70), .ref yT, .ref yK, .ref yV])), (yL, .inl (cYL, 320, .inl gl))]) rfl ?_
              try dsimp only at w70
              rw [← w70] at hq
              try dsimp only at hq
              refine zk_lstore (pc := 73) X (i := 6) (lv' := [(6, .long r70), (1, .long (sp1 + (r24 / (4 : Int64)))), (5, .int (Int64.toInt32 (r24 &&& (3 : Int64)))), (3, .long r24), (0, .ref hy)]) d_Y_readAll_73 (by decide) rfl ?_
              refine zk_lload (pc := 75) X d_Y_readAll_75 (q := 0) rfl ?_
              refine zk_lconst (pc := 77) X (v := 0) d_Y_readAll_77 rfl ?_
              refine zk_lc_ge (pc := 78) X (tgt := 84) d_Y_readAll_78 d_Y_readAll_79 (by decide) (fun h78 => ?_) (fun h78 => ?_)
              · have hq := hq.trans (if_pos h78)
                refine zk_aload_n (pc := 84) X d_Y_readAll_84 rfl (q := 4) rfl ?_
                refine zk_get (pc := 85) X (ci := 7) (v := .ref yT) in_Y 3 rfl rfl 18 (by decide) (zk_m tw_380) rfl d_Y_readAll_85 ?_
                refine zk_aload_n (pc := 88) X d_Y_readAll_88 rfl (q := 4) rfl ?_
                refine zk_get (pc := 89) X (ci := 7) (v := .int (nI yr1)) in_Y 3 rfl rfl 16 (by decide) (zk_m tw_378) rfl d_Y_readAll_89 ?_
                refine zk_lload_n (pc := 92) X d_Y_readAll_92 rfl (q := 1) rfl ?_
                refine zk_last (pc := 93) X 0 1 (ws' := [(yT, .inl (cYT, 320, .inr (.inl (vp_updL gt1 yr1 (sp1 + (r24 / (4 : Int64))))))), (yK, .inl (cYK, 320, .inl gk1)), (yV, .inl (cYV, 320, .inl gv1)), (hy, .inr (7, [.int ys, .int (nI yn), .ref yo, .ref yf, .ref yb, .int yg, .ref ym, .int yc, .int (nI yw), .ref yi, .int yq, .int (nI yl), .ref yL, .int ye, .int yt, .int yS, .int (nI yr1), .int (nI ya_70), .ref yT, .ref yK, .ref yV])), (yL, .inl (cYL, 320, .inl gl))]) (yr1) rfl rfl rfl (by omega) (by decide) d_Y_readAll_93 rfl ?_
                refine zk_aload_n (pc := 94) X d_Y_readAll_94 rfl (q := 4) rfl ?_
                refine zk_get (pc := 95) X (ci := 7) (v := .ref yK) in_Y 3 rfl rfl 19 (by decide) (zk_m tw_381) rfl d_Y_readAll_95 ?_
                refine zk_aload_n (pc := 98) X d_Y_readAll_98 rfl (q := 4) rfl ?_
                refine zk_get (pc := 99) X (ci := 7) (v := .int (nI yr1)) in_Y 3 rfl rfl 16 (by decide) (zk_m tw_378) rfl d_Y_readAll_99 ?_
                refine zk_iload (pc := 102) X d_Y_readAll_102 (q := 2) rfl ?_
                refine zk_iast (pc := 104) X 1 2 (ws' := [(yT, .inl (cYT, 320, .inr (.inl (vp_updL gt1 yr1 (sp1 + (r24 / (4 : Int64))))))), (yK, .inl (cYK, 320, .inl (upd gk1 yr1 (Int64.toInt32 (r24 &&& (3 : Int64)))))), (yV, .inl (cYV, 320, .inl gv1)), (hy, .inr (7, [.int ys, .int (nI yn), .ref yo, .ref yf, .ref yb, .int yg, .ref ym, .int yc, .int (nI yw), .ref yi, .int yq, .int (nI yl), .ref yL, .int ye, .int yt, .int yS, .int (nI yr1), .int (nI ya_70), .ref yT, .ref yK, .ref yV])), (yL, .inl (cYL, 320, .inl gl))]) (yr1) rfl rfl rfl (by omega) (by decide) d_Y_readAll_104 rfl ?_
                refine zk_aload_n (pc := 105) X d_Y_readAll_105 rfl (q := 4) rfl ?_
                refine zk_get (pc := 106) X (ci := 7) (v := .ref yV) in_Y 3 rfl rfl 20 (by decide) (zk_m tw_382) rfl d_Y_readAll_106 ?_
                refine zk_aload_n (pc := 109) X d_Y_readAll_109 rfl (q := 4) rfl ?_
                refine zk_get (pc := 110) X (ci := 7) (v := .int (nI yr1)) in_Y 3 rfl rfl 16 (by decide) (zk_m tw_378) rfl d_Y_readAll_110 ?_
                refine zk_iload (pc := 113) X d_Y_readAll_113 (q := 2) rfl ?_
                refine zk_iconst (pc := 115) X (v := 2) d_Y_readAll_115 rfl ?_
                refine zk_icmp_ne (pc := 116) X (tgt := 125) d_Y_readAll_116 (by decide) (fun h116 => ?_) (fun h116 => ?_)
                · have hq := hq.trans (if_neg h116)
                  refine zk_lload (pc := 125) X d_Y_readAll_125 (q := 0) rfl ?_
                  refine zk_ldc2 (pc := 127) X (v := 2) d_Y_readAll_127 (zk_m tw_469) ?_
                  refine zk_lrem (pc := 130) X (v := (zf_lrem r70 (2 : Int64))) d_Y_readAll_130 (by decide) rfl ?_
                  refine zk_lconst (pc := 131) X (v := 0) d_Y_readAll_131 rfl ?_
                  refine zk_lc_ne (pc := 132) X (tgt := 146) d_Y_readAll_132 d_Y_readAll_133 (by decide) (fun h132 => ?_) (fun h132 => ?_)
                  · have hq := hq.trans (if_neg h132)
                    refine zk_ldc2 (pc := 146) X (v := -1) d_Y_readAll_146 (zk_m tw_491) ?_
                    refine zk_lload (pc := 149) X d_Y_readAll_149 (q := 0) rfl ?_
                    refine zk_ldc2 (pc := 151) X (v := 2) d_Y_readAll_151 (zk_m tw_469) ?_
                    refine zk_ldiv (pc := 154) X (v := (r70 / (2 : Int64))) d_Y_readAll_154 (by decide) rfl ?_
                    refine zk_lsub (pc := 155) X (v := ((-1 : Int64) - (r70 / (2 : Int64)))) d_Y_readAll_155 rfl ?_
                    refine zk_l2i (pc := 156) X (v := (Int64.toInt32 ((-1 : Int64) - (r70 / (2 : Int64))))) d_Y_readAll_156 rfl ?_
                    refine zk_iast (pc := 157) X 2 3 (ws' := [(yT, .inl (cYT, 320, .inr (.inl (vp_updL gt1 yr1 (sp1 + (r24 / (4 : Int64))))))), (yK, .inl (cYK, 320, .inl (upd gk1 yr1 (Int64.toInt32 (r24 &&& (3 : Int64)))))), (yV, .inl (cYV, 320, .inl (upd gv1 yr1 (Int64.toInt32 ((-1 : Int64) - (r70 / (2 : Int64))))))), (hy, .inr (7, [.int ys, .int (nI yn), .ref yo, .ref yf, .ref yb, .int yg, .ref ym, .int yc, .int (nI yw), .ref yi, .int yq, .int (nI yl), .ref yL, .int ye, .int yt, .int yS, .int (nI yr1), .int (nI ya_70), .ref yT, .ref yK, .ref yV])), (yL, .inl (cYL, 320, .inl gl))]) (yr1) rfl rfl rfl (by omega) (by decide) d_Y_readAll_157 rfl ?_
                    refine zk_aload_n (pc := 158) X d_Y_readAll_158 rfl (q := 4) rfl ?_
                    refine zk_aload_n (pc := 159) X d_Y_readAll_159 rfl (q := 4) rfl ?_
                    refine zk_get (pc := 160) X (ci := 7) (v := .int (nI yr1)) in_Y 3 rfl rfl 16 (by decide) (zk_m tw_378) rfl d_Y_readAll_160 ?_
                    refine zk_iconst (pc := 163) X (v := 1) d_Y_readAll_163 rfl ?_
                    refine zk_iadd (pc := 164) X (v := nI (yr1 + 1)) d_Y_readAll_164 (nI_add (yr1) (1)) ?_
                    refine zk_put (pc := 165) X (ty := .int) (v := .int (nI (yr1 + 1))) (ws' := [(yT, .inl (cYT, 320, .inr (.inl (vp_updL gt1 yr1 (sp1 + (r24 / (4 : Int64))))))), (yK, .inl (cYK, 320, .inl (upd gk1 yr1 (Int64.toInt32 (r24 &&& (3 : Int64)))))), (yV, .inl (cYV, 320, .inl (upd gv1 yr1 (Int64.toInt32 ((-1 : Int64) - (r70 / (2 : Int64))))))), (hy, .inr (7, [.int ys, .int (nI yn), .ref yo, .ref yf, .ref yb, .int yg, .ref ym, .int yc, .int (nI yw), .ref yi, .int yq, .int (nI yl), .ref yL, .int ye, .int yt, .int yS, .int (nI (yr1 + 1)), .int (nI ya_70), .ref yT, .ref yK, .ref yV])), (yL, .inl (cYL, 320, .inl gl))]) in_Y tok_Y nok_Y 3 rfl rfl 16 (by decide) (zk_m tw_378) rfl rfl rfl rfl (Nat.le_of_ble_eq_true rfl) d_Y_readAll_165 rfl ?_
                    refine zk_goto (pc := 168) X (tgt := 12) d_Y_readAll_168 (by decide) ?_
                    refine zk_perm (ws' := [(hy, .inr (7, [.int ys, .int (nI yn), .ref yo, .ref yf, .ref yb, .int yg, .ref ym, .int yc, .int (nI yw), .ref yi, .int yq, .int (nI yl), .ref yL, .int ye, .int yt, .int yS, .int (nI (yr1 + 1)), .int (nI ya_70), .ref yT, .ref yK, .ref yV])), (yL, .inl (cYL, 320, .inl gl)), (yT, .inl (cYT, 320, .inr (.inl (vp_updL gt1 yr1 (sp1 + (r24 / (4 : Int64))))))), (yK, .inl (cYK, 320, .inl (upd gk1 yr1 (Int64.toInt32 (r24 &&& (3 : Int64)))))), (yV, .inl (cYV, 320, .inl (upd gv1 yr1 (Int64.toInt32 ((-1 : Int64) - (r70 / (2 : Int64)))))))]) [3, 4, 0, 1, 2] rfl (by decide) ?_
                    refine zk_lv (lv' := [(0, .ref hy), (1, .long (sp1 + (r24 / (4 : Int64))))]) [4, 1] rfl ?_
                    exact ih (sp1 + (r24 / (4 : Int64))) (vp_updL gt1 yr1 (sp1 + (r24 / (4 : Int64)))) (upd gk1 yr1 (Int64.toInt32 (r24 &&& (3 : Int64)))) (upd gv1 yr1 (Int64.toInt32 ((-1 : Int64) - (r70 / (2 : Int64))))) (yr1 + 1) ya_70 (by omega) (by omega) (by omega) hq
                  · have hq := hq.trans (if_pos h132)
                    refine zk_lload (pc := 136) X d_Y_readAll_136 (q := 0) rfl ?_
                    refine zk_ldc2 (pc := 138) X (v := 2) d_Y_readAll_138 (zk_m tw_469) ?_
                    refine zk_ldiv (pc := 141) X (v := (r70 / (2 : Int64))) d_Y_readAll_141 (by decide) rfl ?_
                    refine zk_l2i (pc := 142) X (v := (Int64.toInt32 (r70 / (2 : Int64)))) d_Y_readAll_142 rfl ?_
                    refine zk_goto (pc := 143) X (tgt := 157) d_Y_readAll_143 (by decide) ?_
                    refine zk_iast (pc := 157) X 2 3 (ws' := [(yT, .inl (cYT, 320, .inr (.inl (vp_updL gt1 yr1 (sp1 + (r24 / (4 : Int64))))))), (yK, .inl (cYK, 320, .inl (upd gk1 yr1 (Int64.toInt32 (r24 &&& (3 : Int64)))))), (yV, .inl (cYV, 320, .inl (upd gv1 yr1 (Int64.toInt32 (r70 / (2 : Int64)))))), (hy, .inr (7, [.int ys, .int (nI yn), .ref yo, .ref yf, .ref yb, .int yg, .ref ym, .int yc, .int (nI yw), .ref yi, .int yq, .int (nI yl), .ref yL, .int ye, .int yt, .int yS, .int (nI yr1), .int (nI ya_70), .ref yT, .ref yK, .ref yV])), (yL, .inl (cYL, 320, .inl gl))]) (yr1) rfl rfl rfl (by omega) (by decide) d_Y_readAll_157 rfl ?_
                    refine zk_aload_n (pc := 158) X d_Y_readAll_158 rfl (q := 4) rfl ?_
                    refine zk_aload_n (pc := 159) X d_Y_readAll_159 rfl (q := 4) rfl ?_
                    refine zk_get (pc := 160) X (ci := 7) (v := .int (nI yr1)) in_Y 3 rfl rfl 16 (by decide) (zk_m tw_378) rfl d_Y_readAll_160 ?_
                    refine zk_iconst (pc := 163) X (v := 1) d_Y_readAll_163 rfl ?_
                    refine zk_iadd (pc := 164) X (v := nI (yr1 + 1)) d_Y_readAll_164 (nI_add (yr1) (1)) ?_
                    refine zk_put (pc := 165) X (ty := .int) (v := .int (nI (yr1 + 1))) (ws' := [(yT, .inl (cYT, 320, .inr (.inl (vp_updL gt1 yr1 (sp1 + (r24 / (4 : Int64))))))), (yK, .inl (cYK, 320, .inl (upd gk1 yr1 (Int64.toInt32 (r24 &&& (3 : Int64)))))), (yV, .inl (cYV, 320, .inl (upd gv1 yr1 (Int64.toInt32 (r70 / (2 : Int64)))))), (hy, .inr (7, [.int ys, .int (nI yn), .ref yo, .ref yf, .ref yb, .int yg, .ref ym, .int yc, .int (nI yw), .ref yi, .int yq, .int (nI yl), .ref yL, .int ye, .int yt, .int yS, .int (nI (yr1 + 1)), .int (nI ya_70), .ref yT, .ref yK, .ref yV])), (yL, .inl (cYL, 320, .inl gl))]) in_Y tok_Y nok_Y 3 rfl rfl 16 (by decide) (zk_m tw_378) rfl rfl rfl rfl (Nat.le_of_ble_eq_true rfl) d_Y_readAll_165 rfl ?_
                    refine zk_goto (pc := 168) X (tgt := 12) d_Y_readAll_168 (by decide) ?_
                    refine zk_perm (ws' := [(hy, .inr (7, [.int ys, .int (nI yn), .ref yo, .ref yf, .ref yb, .int yg, .ref ym, .int yc, .int (nI yw), .ref yi, .int yq, .int (nI yl), .ref yL, .int ye, .int yt, .int yS, .int (nI (yr1 + 1)), .int (nI ya_70), .ref yT, .ref yK, .ref yV])), (yL, .inl (cYL, 320, .inl gl)), (yT, .inl (cYT, 320, .inr (.inl (vp_updL gt1 yr1 (sp1 + (r24 / (4 : Int64))))))), (yK, .inl (cYK, 320, .inl (upd gk1 yr1 (Int64.toInt32 (r24 &&& (3 : Int64)))))), (yV, .inl (cYV, 320, .inl (upd gv1 yr1 (Int64.toInt32 (r70 / (2 : Int64))))))]) [3, 4, 0, 1, 2] rfl (by decide) ?_
                    refine zk_lv (lv' := [(0, .ref hy), (1, .long (sp1 + (r24 / (4 : Int64))))]) [4, 1] rfl ?_
                    exact ih (sp1 + (r24 / (4 : Int64))) (vp_updL gt1 yr1 (sp1 + (r24 / (4 : Int64)))) (upd gk1 yr1 (Int64.toInt32 (r24 &&& (3 : Int64)))) (upd gv1 yr1 (Int64.toInt32 (r70 / (2 : Int64)))) (yr1 + 1) ya_70 (by omega) (by omega) (by omega) hq
                · have hq := hq.trans (if_pos h116)
                  refine zk_lload (pc := 119) X d_Y_readAll_119 (q := 0) rfl ?_
                  refine zk_l2i (pc := 121) X (v := (Int64.toInt32 r70)) d_Y_readAll_121 rfl ?_
                  refine zk_goto (pc := 122) X (tgt := 157) d_Y_readAll_122 (by decide) ?_
                  refine zk_iast (pc := 157) X 2 3 (ws' := [(yT, .inl (cYT, 320, .inr (.inl (vp_updL gt1 yr1 (sp1 + (r24 / (4 : Int64))))))), (yK, .inl (cYK, 320, .inl (upd gk1 yr1 (Int64.toInt32 (r24 &&& (3 : Int64)))))), (yV, .inl (cYV, 320, .inl (upd gv1 yr1 (Int64.toInt32 r70)))), (hy, .inr (7, [.int ys, .int (nI yn), .ref yo, .ref yf, .ref yb, .int yg, .ref ym, .int yc, .int (nI yw), .ref yi, .int yq, .int (nI yl), .ref yL, .int ye, .int yt, .int yS, .int (nI yr1), .int (nI ya_70), .ref yT, .ref yK, .ref yV])), (yL, .inl (cYL, 320, .inl gl))]) (yr1) rfl rfl rfl (by omega) (by decide) d_Y_readAll_157 rfl ?_
                  refine zk_aload_n (pc := 158) X d_Y_readAll_158 rfl (q := 4) rfl ?_
                  refine zk_aload_n (pc := 159) X d_Y_readAll_159 rfl (q := 4) rfl ?_
                  refine zk_get (pc := 160) X (ci := 7) (v := .int (nI yr1)) in_Y 3 rfl rfl 16 (by decide) (zk_m tw_378) rfl d_Y_readAll_160 ?_
                  refine zk_iconst (pc := 163) X (v := 1) d_Y_readAll_163 rfl ?_
                  refine zk_iadd (pc := 164) X (v := nI (yr1 + 1)) d_Y_readAll_164 (nI_add (yr1) (1)) ?_
                  refine zk_put (pc := 165) X (ty := .int) (v := .int (nI (yr1 + 1))) (ws' := [(yT, .inl (cYT, 320, .inr (.inl (vp_updL gt1 yr1 (sp1 + (r24 / (4 : Int64))))))), (yK, .inl (cYK, 320, .inl (upd gk1 yr1 (Int64.toInt32 (r24 &&& (3 : Int64)))))), (yV, .inl (cYV, 320, .inl (upd gv1 yr1 (Int64.toInt32 r70)))), (hy, .inr (7, [.int ys, .int (nI yn), .ref yo, .ref yf, .ref yb, .int yg, .ref ym, .int yc, .int (nI yw), .ref yi, .int yq, .int (nI yl), .ref yL, .int ye, .int yt, .int yS, .int (nI (yr1 + 1)), .int (nI ya_70), .ref yT, .ref yK, .ref yV])), (yL, .inl (cYL, 320, .inl gl))]) in_Y tok_Y nok_Y 3 rfl rfl 16 (by decide) (zk_m tw_378) rfl rfl rfl rfl (Nat.le_of_ble_eq_true rfl) d_Y_readAll_165 rfl ?_
                  refine zk_goto (pc := 168) X (tgt := 12) d_Y_readAll_168 (by decide) ?_
                  refine zk_perm (ws' := [(hy, .inr (7, [.int ys, .int (nI yn), .ref yo, .ref yf, .ref yb, .int yg, .ref ym, .int yc, .int (nI yw), .ref yi, .int yq, .int (nI yl), .ref yL, .int ye, .int yt, .int yS, .int (nI (yr1 + 1)), .int (nI ya_70), .ref yT, .ref yK, .ref yV])), (yL, .inl (cYL, 320, .inl gl)), (yT, .inl (cYT, 320, .inr (.inl (vp_updL gt1 yr1 (sp1 + (r24 / (4 : Int64))))))), (yK, .inl (cYK, 320, .inl (upd gk1 yr1 (Int64.toInt32 (r24 &&& (3 : Int64)))))), (yV, .inl (cYV, 320, .inl (upd gv1 yr1 (Int64.toInt32 r70))))]) [3, 4, 0, 1, 2] rfl (by decide) ?_
                  refine zk_lv (lv' := [(0, .ref hy), (1, .long (sp1 + (r24 / (4 : Int64))))]) [4, 1] rfl ?_
                  exact ih (sp1 + (r24 / (4 : Int64))) (vp_updL gt1 yr1 (sp1 + (r24 / (4 : Int64)))) (upd gk1 yr1 (Int64.toInt32 (r24 &&& (3 : Int64)))) (upd gv1 yr1 (Int64.toInt32 r70)) (yr1 + 1) ya_70 (by omega) (by omega) (by omega) hq
              · have hq := hq.trans (if_neg h78)
                refine zk_iconst (pc := 82) X (v := 0) d_Y_readAll_82 rfl ?_
                exact zk_zret (pc := 83) X hQ hRt hLk rfl (gt1, gk1, gv1, yr1, ya_70) ⟨hq.symm, (show yr1 ≤ 320 by omega), (show zk_b01 0 by first | exact Or.inl rfl | exact Or.inr rfl)⟩ [3, 4, 0, 1, 2] rfl (by decide) d_Y_readAll_83
            · have hq := hq.trans (if_pos h62)
              refine zk_lconst (pc := 65) X (v := 0) d_Y_readAll_65 rfl ?_
              refine zk_goto (pc := 66) X (tgt := 73) d_Y_readAll_66 (by decide) ?_
              refine zk_lstore (pc := 73) X (i := 6) (lv' := [(6, .long (0 : Int64)), (1, .long (sp1 + (r24 / (4 : Int64)))), (5, .int (Int64.toInt32 (r24 &&& (3 : Int64)))), (3, .long r24), (0, .ref hy)]) d_Y_readAll_73 (by decide) rfl ?_
              refine zk_lload (pc := 75) X d_Y_readAll_75 (q := 0) rfl ?_
              refine zk_lconst (pc := 77) X (v := 0) d_Y_readAll_77 rfl ?_
              refine zk_lc_ge (pc := 78) X (tgt := 84) d_Y_readAll_78 d_Y_readAll_79 (by decide) (fun h78 => ?_) (fun h78 => ?_)
              · have hq := hq.trans (if_pos h78)
                refine zk_aload_n (pc := 84) X d_Y_readAll_84 rfl (q := 4) rfl ?_
                refine zk_get (pc := 85) X (ci := 7) (v := .ref yT) in_Y 3 rfl rfl 18 (by decide) (zk_m tw_380) rfl d_Y_readAll_85 ?_
                refine zk_aload_n (pc := 88) X d_Y_readAll_88 rfl (q := 4) rfl ?_
                refine zk_get (pc := 89) X (ci := 7) (v := .int (nI yr1)) in_Y 3 rfl rfl 16 (by decide) (zk_m tw_378) rfl d_Y_readAll_89 ?_
                refine zk_lload_n (pc := 92) X d_Y_readAll_92 rfl (q := 1) rfl ?_
                refine zk_last (pc := 93) X 0 1 (ws' := [(yT, .inl (cYT, 320, .inr (.inl (vp_updL gt1 yr1 (sp1 + (r24 / (4 : Int64))))))), (yK, .inl (cYK, 320, .inl gk1)), (yV, .inl (cYV, 320, .inl gv1)), (hy, .inr (7, [.int ys, .int (nI yn), .ref yo, .ref yf, .ref yb, .int yg, .ref ym, .int yc, .int (nI yw), .ref yi, .int yq, .int (nI yl), .ref yL, .int ye, .int yt, .int yS, .int (nI yr1), .int (nI ya_24), .ref yT, .ref yK, .ref yV])), (yL, .inl (cYL, 320, .inl gl))]) (yr1) rfl rfl rfl (by omega) (by decide) d_Y_readAll_93 rfl ?_
                refine zk_aload_n (pc := 94) X d_Y_readAll_94 rfl (q := 4) rfl ?_
                refine zk_get (pc := 95) X (ci := 7) (v := .ref yK) in_Y 3 rfl rfl 19 (by decide) (zk_m tw_381) rfl d_Y_readAll_95 ?_
                refine zk_aload_n (pc := 98) X d_Y_readAll_98 rfl (q := 4) rfl ?_
                refine zk_get (pc := 99) X (ci := 7) (v := .int (nI yr1)) in_Y 3 rfl rfl 16 (by decide) (zk_m tw_378) rfl d_Y_readAll_99 ?_
                refine zk_iload (pc := 102) X d_Y_readAll_102 (q := 2) rfl ?_
                refine zk_iast (pc := 104) X 1 2 (ws' := [(yT, .inl (cYT, 320, .inr (.inl (vp_updL gt1 yr1 (sp1 + (r24 / (4 : Int64))))))), (yK, .inl (cYK, 320, .inl (upd gk1 yr1 (Int64.toInt32 (r24 &&& (3 : Int64)))))), (yV, .inl (cYV, 320, .inl gv1)), (hy, .inr (7, [.int ys, .int (nI yn), .ref yo, .ref yf, .ref yb, .int yg, .ref ym, .int yc, .int (nI yw), .ref yi, .int yq, .int (nI yl), .ref yL, .int ye, .int yt, .int yS, .int (nI yr1), .int (nI ya_24), .ref yT, .ref yK, .ref yV])), (yL, .inl (cYL, 320, .inl gl))]) (yr1) rfl rfl rfl (by omega) (by decide) d_Y_readAll_104 rfl ?_
                refine zk_aload_n (pc := 105) X d_Y_readAll_105 rfl (q := 4) rfl ?_
                refine zk_get (pc := 106) X (ci := 7) (v := .ref yV) in_Y 3 rfl rfl 20 (by decide) (zk_m tw_382) rfl d_Y_readAll_106 ?_
                refine zk_aload_n (pc := 109) X d_Y_readAll_109 rfl (q := 4) rfl ?_
                refine zk_get (pc := 110) X (ci := 7) (v := .int (nI yr1)) in_Y 3 rfl rfl 16 (by decide) (zk_m tw_378) rfl d_Y_readAll_110 ?_
                refine zk_iload (pc := 113) X d_Y_readAll_113 (q := 2) rfl ?_
                refine zk_iconst (pc := 115) X (v := 2) d_Y_readAll_115 rfl ?_
                refine zk_icmp_ne (pc := 116) X (tgt := 125) d_Y_readAll_116 (by decide) (fun _ => ?_) (fun g => absurd g (fun g => absurd (h62.symm.trans g) (by decide)))
                refine zk_lload (pc := 125) X d_Y_readAll_125 (q := 0) rfl ?_
                refine zk_ldc2 (pc := 127) X (v := 2) d_Y_readAll_127 (zk_m tw_469) ?_
                refine zk_lrem (pc := 130) X (v := (zf_lrem (0 : Int64) (2 : Int64))) d_Y_readAll_130 (by decide) rfl ?_
                refine zk_lconst (pc := 131) X (v := 0) d_Y_readAll_131 rfl ?_
                refine zk_lc_ne (pc := 132) X (tgt := 146) d_Y_readAll_132 d_Y_readAll_133 (by decide) (fun h132 => ?_) (fun h132 => ?_)
                · have hq := hq.trans (if_neg h132)
                  refine zk_ldc2 (pc := 146) X (v := -1) d_Y_readAll_146 (zk_m tw_491) ?_
                  refine zk_lload (pc := 149) X d_Y_readAll_149 (q := 0) rfl ?_
                  refine zk_ldc2 (pc := 151) X (v := 2) d_Y_readAll_151 (zk_m tw_469) ?_
                  refine zk_ldiv (pc := 154) X (v := ((0 : Int64) / (2 : Int64))) d_Y_readAll_154 (by decide) rfl ?_
                  refine zk_lsub (pc := 155) X (v := ((-1 : Int64) - ((0 : Int64) / (2 : Int64)))) d_Y_readAll_155 rfl ?_
                  refine zk_l2i (pc := 156) X (v := (Int64.toInt32 ((-1 : Int64) - ((0 : Int64) / (2 : Int64))))) d_Y_readAll_156 rfl ?_
                  refine zk_iast (pc := 157) X 2 3 (ws' := [(yT, .inl (cYT, 320, .inr (.inl (vp_updL gt1 yr1 (sp1 + (r24 / (4 : Int64))))))), (yK, .inl (cYK, 320, .inl (upd gk1 yr1 (Int64.toInt32 (r24 &&& (3 : Int64)))))), (yV, .inl (cYV, 320, .inl (upd gv1 yr1 (Int64.toInt32 ((-1 : Int64) - ((0 : Int64) / (2 : Int64))))))), (hy, .inr (7, [.int ys, .int (nI yn), .ref yo, .ref yf, .ref yb, .int yg, .ref ym, .int yc, .int (nI yw), .ref yi, .int yq, .int (nI yl), .ref yL, .int ye, .int yt, .int yS, .int (nI yr1), .int (nI ya_24), .ref yT, .ref yK, .ref yV])), (yL, .inl (cYL, 320, .inl gl))]) (yr1) rfl rfl rfl (by omega) (by decide) d_Y_readAll_157 rfl ?_
                  refine zk_aload_n (pc := 158) X d_Y_readAll_158 rfl (q := 4) rfl ?_
                  refine zk_aload_n (pc := 159) X d_Y_readAll_159 rfl (q := 4) rfl ?_
                  refine zk_get (pc := 160) X (ci := 7) (v := .int (nI yr1)) in_Y 3 rfl rfl 16 (by decide) (zk_m tw_378) rfl d_Y_readAll_160 ?_
                  refine zk_iconst (pc := 163) X (v := 1) d_Y_readAll_163 rfl ?_
                  refine zk_iadd (pc := 164) X (v := nI (yr1 + 1)) d_Y_readAll_164 (nI_add (yr1) (1)) ?_
                  refine zk_put (pc := 165) X (ty := .int) (v := .int (nI (yr1 + 1))) (ws' := [(yT, .inl (cYT, 320, .inr (.inl (vp_updL gt1 yr1 (sp1 + (r24 / (4 : Int64))))))), (yK, .inl (cYK, 320, .inl (upd gk1 yr1 (Int64.toInt32 (r24 &&& (3 : Int64)))))), (yV, .inl (cYV, 320, .inl (upd gv1 yr1 (Int64.toInt32 ((-1 : Int64) - ((0 : Int64) / (2 : Int64))))))), (hy, .inr (7, [.int ys, .int (nI yn), .ref yo, .ref yf, .ref yb, .int yg, .ref ym, .int yc, .int (nI yw), .ref yi, .int yq, .int (nI yl), .ref yL, .int ye, .int yt, .int yS, .int (nI (yr1 + 1)), .int (nI ya_24), .ref yT, .ref yK, .ref yV])), (yL, .inl (cYL, 320, .inl gl))]) in_Y tok_Y nok_Y 3 rfl rfl 16 (by decide) (zk_m tw_378) rfl rfl rfl rfl (Nat.le_of_ble_eq_true rfl) d_Y_readAll_165 rfl ?_
                  refine zk_goto (pc := 168) X (tgt := 12) d_Y_readAll_168 (by decide) ?_
                  refine zk_perm (ws' := [(hy, .inr (7, [.int ys, .int (nI yn), .ref yo, .ref yf, .ref yb, .int yg, .ref ym, .int yc, .int (nI yw), .ref yi, .int yq, .int (nI yl), .ref yL, .int ye, .int yt, .int yS, .int (nI (yr1 + 1)), .int (nI ya_24), .ref yT, .ref yK, .ref yV])), (yL, .inl (cYL, 320, .inl gl)), (yT, .inl (cYT, 320, .inr (.inl (vp_updL gt1 yr1 (sp1 + (r24 / (4 : Int64))))))), (yK, .inl (cYK, 320, .inl (upd gk1 yr1 (Int64.toInt32 (r24 &&& (3 : Int64)))))), (yV, .inl (cYV, 320, .inl (upd gv1 yr1 (Int64.toInt32 ((-1 : Int64) - ((0 : Int64) / (2 : Int64)))))))]) [3, 4, 0, 1, 2] rfl (by decide) ?_
                  refine zk_lv (lv' := [(0, .ref hy), (1, .long (sp1 + (r24 / (4 : Int64))))]) [4, 1] rfl ?_
                  exact ih (sp1 + (r24 / (4 : Int64))) (vp_updL gt1 yr1 (sp1 + (r24 / (4 : Int64)))) (upd gk1 yr1 (Int64.toInt32 (r24 &&& (3 : Int64)))) (upd gv1 yr1 (Int64.toInt32 ((-1 : Int64) - ((0 : Int64) / (2 : Int64))))) (yr1 + 1) ya_24 (by omega) (by omega) (by omega) hq
                · have hq := hq.trans (if_pos h132)
                  refine zk_lload (pc := 136) X d_Y_readAll_136 (q := 0) rfl ?_
                  refine zk_ldc2 (pc := 138) X (v := 2) d_Y_readAll_138 (zk_m tw_469) ?_
                  refine zk_ldiv (pc := 141) X (v := ((0 : Int64) / (2 : Int64))) d_Y_readAll_141 (by decide) rfl ?_
                  refine zk_l2i (pc := 142) X (v := (Int64.toInt32 ((0 : Int64) / (2 : Int64)))) d_Y_readAll_142 rfl ?_
                  refine zk_goto (pc := 143) X (tgt := 157) d_Y_readAll_143 (by decide) ?_
                  refine zk_iast (pc := 157) X 2 3 (ws' := [(yT, .inl (cYT, 320, .inr (.inl (vp_updL gt1 yr1 (sp1 + (r24 / (4 : Int64))))))), (yK, .inl (cYK, 320, .inl (upd gk1 yr1 (Int64.toInt32 (r24 &&& (3 : Int64)))))), (yV, .inl (cYV, 320, .inl (upd gv1 yr1 (Int64.toInt32 ((0 : Int64) / (2 : Int64)))))), (hy, .inr (7, [.int ys, .int (nI yn), .ref yo, .ref yf, .ref yb, .int yg, .ref ym, .int yc, .int (nI yw), .ref yi, .int yq, .int (nI yl), .ref yL, .int ye, .int yt, .int yS, .int (nI yr1), .int (nI ya_24), .ref yT, .ref yK, .ref yV])), (yL, .inl (cYL, 320, .inl gl))]) (yr1) rfl rfl rfl (by omega) (by decide) d_Y_readAll_157 rfl ?_
                  refine zk_aload_n (pc := 158) X d_Y_readAll_158 rfl (q := 4) rfl ?_
                  refine zk_aload_n (pc := 159) X d_Y_readAll_159 rfl (q := 4) rfl ?_
                  refine zk_get (pc := 160) X (ci := 7) (v := .int (nI yr1)) in_Y 3 rfl rfl 16 (by decide) (zk_m tw_378) rfl d_Y_readAll_160 ?_
                  refine zk_iconst (pc := 163) X (v := 1) d_Y_readAll_163 rfl ?_
                  refine zk_iadd (pc := 164) X (v := nI (yr1 + 1)) d_Y_readAll_164 (nI_add (yr1) (1)) ?_
                  refine zk_put (pc := 165) X (ty := .int) (v := .int (nI (yr1 + 1))) (ws' := [(yT, .inl (cYT, 320, .inr (.inl (vp_updL gt1 yr1 (sp1 + (r24 / (4 : Int64))))))), (yK, .inl (cYK, 320, .inl (upd gk1 yr1 (Int64.toInt32 (r24 &&& (3 : Int64)))))), (yV, .inl (cYV, 320, .inl (upd gv1 yr1 (Int64.toInt32 ((0 : Int64) / (2 : Int64)))))), (hy, .inr (7, [.int ys, .int (nI yn), .ref yo, .ref yf, .ref yb, .int yg, .ref ym, .int yc, .int (nI yw), .ref yi, .int yq, .int (nI yl), .ref yL, .int ye, .int yt, .int yS, .int (nI (yr1 + 1)), .int (nI ya_24), .ref yT, .ref yK, .ref yV])), (yL, .inl (cYL, 320, .inl gl))]) in_Y tok_Y nok_Y 3 rfl rfl 16 (by decide) (zk_m tw_378) rfl rfl rfl rfl (Nat.le_of_ble_eq_true rfl) d_Y_readAll_165 rfl ?_
                  refine zk_goto (pc := 168) X (tgt := 12) d_Y_readAll_168 (by decide) ?_
                  refine zk_perm (ws' := [(hy, .inr (7, [.int ys, .int (nI yn), .ref yo, .ref yf, .ref yb, .int yg, .ref ym, .int yc, .int (nI yw), .ref yi, .int yq, .int (nI yl), .ref yL, .int ye, .int yt, .int yS, .int (nI (yr1 + 1)), .int (nI ya_24), .ref yT, .ref yK, .ref yV])), (yL, .inl (cYL, 320, .inl gl)), (yT, .inl (cYT, 320, .inr (.inl (vp_updL gt1 yr1 (sp1 + (r24 / (4 : Int64))))))), (yK, .inl (cYK, 320, .inl (upd gk1 yr1 (Int64.toInt32 (r24 &&& (3 : Int64)))))), (yV, .inl (cYV, 320, .inl (upd gv1 yr1 (Int64.toInt32 ((0 : Int64) / (2 : Int64))))))]) [3, 4, 0, 1, 2] rfl (by decide) ?_
                  refine zk_lv (lv' := [(0, .ref hy), (1, .long (sp1 + (r24 / (4 : Int64))))]) [4, 1] rfl ?_
                  exact ih (sp1 + (r24 / (4 : Int64))) (vp_updL gt1 yr1 (sp1 + (r24 / (4 : Int64)))) (upd gk1 yr1 (Int64.toInt32 (r24 &&& (3 : Int64)))) (upd gv1 yr1 (Int64.toInt32 ((0 : Int64) / (2 : Int64)))) (yr1 + 1) ya_24 (by omega) (by omega) (by omega) hq
              · have hq := hq.trans (if_neg h78)
                refine zk_iconst (pc := 82) X (v := 0) d_Y_readAll_82 rfl ?_
                exact zk_zret (pc := 83) X hQ hRt hLk rfl (gt1, gk1, gv1, yr1, ya_24) ⟨hq.symm, (show yr1 ≤ 320 by omega), (show zk_b01 0 by first | exact Or.inl rfl | exact Or.inr rfl)⟩ [3, 4, 0, 1, 2] rfl (by decide) d_Y_readAll_83
          · have hq := hq.trans (if_pos h46)
            refine zk_iconst (pc := 49) X (v := 0) d_Y_readAll_49 rfl ?_
            exact zk_zret (pc := 50) X hQ hRt hLk rfl (gt1, gk1, gv1, yr1, ya_24) ⟨hq.symm, (show yr1 ≤ 320 by omega), (show zk_b01 0 by first | exact Or.inl rfl | exact Or.inr rfl)⟩ [3, 4, 0, 1, 2] rfl (by decide) d_Y_readAll_50
  have hq := sp_Y_readAll.eq_1 gl gt gk gv yl
  refine zk_lv (lv' := [(0, .ref hy)]) [0] rfl ?_
  refine zk_aload_n (pc := 0) X d_Y_readAll_0 rfl (q := 0) rfl ?_
  refine zk_iconst (pc := 1) X (v := 0) d_Y_readAll_1 rfl ?_
  refine zk_put (pc := 2) X (ty := .int) (v := .int 0) (ws' := [(hy, .inr (7, [.int ys, .int (nI yn), .ref yo, .ref yf, .ref yb, .int yg, .ref ym, .int yc, .int (nI yw), .ref yi, .int yq, .int (nI yl), .ref yL, .int ye, .int yt, .int yS, .int 0, .int (nI ya), .ref yT, .ref yK, .ref yV])), (yL, .inl (cYL, 320, .inl gl)), (yT, .inl (cYT, 320, .inr (.inl gt))), (yK, .inl (cYK, 320, .inl gk)), (yV, .inl (cYV, 320, .inl gv))]) in_Y tok_Y nok_Y 0 rfl rfl 16 (by decide) (zk_m tw_378) rfl rfl rfl rfl (Nat.le_of_ble_eq_true rfl) d_Y_readAll_2 rfl ?_
  refine zk_aload_n (pc := 5) X d_Y_readAll_5 rfl (q := 0) rfl ?_
  refine zk_iconst (pc := 6) X (v := 0) d_Y_readAll_6 rfl ?_
  refine zk_put (pc := 7) X (ty := .int) (v := .int 0) (ws' := [(hy, .inr (7, [.int ys, .int (nI yn), .ref yo, .ref yf, .ref yb, .int yg, .ref ym, .int yc, .int (nI yw), .ref yi, .int yq, .int (nI yl), .ref yL, .int ye, .int yt, .int yS, .int 0, .int 0, .ref yT, .ref yK, .ref yV])), (yL, .inl (cYL, 320, .inl gl)), (yT, .inl (cYT, 320, .inr (.inl gt))), (yK, .inl (cYK, 320, .inl gk)), (yV, .inl (cYV, 320, .inl gv))]) in_Y tok_Y nok_Y 0 rfl rfl 17 (by decide) (zk_m tw_379) rfl rfl rfl rfl (Nat.le_of_ble_eq_true rfl) d_Y_readAll_7 rfl ?_
  refine zk_lconst (pc := 10) X (v := 0) d_Y_readAll_10 rfl ?_
  refine zk_lstore_n (pc := 11) X (i := 1) (lv' := [(1, .long (0 : Int64)), (0, .ref hy)]) d_Y_readAll_11 rfl (by decide) rfl ?_
  refine zk_lv (lv' := [(0, .ref hy), (1, .long (0 : Int64))]) [1, 0] rfl ?_
  exact cut12 (yl + 1) (0 : Int64) gt gk gv 0 0 (by omega) (by omega) (by omega) hq
def sp_Y_sealNow_4 (gl : Nat → Int32) (yl : Nat) : Nat → Int32 → Nat → Int32
  | 0, h, j => 0
  | fuel + 1, h, j =>
    if yl ≤ j then
      h
    else
      sp_Y_sealNow_4 gl yl fuel (sp_Y_mix h (gl j)) (j + 1)
def sp_Y_sealNow (gl : Nat → Int32) (yl : Nat) : Int32 :=
  sp_Y_sealNow_4 gl yl (yl + 1) 1 0
abbrev rm_Y_sealNow : Room := { frames := 1, cells := 0, slots := 0, locals := 22 }
set_option maxHeartbeats 4000000 in
set_option maxRecDepth 100000 in
theorem c_Y_sealNow (l : Launch) (dC : Nat → ClassId) (dI : Nat → Nat → Nat) (hy yo yf yb ym yi yL yT yK yV : Nat) (cYL : ClassId) (gl : Nat → Int32) (ys : Int32) (yn : Nat) (yg : Int32) (yc : Int32) (yw : Nat) (yq : Int32) (yl : Nat) (ye : Int32) (yt : Int32) (yS : Int32) (yr : Nat) (ya : Nat) (hyl : yl ≤ 320) : zk_Ci l y_Y_sealNow w_Y_sealNow rm_Y_sealNow (dC, dI) vwCl [.ref hy] [(hy, .inr (7, [.int ys, .int (nI yn), .ref yo, .ref yf, .ref yb, .int yg, .ref ym, .int yc, .int (nI yw), .ref yi, .int yq, .int (nI yl), .ref yL, .int ye, .int yt, .int yS, .int (nI yr), .int (nI ya), .ref yT, .ref yK, .ref yV])), (yL, .inl (cYL, 320, .inl gl))] [(cYL, .int)] (fun (r : Int32) (u : Unit) => r = sp_Y_sealNow gl yl) (fun _ => [(hy, .inr (7, [.int ys, .int (nI yn), .ref yo, .ref yf, .ref yb, .int yg, .ref ym, .int yc, .int (nI yw), .ref yi, .int yq, .int (nI yl), .ref yL, .int ye, .int yt, .int yS, .int (nI yr), .int (nI ya), .ref yT, .ref yK, .ref yV])), (yL, .inl (cYL, 320, .inl gl))]) := by
  refine zk_enteri (cc := b_Y_sealNow) (maxL := 3) (ret := some .int) (by decide) rfl (Nat.le_of_ble_eq_true rfl) ?_
  intro p e s m args below meth c A Q hQ X hRt hLk
  have cut4 : ∀ (fuel : Nat) (h : Int32) (j : Nat), (j ≤ yl) → yl - j < fuel → sp_Y_sealNow gl yl = sp_Y_sealNow_4 gl yl fuel h j → zk_Z p l e rm_Y_sealNow s m args below meth c Q A (dC, dI) vwCl 3 0 0 [(hy, .inr (7, [.int ys, .int (nI yn), .ref yo, .ref yf, .ref yb, .int yg, .ref ym, .int yc, .int (nI yw), .ref yi, .int yq, .int (nI yl), .ref yL, .int ye, .int yt, .int yS, .int (nI yr), .int (nI ya), .ref yT, .ref yK, .ref yV])), (yL, .inl (cYL, 320, .inl gl))] [(0, .ref hy), (1, .int h), (2, .int (nI j))] [] 4 := by
    intro fuel
    induction fuel with
    | zero => intro h j hjj hMs; exact absurd hMs (Nat.not_lt_zero _)
    | succ fuel ih =>
      intro h j hjj hMs hq
      rw [sp_Y_sealNow_4] at hq
      refine zk_iload_n (pc := 4) X d_Y_sealNow_4 rfl (q := 2) rfl ?_
      refine zk_aload_n (pc := 5) X d_Y_sealNow_5 rfl (q := 0) rfl ?_
      refine zk_get (pc := 6) X (ci := 7) (v := .int (nI yl)) in_Y 0 rfl rfl 11 (by decide) (zk_m tw_373) rfl d_Y_sealNow_6 ?_
      refine zk_icmpN_ge (pc := 9) X (tgt := 29) (j) (yl) rfl rfl (by omega) (by omega) d_Y_sealNow_9 (by decide) (fun h9 => ?_) (fun h9 => ?_)
      · have hq := hq.trans (if_pos h9)
        refine zk_iload_n (pc := 29) X d_Y_sealNow_29 rfl (q := 1) rfl ?_
        exact zk_iret (pc := 30) X hQ hRt hLk () hq.symm [0, 1] rfl (by decide) d_Y_sealNow_30
      · have hq := hq.trans (if_neg h9)
        refine zk_iload_n (pc := 12) X d_Y_sealNow_12 rfl (q := 1) rfl ?_
        refine zk_aload_n (pc := 13) X d_Y_sealNow_13 rfl (q := 0) rfl ?_
        refine zk_get (pc := 14) X (ci := 7) (v := .ref yL) in_Y 0 rfl rfl 12 (by decide) (zk_m tw_374) rfl d_Y_sealNow_14 ?_
        refine zk_iload_n (pc := 17) X d_Y_sealNow_17 rfl (q := 2) rfl ?_
        refine zk_iald (pc := 18) X 1 0 (j) rfl rfl rfl (by omega) (by decide) d_Y_sealNow_18 ?_
        refine zk_calli (pc := 19) X (wc := []) (wr := [(hy, .inr (7, [.int ys, .int (nI yn), .ref yo, .ref yf, .ref yb, .int yg, .ref ym, .int yc, .int (nI yw), .ref yi, .int yq, .int (nI yl), .ref yL, .int ye, .int yt, .int yS, .int (nI yr), .int (nI ya), .ref yT, .ref yK, .ref yV])), (yL, .inl (cYL, 320, .inl gl))]) [] [0, 1] rfl rfl (by decide) (by decide) (by decide) (zk_runS X (tysC := []) (As := [.int h, .int (gl j)]) (rest := []) (c_Y_mix l dC dI h (gl j)) [] rfl (zk_cwS 2 X.1.2.2.2.2 (zk_goodT tw_458) rfl rfl rfl (zk_m tw_456) (zk_m tw_457) (zk_m tw_9) (by decide +kernel) ⟨Nat.le_of_ble_eq_true rfl, Nat.le_of_ble_eq_true rfl⟩) rfl rfl (Nat.le_of_ble_eq_true rfl) ⟨Nat.zero_le _, Nat.zero_le _⟩ d_Y_sealNow_19) ?_
        rintro r19 ⟨⟩ w19
        refine zk_ws (ws' := [(hy, .inr (7, [.int ys, .int (nI yn), .ref yo, .ref yf, .ref yb, .int yg, .ref ym, .int yc, .int (nI yw), .ref yi, .int yq, .int (nI yl), .ref yL, .int ye, .int yt, .int yS, .int (nI yr), .int (nI ya), .ref yT, .ref yK, .ref yV])), (yL, .inl (cYL, 320, .inl gl))]) rfl ?_
        subst w19
        refine zk_istore_n (pc := 22) X (i := 1) (lv' := [(1, .int (sp_Y_mix h (gl j))), (0, .ref hy), (2, .int (nI j))]) d_Y_sealNow_22 rfl (by decide) rfl ?_
        refine zk_iinc (pc := 23) X (k0 := 2) (v := nI (j + 1)) (lv' := [(2, .int (nI (j + 1))), (1, .int (sp_Y_mix h (gl j))), (0, .ref hy)]) d_Y_sealNow_23 rfl (nI_add (j) 1) (by decide) rfl ?_
        refine zk_goto (pc := 26) X (tgt := 4) d_Y_sealNow_26 (by decide) ?_
        refine zk_lv (lv' := [(0, .ref hy), (1, .int (sp_Y_mix h (gl j))), (2, .int (nI (j + 1)))]) [2, 1, 0] rfl ?_
        exact ih (sp_Y_mix h (gl j)) (j + 1) (by omega) (by omega) hq
  have hq := sp_Y_sealNow.eq_1 gl yl
  refine zk_lv (lv' := [(0, .ref hy)]) [0] rfl ?_
  refine zk_iconst (pc := 0) X (v := 1) d_Y_sealNow_0 rfl ?_
  refine zk_istore_n (pc := 1) X (i := 1) (lv' := [(1, .int 1), (0, .ref hy)]) d_Y_sealNow_1 rfl (by decide) rfl ?_
  refine zk_iconst (pc := 2) X (v := 0) d_Y_sealNow_2 rfl ?_
  refine zk_istore_n (pc := 3) X (i := 2) (lv' := [(2, .int 0), (1, .int 1), (0, .ref hy)]) d_Y_sealNow_3 rfl (by decide) rfl ?_
  refine zk_lv (lv' := [(0, .ref hy), (1, .int 1), (2, .int 0)]) [2, 1, 0] rfl ?_
  exact cut4 (yl + 1) 1 0 (by omega) (by omega) hq
def sp_Y_log (yl : Nat) : Int32 :=
  nI yl
abbrev rm_Y_log : Room := { frames := 0, cells := 0, slots := 0, locals := 0 }
set_option maxHeartbeats 4000000 in
set_option maxRecDepth 100000 in
theorem c_Y_log (l : Launch) (dC : Nat → ClassId) (dI : Nat → Nat → Nat) (hy yo yf yb ym yi yL yT yK yV : Nat) (ys : Int32) (yn : Nat) (yg : Int32) (yc : Int32) (yw : Nat) (yq : Int32) (yl : Nat) (ye : Int32) (yt : Int32) (yS : Int32) (yr : Nat) (ya : Nat) : zk_Ci l y_Y_log w_Y_log rm_Y_log (dC, dI) vwCl [.ref hy] [(hy, .inr (7, [.int ys, .int (nI yn), .ref yo, .ref yf, .ref yb, .int yg, .ref ym, .int yc, .int (nI yw), .ref yi, .int yq, .int (nI yl), .ref yL, .int ye, .int yt, .int yS, .int (nI yr), .int (nI ya), .ref yT, .ref yK, .ref yV]))] [] (fun (r : Int32) (u : Unit) => r = sp_Y_log yl) (fun _ => [(hy, .inr (7, [.int ys, .int (nI yn), .ref yo, .ref yf, .ref yb, .int yg, .ref ym, .int yc, .int (nI yw), .ref yi, .int yq, .int (nI yl), .ref yL, .int ye, .int yt, .int yS, .int (nI yr), .int (nI ya), .ref yT, .ref yK, .ref yV]))]) := by
  refine zk_enteri (cc := b_Y_log) (maxL := 1) (ret := some .int) (by decide) rfl (Nat.le_of_ble_eq_true rfl) ?_
  intro p e s m args below meth c A Q hQ X hRt hLk
  have hq := sp_Y_log.eq_1 yl
  refine zk_lv (lv' := [(0, .ref hy)]) [0] rfl ?_
  refine zk_aload_n (pc := 0) X d_Y_log_0 rfl (q := 0) rfl ?_
  refine zk_get (pc := 1) X (ci := 7) (v := .int (nI yl)) in_Y 0 rfl rfl 11 (by decide) (zk_m tw_373) rfl d_Y_log_1 ?_
  exact zk_iret (pc := 4) X hQ hRt hLk () hq.symm [0] rfl (by decide) d_Y_log_4
def sp_Y_entries (ye : Int32) : Int32 :=
  ye
abbrev rm_Y_entries : Room := { frames := 0, cells := 0, slots := 0, locals := 0 }
set_option maxHeartbeats 4000000 in
set_option maxRecDepth 100000 in
theorem c_Y_entries (l : Launch) (dC : Nat → ClassId) (dI : Nat → Nat → Nat) (hy yo yf yb ym yi yL yT yK yV : Nat) (ys : Int32) (yn : Nat) (yg : Int32) (yc : Int32) (yw : Nat) (yq : Int32) (yl : Nat) (ye : Int32) (yt : Int32) (yS : Int32) (yr : Nat) (ya : Nat) : zk_Ci l y_Y_entries w_Y_entries rm_Y_entries (dC, dI) vwCl [.ref hy] [(hy, .inr (7, [.int ys, .int (nI yn), .ref yo, .ref yf, .ref yb, .int yg, .ref ym, .int yc, .int (nI yw), .ref yi, .int yq, .int (nI yl), .ref yL, .int ye, .int yt, .int yS, .int (nI yr), .int (nI ya), .ref yT, .ref yK, .ref yV]))] [] (fun (r : Int32) (u : Unit) => r = sp_Y_entries ye) (fun _ => [(hy, .inr (7, [.int ys, .int (nI yn), .ref yo, .ref yf, .ref yb, .int yg, .ref ym, .int yc, .int (nI yw), .ref yi, .int yq, .int (nI yl), .ref yL, .int ye, .int yt, .int yS, .int (nI yr), .int (nI ya), .ref yT, .ref yK, .ref yV]))]) := by
  refine zk_enteri (cc := b_Y_entries) (maxL := 1) (ret := some .int) (by decide) rfl (Nat.le_of_ble_eq_true rfl) ?_
  intro p e s m args below meth c A Q hQ X hRt hLk
  have hq := sp_Y_entries.eq_1 ye
  refine zk_lv (lv' := [(0, .ref hy)]) [0] rfl ?_
  refine zk_aload_n (pc := 0) X d_Y_entries_0 rfl (q := 0) rfl ?_
  refine zk_get (pc := 1) X (ci := 7) (v := .int ye) in_Y 0 rfl rfl 13 (by decide) (zk_m tw_375) rfl d_Y_entries_1 ?_
  exact zk_iret (pc := 4) X hQ hRt hLk () hq.symm [0] rfl (by decide) d_Y_entries_4
def sp_Y_seal (yS : Int32) : Int32 :=
  yS
abbrev rm_Y_seal : Room := { frames := 0, cells := 0, slots := 0, locals := 0 }
set_option maxHeartbeats 4000000 in
set_option maxRecDepth 100000 in
theorem c_Y_seal (l : Launch) (dC : Nat → ClassId) (dI : Nat → Nat → Nat) (hy yo yf yb ym yi yL yT yK yV : Nat) (ys : Int32) (yn : Nat) (yg : Int32) (yc : Int32) (yw : Nat) (yq : Int32) (yl : Nat) (ye : Int32) (yt : Int32) (yS : Int32) (yr : Nat) (ya : Nat) : zk_Ci l y_Y_seal w_Y_seal rm_Y_seal (dC, dI) vwCl [.ref hy] [(hy, .inr (7, [.int ys, .int (nI yn), .ref yo, .ref yf, .ref yb, .int yg, .ref ym, .int yc, .int (nI yw), .ref yi, .int yq, .int (nI yl), .ref yL, .int ye, .int yt, .int yS, .int (nI yr), .int (nI ya), .ref yT, .ref yK, .ref yV]))] [] (fun (r : Int32) (u : Unit) => r = sp_Y_seal yS) (fun _ => [(hy, .inr (7, [.int ys, .int (nI yn), .ref yo, .ref yf, .ref yb, .int yg, .ref ym, .int yc, .int (nI yw), .ref yi, .int yq, .int (nI yl), .ref yL, .int ye, .int yt, .int yS, .int (nI yr), .int (nI ya), .ref yT, .ref yK, .ref yV]))]) := by
  refine zk_enteri (cc := b_Y_seal) (maxL := 1) (ret := some .int) (by decide) rfl (Nat.le_of_ble_eq_true rfl) ?_
  intro p e s m args below meth c A Q hQ X hRt hLk
  have hq := sp_Y_seal.eq_1 yS
  refine zk_lv (lv' := [(0, .ref hy)]) [0] rfl ?_
  refine zk_aload_n (pc := 0) X d_Y_seal_0 rfl (q := 0) rfl ?_
  refine zk_get (pc := 1) X (ci := 7) (v := .int yS) in_Y 0 rfl rfl 15 (by decide) (zk_m tw_377) rfl d_Y_seal_1 ?_
  exact zk_iret (pc := 4) X hQ hRt hLk () hq.symm [0] rfl (by decide) d_Y_seal_4
def sp_Y_at (i : Int32) (gl : Nat → Int32) (yl : Nat) : Int32 :=
  if (sp_Y_in i 0 ((nI yl) - 1)) = 0 then
    (-1)
  else
    (gl i.toNatClampNeg)
abbrev rm_Y_at : Room := { frames := 1, cells := 0, slots := 0, locals := 22 }
set_option maxHeartbeats 4000000 in
set_option maxRecDepth 100000 in
theorem c_Y_at (l : Launch) (dC : Nat → ClassId) (dI : Nat → Nat → Nat) (hy yo yf yb ym yi yL yT yK yV : Nat) (cYL : ClassId) (i : Int32) (gl : Nat → Int32) (ys : Int32) (yn : Nat) (yg : Int32) (yc : Int32) (yw : Nat) (yq : Int32) (yl : Nat) (ye : Int32) (yt : Int32) (yS : Int32) (yr : Nat) (ya : Nat) (hyl : yl ≤ 320) : zk_Ci l y_Y_at w_Y_at rm_Y_at (dC, dI) vwCl [.ref hy, .int i] [(hy, .inr (7, [.int ys, .int (nI yn), .ref yo, .ref yf, .ref yb, .int yg, .ref ym, .int yc, .int (nI yw), .ref yi, .int yq, .int (nI yl), .ref yL, .int ye, .int yt, .int yS, .int (nI yr), .int (nI ya), .ref yT, .ref yK, .ref yV])), (yL, .inl (cYL, 320, .inl gl))] [(cYL, .int)] (fun (r : Int32) (u : Unit) => r = sp_Y_at i gl yl) (fun _ => [(hy, .inr (7, [.int ys, .int (nI yn), .ref yo, .ref yf, .ref yb, .int yg, .ref ym, .int yc, .int (nI yw), .ref yi, .int yq, .int (nI yl), .ref yL, .int ye, .int yt, .int yS, .int (nI yr), .int (nI ya), .ref yT, .ref yK, .ref yV])), (yL, .inl (cYL, 320, .inl gl))]) := by
  refine zk_enteri (cc := b_Y_at) (maxL := 2) (ret := some .int) (by decide) rfl (Nat.le_of_ble_eq_true rfl) ?_
  intro p e s m args below meth c A Q hQ X hRt hLk
  have hq := sp_Y_at.eq_1 i gl yl
  refine zk_lv (lv' := [(0, .ref hy), (1, .int i)]) [0, 1] rfl ?_
  refine zk_iload_n (pc := 0) X d_Y_at_0 rfl (q := 1) rfl ?_
  refine zk_iconst (pc := 1) X (v := 0) d_Y_at_1 rfl ?_
  refine zk_aload_n (pc := 2) X d_Y_at_2 rfl (q := 0) rfl ?_
  refine zk_get (pc := 3) X (ci := 7) (v := .int (nI yl)) in_Y 0 rfl rfl 11 (by decide) (zk_m tw_373) rfl d_Y_at_3 ?_
  refine zk_iconst (pc := 6) X (v := 1) d_Y_at_6 rfl ?_
  refine zk_isub (pc := 7) X (v := ((nI yl) - 1)) d_Y_at_7 rfl ?_
  refine zk_calli (pc := 8) X (wc := []) (wr := [(hy, .inr (7, [.int ys, .int (nI yn), .ref yo, .ref yf, .ref yb, .int yg, .ref ym, .int yc, .int (nI yw), .ref yi, .int yq, .int (nI yl), .ref yL, .int ye, .int yt, .int yS, .int (nI yr), .int (nI ya), .ref yT, .ref yK, .ref yV])), (yL, .inl (cYL, 320, .inl gl))]) [] [0, 1] rfl rfl (by decide) (by decide) (by decide) (zk_runS X (tysC := []) (As := [.int i, .int 0, .int ((nI yl) - 1)]) (rest := []) (c_Y_in l dC dI i 0 ((nI yl) - 1)) [] rfl (zk_cwS 3 X.1.2.2.2.2 (zk_goodT tw_411) rfl rfl rfl (zk_m tw_409) (zk_m tw_410) (zk_m tw_9) (by decide +kernel) ⟨Nat.le_of_ble_eq_true rfl, Nat.le_of_ble_eq_true rfl⟩) rfl rfl (Nat.le_of_ble_eq_true rfl) ⟨Nat.zero_le _, Nat.zero_le _⟩ d_Y_at_8) ?_
  rintro r8 ⟨⟩ ⟨w8, f8_0⟩
  have f8_0 : zk_inr r8 i 0 ((nI yl) - 1) := f8_0
  refine zk_ws (ws' := [(hy, .inr (7, [.int ys, .int (nI yn), .ref yo, .ref yf, .ref yb, .int yg, .ref ym, .int yc, .int (nI yw), .ref yi, .int yq, .int (nI yl), .ref yL, .int ye, .int yt, .int yS, .int (nI yr), .int (nI ya), .ref yT, .ref yK, .ref yV])), (yL, .inl (cYL, 320, .inl gl))]) rfl ?_
  subst w8
  refine zk_if_eq (pc := 11) X (tgt := 23) d_Y_at_11 (by decide) (fun h11 => ?_) (fun h11 => ?_)
  · have hq := hq.trans (if_pos h11)
    refine zk_iconst (pc := 23) X (v := (-1)) d_Y_at_23 rfl ?_
    exact zk_iret (pc := 24) X hQ hRt hLk () hq.symm [0, 1] rfl (by decide) d_Y_at_24
  · have hq := hq.trans (if_neg h11)
    refine zk_aload_n (pc := 14) X d_Y_at_14 rfl (q := 0) rfl ?_
    refine zk_get (pc := 15) X (ci := 7) (v := .ref yL) in_Y 0 rfl rfl 12 (by decide) (zk_m tw_374) rfl d_Y_at_15 ?_
    refine zk_iload_n (pc := 18) X d_Y_at_18 rfl (q := 1) rfl ?_
    refine zk_iald (pc := 19) X 1 0 (i.toNatClampNeg) rfl rfl (zk_atI f8_0 h11) (zk_atL f8_0 h11 hyl) (by decide) d_Y_at_19 ?_
    refine zk_goto (pc := 20) X (tgt := 24) d_Y_at_20 (by decide) ?_
    exact zk_iret (pc := 24) X hQ hRt hLk () hq.symm [0, 1] rfl (by decide) d_Y_at_24
def sp_Y_change (i : Int32) (v : Int32) (gl : Nat → Int32) (yl : Nat) : Int32 × (Nat → Int32) :=
  if (sp_Y_in i 0 ((nI yl) - 1)) = 0 then
    (0, gl)
  else
    if (sp_Y_in v 0 255) = 0 then
      (0, gl)
    else
      (1, (upd gl i.toNatClampNeg v))
abbrev rm_Y_change : Room := { frames := 1, cells := 0, slots := 0, locals := 22 }
set_option maxHeartbeats 4000000 in
set_option maxRecDepth 100000 in
theorem c_Y_change (l : Launch) (dC : Nat → ClassId) (dI : Nat → Nat → Nat) (hy yo yf yb ym yi yL yT yK yV : Nat) (cYL : ClassId) (i : Int32) (v : Int32) (gl : Nat → Int32) (ys : Int32) (yn : Nat) (yg : Int32) (yc : Int32) (yw : Nat) (yq : Int32) (yl : Nat) (ye : Int32) (yt : Int32) (yS : Int32) (yr : Nat) (ya : Nat) (hyl : yl ≤ 320) : zk_Ci l y_Y_change w_Y_change rm_Y_change (dC, dI) vwCl [.ref hy, .int i, .int v] [(hy, .inr (7, [.int ys, .int (nI yn), .ref yo, .ref yf, .ref yb, .int yg, .ref ym, .int yc, .int (nI yw), .ref yi, .int yq, .int (nI yl), .ref yL, .int ye, .int yt, .int yS, .int (nI yr), .int (nI ya), .ref yT, .ref yK, .ref yV])), (yL, .inl (cYL, 320, .inl gl))] [(cYL, .int)] (fun (r : Int32) (u : (Nat → Int32)) => (r, u) = sp_Y_change i v gl yl) (fun u => [(hy, .inr (7, [.int ys, .int (nI yn), .ref yo, .ref yf, .ref yb, .int yg, .ref ym, .int yc, .int (nI yw), .ref yi, .int yq, .int (nI yl), .ref yL, .int ye, .int yt, .int yS, .int (nI yr), .int (nI ya), .ref yT, .ref yK, .ref yV])), (yL, .inl (cYL, 320, .inl u))]) := by
  refine zk_enteri (cc := b_Y_change) (maxL := 3) (ret := some .boolean) (by decide) rfl (Nat.le_of_ble_eq_true rfl) ?_
  intro p e s m args below meth c A Q hQ X hRt hLk
  have hq := sp_Y_change.eq_1 i v gl yl
  refine zk_lv (lv' := [(0, .ref hy), (1, .int i), (2, .int v)]) [0, 1, 2] rfl ?_
  refine zk_iload_n (pc := 0) X d_Y_change_0 rfl (q := 1) rfl ?_
  refine zk_iconst (pc := 1) X (v := 0) d_Y_change_1 rfl ?_
  refine zk_aload_n (pc := 2) X d_Y_change_2 rfl (q := 0) rfl ?_
  refine zk_get (pc := 3) X (ci := 7) (v := .int (nI yl)) in_Y 0 rfl rfl 11 (by decide) (zk_m tw_373) rfl d_Y_change_3 ?_
  refine zk_iconst (pc := 6) X (v := 1) d_Y_change_6 rfl ?_
  refine zk_isub (pc := 7) X (v := ((nI yl) - 1)) d_Y_change_7 rfl ?_
  refine zk_calli (pc := 8) X (wc := []) (wr := [(hy, .inr (7, [.int ys, .int (nI yn), .ref yo, .ref yf, .ref yb, .int yg, .ref ym, .int yc, .int (nI yw), .ref yi, .int yq, .int (nI yl), .ref yL, .int ye, .int yt, .int yS, .int (nI yr), .int (nI ya), .ref yT, .ref yK, .ref yV])), (yL, .inl (cYL, 320, .inl gl))]) [] [0, 1] rfl rfl (by decide) (by decide) (by decide) (zk_runS X (tysC := []) (As := [.int i, .int 0, .int ((nI yl) - 1)]) (rest := []) (c_Y_in l dC dI i 0 ((nI yl) - 1)) [] rfl (zk_cwS 3 X.1.2.2.2.2 (zk_goodT tw_411) rfl rfl rfl (zk_m tw_409) (zk_m tw_410) (zk_m tw_9) (by decide +kernel) ⟨Nat.le_of_ble_eq_true rfl, Nat.le_of_ble_eq_true rfl⟩) rfl rfl (Nat.le_of_ble_eq_true rfl) ⟨Nat.zero_le _, Nat.zero_le _⟩ d_Y_change_8) ?_
  rintro r8 ⟨⟩ ⟨w8, f8_0⟩
  have f8_0 : zk_inr r8 i 0 ((nI yl) - 1) := f8_0
  refine zk_ws (ws' := [(hy, .inr (7, [.int ys, .int (nI yn), .ref yo, .ref yf, .ref yb, .int yg, .ref ym, .int yc, .int (nI yw), .ref yi, .int yq, .int (nI yl), .ref yL, .int ye, .int yt, .int yS, .int (nI yr), .int (nI ya), .ref yT, .ref yK, .ref yV])), (yL, .inl (cYL, 320, .inl gl))]) rfl ?_
  subst w8
  refine zk_if_eq (pc := 11) X (tgt := 25) d_Y_change_11 (by decide) (fun h11 => ?_) (fun h11 => ?_)
  · have hq := hq.trans (if_pos h11)
    refine zk_iconst (pc := 25) X (v := 0) d_Y_change_25 rfl ?_
    exact zk_zret (pc := 26) X hQ hRt hLk rfl gl hq.symm [0, 1] rfl (by decide) d_Y_change_26
  · have hq := hq.trans (if_neg h11)
    refine zk_iload_n (pc := 14) X d_Y_change_14 rfl (q := 2) rfl ?_
    refine zk_iconst (pc := 15) X (v := 0) d_Y_change_15 rfl ?_
    refine zk_sipush (pc := 16) X (v := 255) d_Y_change_16 (by decide) ?_
    refine zk_calli (pc := 19) X (wc := []) (wr := [(hy, .inr (7, [.int ys, .int (nI yn), .ref yo, .ref yf, .ref yb, .int yg, .ref ym, .int yc, .int (nI yw), .ref yi, .int yq, .int (nI yl), .ref yL, .int ye, .int yt, .int yS, .int (nI yr), .int (nI ya), .ref yT, .ref yK, .ref yV])), (yL, .inl (cYL, 320, .inl gl))]) [] [0, 1] rfl rfl (by decide) (by decide) (by decide) (zk_runS X (tysC := []) (As := [.int v, .int 0, .int 255]) (rest := []) (c_Y_in l dC dI v 0 255) [] rfl (zk_cwS 3 X.1.2.2.2.2 (zk_goodT tw_411) rfl rfl rfl (zk_m tw_409) (zk_m tw_410) (zk_m tw_9) (by decide +kernel) ⟨Nat.le_of_ble_eq_true rfl, Nat.le_of_ble_eq_true rfl⟩) rfl rfl (Nat.le_of_ble_eq_true rfl) ⟨Nat.zero_le _, Nat.zero_le _⟩ d_Y_change_19) ?_
    rintro r19 ⟨⟩ ⟨w19, f19_0⟩
    have f19_0 : zk_inr r19 v 0 255 := f19_0
    refine zk_ws (ws' := [(hy, .inr (7, [.int ys, .int (nI yn), .ref yo, .ref yf, .ref yb, .int yg, .ref ym, .int yc, .int (nI yw), .ref yi, .int yq, .int (nI yl), .ref yL, .int ye, .int yt, .int yS, .int (nI yr), .int (nI ya), .ref yT, .ref yK, .ref yV])), (yL, .inl (cYL, 320, .inl gl))]) rfl ?_
    subst w19
    refine zk_if_ne (pc := 22) X (tgt := 27) d_Y_change_22 (by decide) (fun h22 => ?_) (fun h22 => ?_)
    · have hq := hq.trans (if_neg h22)
      refine zk_aload_n (pc := 27) X d_Y_change_27 rfl (q := 0) rfl ?_
      refine zk_get (pc := 28) X (ci := 7) (v := .ref yL) in_Y 0 rfl rfl 12 (by decide) (zk_m tw_374) rfl d_Y_change_28 ?_
      refine zk_iload_n (pc := 31) X d_Y_change_31 rfl (q := 1) rfl ?_
      refine zk_iload_n (pc := 32) X d_Y_change_32 rfl (q := 2) rfl ?_
      refine zk_iast (pc := 33) X 1 0 (ws' := [(hy, .inr (7, [.int ys, .int (nI yn), .ref yo, .ref yf, .ref yb, .int yg, .ref ym, .int yc, .int (nI yw), .ref yi, .int yq, .int (nI yl), .ref yL, .int ye, .int yt, .int yS, .int (nI yr), .int (nI ya), .ref yT, .ref yK, .ref yV])), (yL, .inl (cYL, 320, .inl (upd gl i.toNatClampNeg v)))]) (i.toNatClampNeg) rfl rfl (zk_atI f8_0 h11) (zk_atL f8_0 h11 hyl) (by decide) d_Y_change_33 rfl ?_
      refine zk_iconst (pc := 34) X (v := 1) d_Y_change_34 rfl ?_
      exact zk_zret (pc := 35) X hQ hRt hLk rfl (upd gl i.toNatClampNeg v) hq.symm [0, 1] rfl (by decide) d_Y_change_35
    · have hq := hq.trans (if_pos h22)
      refine zk_iconst (pc := 25) X (v := 0) d_Y_change_25 rfl ?_
      exact zk_zret (pc := 26) X hQ hRt hLk rfl gl hq.symm [0, 1] rfl (by decide) d_Y_change_26
def sp_Y_state (which : Int32) (what : Int32) (gm : Nat → Int32) : Int32 :=
  if (sp_Y_in which 0 1) = 0 then
    0
  else
    if (sp_Y_in what 0 9) = 0 then
      0
    else
      (gm ((48 * which + what).toNatClampNeg))
abbrev rm_Y_state : Room := { frames := 1, cells := 0, slots := 0, locals := 22 }
set_option maxHeartbeats 4000000 in
set_option maxRecDepth 100000 in
theorem c_Y_state (l : Launch) (dC : Nat → ClassId) (dI : Nat → Nat → Nat) (hy yo yf yb ym yi yL yT yK yV : Nat) (cYm : ClassId) (which : Int32) (what : Int32) (gm : Nat → Int32) (ys : Int32) (yn : Nat) (yg : Int32) (yc : Int32) (yw : Nat) (yq : Int32) (yl : Nat) (ye : Int32) (yt : Int32) (yS : Int32) (yr : Nat) (ya : Nat) : zk_Ci l y_Y_state w_Y_state rm_Y_state (dC, dI) vwCl [.ref hy, .int which, .int what] [(hy, .inr (7, [.int ys, .int (nI yn), .ref yo, .ref yf, .ref yb, .int yg, .ref ym, .int yc, .int (nI yw), .ref yi, .int yq, .int (nI yl), .ref yL, .int ye, .int yt, .int yS, .int (nI yr), .int (nI ya), .ref yT, .ref yK, .ref yV])), (ym, .inl (cYm, 96, .inl gm))] [(cYm, .int)] (fun (r : Int32) (u : Unit) => r = sp_Y_state which what gm) (fun _ => [(hy, .inr (7, [.int ys, .int (nI yn), .ref yo, .ref yf, .ref yb, .int yg, .ref ym, .int yc, .int (nI yw), .ref yi, .int yq, .int (nI yl), .ref yL, .int ye, .int yt, .int yS, .int (nI yr), .int (nI ya), .ref yT, .ref yK, .ref yV])), (ym, .inl (cYm, 96, .inl gm))]) := by
  refine zk_enteri (cc := b_Y_state) (maxL := 3) (ret := some .int) (by decide) rfl (Nat.le_of_ble_eq_true rfl) ?_
  intro p e s m args below meth c A Q hQ X hRt hLk
  have hq := sp_Y_state.eq_1 which what gm
  refine zk_lv (lv' := [(0, .ref hy), (1, .int which), (2, .int what)]) [0, 1, 2] rfl ?_
  refine zk_iload_n (pc := 0) X d_Y_state_0 rfl (q := 1) rfl ?_
  refine zk_iconst (pc := 1) X (v := 0) d_Y_state_1 rfl ?_
  refine zk_iconst (pc := 2) X (v := 1) d_Y_state_2 rfl ?_
  refine zk_calli (pc := 3) X (wc := []) (wr := [(hy, .inr (7, [.int ys, .int (nI yn), .ref yo, .ref yf, .ref yb, .int yg, .ref ym, .int yc, .int (nI yw), .ref yi, .int yq, .int (nI yl), .ref yL, .int ye, .int yt, .int yS, .int (nI yr), .int (nI ya), .ref yT, .ref yK, .ref yV])), (ym, .inl (cYm, 96, .inl gm))]) [] [0, 1] rfl rfl (by decide) (by decide) (by decide) (zk_runS X (tysC := []) (As := [.int which, .int 0, .int 1]) (rest := []) (c_Y_in l dC dI which 0 1) [] rfl (zk_cwS 3 X.1.2.2.2.2 (zk_goodT tw_411) rfl rfl rfl (zk_m tw_409) (zk_m tw_410) (zk_m tw_9) (by decide +kernel) ⟨Nat.le_of_ble_eq_true rfl, Nat.le_of_ble_eq_true rfl⟩) rfl rfl (Nat.le_of_ble_eq_true rfl) ⟨Nat.zero_le _, Nat.zero_le _⟩ d_Y_state_3) ?_
  rintro r3 ⟨⟩ ⟨w3, f3_0⟩
  have f3_0 : zk_inr r3 which 0 1 := f3_0
  refine zk_ws (ws' := [(hy, .inr (7, [.int ys, .int (nI yn), .ref yo, .ref yf, .ref yb, .int yg, .ref ym, .int yc, .int (nI yw), .ref yi, .int yq, .int (nI yl), .ref yL, .int ye, .int yt, .int yS, .int (nI yr), .int (nI ya), .ref yT, .ref yK, .ref yV])), (ym, .inl (cYm, 96, .inl gm))]) rfl ?_
  subst w3
  refine zk_if_eq (pc := 6) X (tgt := 33) d_Y_state_6 (by decide) (fun h6 => ?_) (fun h6 => ?_)
  · have hq := hq.trans (if_pos h6)
    refine zk_iconst (pc := 33) X (v := 0) d_Y_state_33 rfl ?_
    exact zk_iret (pc := 34) X hQ hRt hLk () hq.symm [0, 1] rfl (by decide) d_Y_state_34
  · have hq := hq.trans (if_neg h6)
    refine zk_iload_n (pc := 9) X d_Y_state_9 rfl (q := 2) rfl ?_
    refine zk_iconst (pc := 10) X (v := 0) d_Y_state_10 rfl ?_
    refine zk_bipush (pc := 11) X (v := 9) d_Y_state_11 (by decide) ?_
    refine zk_calli (pc := 13) X (wc := []) (wr := [(hy, .inr (7, [.int ys, .int (nI yn), .ref yo, .ref yf, .ref yb, .int yg, .ref ym, .int yc, .int (nI yw), .ref yi, .int yq, .int (nI yl), .ref yL, .int ye, .int yt, .int yS, .int (nI yr), .int (nI ya), .ref yT, .ref yK, .ref yV])), (ym, .inl (cYm, 96, .inl gm))]) [] [0, 1] rfl rfl (by decide) (by decide) (by decide) (zk_runS X (tysC := []) (As := [.int what, .int 0, .int 9]) (rest := []) (c_Y_in l dC dI what 0 9) [] rfl (zk_cwS 3 X.1.2.2.2.2 (zk_goodT tw_411) rfl rfl rfl (zk_m tw_409) (zk_m tw_410) (zk_m tw_9) (by decide +kernel) ⟨Nat.le_of_ble_eq_true rfl, Nat.le_of_ble_eq_true rfl⟩) rfl rfl (Nat.le_of_ble_eq_true rfl) ⟨Nat.zero_le _, Nat.zero_le _⟩ d_Y_state_13) ?_
    rintro r13 ⟨⟩ ⟨w13, f13_0⟩
    have f13_0 : zk_inr r13 what 0 9 := f13_0
    refine zk_ws (ws' := [(hy, .inr (7, [.int ys, .int (nI yn), .ref yo, .ref yf, .ref yb, .int yg, .ref ym, .int yc, .int (nI yw), .ref yi, .int yq, .int (nI yl), .ref yL, .int ye, .int yt, .int yS, .int (nI yr), .int (nI ya), .ref yT, .ref yK, .ref yV])), (ym, .inl (cYm, 96, .inl gm))]) rfl ?_
    subst w13
    refine zk_if_eq (pc := 16) X (tgt := 33) d_Y_state_16 (by decide) (fun h16 => ?_) (fun h16 => ?_)
    · have hq := hq.trans (if_pos h16)
      refine zk_iconst (pc := 33) X (v := 0) d_Y_state_33 rfl ?_
      exact zk_iret (pc := 34) X hQ hRt hLk () hq.symm [0, 1] rfl (by decide) d_Y_state_34
    · have hq := hq.trans (if_neg h16)
      refine zk_aload_n (pc := 19) X d_Y_state_19 rfl (q := 0) rfl ?_
      refine zk_get (pc := 20) X (ci := 7) (v := .ref ym) in_Y 0 rfl rfl 6 (by decide) (zk_m tw_368) rfl d_Y_state_20 ?_
      refine zk_bipush (pc := 23) X (v := 48) d_Y_state_23 (by decide) ?_
      refine zk_iload_n (pc := 25) X d_Y_state_25 rfl (q := 1) rfl ?_
      refine zk_imul (pc := 26) X (v := (48 * which)) d_Y_state_26 rfl ?_
      refine zk_iload_n (pc := 27) X d_Y_state_27 rfl (q := 2) rfl ?_
      refine zk_iadd (pc := 28) X (v := ((48 * which) + what)) d_Y_state_28 rfl ?_
      refine zk_iald (pc := 29) X 1 0 ((48 * which + what).toNatClampNeg) rfl rfl (zk_stI f3_0 h6 f13_0 h16) (zk_stL f3_0 h6 f13_0 h16) (by decide) d_Y_state_29 ?_
      refine zk_goto (pc := 30) X (tgt := 34) d_Y_state_30 (by decide) ?_
      exact zk_iret (pc := 34) X hQ hRt hLk () hq.symm [0, 1] rfl (by decide) d_Y_state_34
def sp_Y_cell (which : Int32) (i : Int32) (gm : Nat → Int32) : Int32 :=
  if (sp_Y_in which 0 1) = 0 then
    0
  else
    if (sp_Y_in i 0 31) = 0 then
      0
    else
      (gm ((48 * which + 16 + i).toNatClampNeg))
abbrev rm_Y_cell : Room := { frames := 1, cells := 0, slots := 0, locals := 22 }
set_option maxHeartbeats 4000000 in
set_option maxRecDepth 100000 in
theorem c_Y_cell (l : Launch) (dC : Nat → ClassId) (dI : Nat → Nat → Nat) (hy yo yf yb ym yi yL yT yK yV : Nat) (cYm : ClassId) (which : Int32) (i : Int32) (gm : Nat → Int32) (ys : Int32) (yn : Nat) (yg : Int32) (yc : Int32) (yw : Nat) (yq : Int32) (yl : Nat) (ye : Int32) (yt : Int32) (yS : Int32) (yr : Nat) (ya : Nat) : zk_Ci l y_Y_cell w_Y_cell rm_Y_cell (dC, dI) vwCl [.ref hy, .int which, .int i] [(hy, .inr (7, [.int ys, .int (nI yn), .ref yo, .ref yf, .ref yb, .int yg, .ref ym, .int yc, .int (nI yw), .ref yi, .int yq, .int (nI yl), .ref yL, .int ye, .int yt, .int yS, .int (nI yr), .int (nI ya), .ref yT, .ref yK, .ref yV])), (ym, .inl (cYm, 96, .inl gm))] [(cYm, .int)] (fun (r : Int32) (u : Unit) => r = sp_Y_cell which i gm) (fun _ => [(hy, .inr (7, [.int ys, .int (nI yn), .ref yo, .ref yf, .ref yb, .int yg, .ref ym, .int yc, .int (nI yw), .ref yi, .int yq, .int (nI yl), .ref yL, .int ye, .int yt, .int yS, .int (nI yr), .int (nI ya), .ref yT, .ref yK, .ref yV])), (ym, .inl (cYm, 96, .inl gm))]) := by
  refine zk_enteri (cc := b_Y_cell) (maxL := 3) (ret := some .int) (by decide) rfl (Nat.le_of_ble_eq_true rfl) ?_
  intro p e s m args below meth c A Q hQ X hRt hLk
  have hq := sp_Y_cell.eq_1 which i gm
  refine zk_lv (lv' := [(0, .ref hy), (1, .int which), (2, .int i)]) [0, 1, 2] rfl ?_
  refine zk_iload_n (pc := 0) X d_Y_cell_0 rfl (q := 1) rfl ?_
  refine zk_iconst (pc := 1) X (v := 0) d_Y_cell_1 rfl ?_
  refine zk_iconst (pc := 2) X (v := 1) d_Y_cell_2 rfl ?_
  refine zk_calli (pc := 3) X (wc := []) (wr := [(hy, .inr (7, [.int ys, .int (nI yn), .ref yo, .ref yf, .ref yb, .int yg, .ref ym, .int yc, .int (nI yw), .ref yi, .int yq, .int (nI yl), .ref yL, .int ye, .int yt, .int yS, .int (nI yr), .int (nI ya), .ref yT, .ref yK, .ref yV])), (ym, .inl (cYm, 96, .inl gm))]) [] [0, 1] rfl rfl (by decide) (by decide) (by decide) (zk_runS X (tysC := []) (As := [.int which, .int 0, .int 1]) (rest := []) (c_Y_in l dC dI which 0 1) [] rfl (zk_cwS 3 X.1.2.2.2.2 (zk_goodT tw_411) rfl rfl rfl (zk_m tw_409) (zk_m tw_410) (zk_m tw_9) (by decide +kernel) ⟨Nat.le_of_ble_eq_true rfl, Nat.le_of_ble_eq_true rfl⟩) rfl rfl (Nat.le_of_ble_eq_true rfl) ⟨Nat.zero_le _, Nat.zero_le _⟩ d_Y_cell_3) ?_
  rintro r3 ⟨⟩ ⟨w3, f3_0⟩
  have f3_0 : zk_inr r3 which 0 1 := f3_0
  refine zk_ws (ws' := [(hy, .inr (7, [.int ys, .int (nI yn), .ref yo, .ref yf, .ref yb, .int yg, .ref ym, .int yc, .int (nI yw), .ref yi, .int yq, .int (nI yl), .ref yL, .int ye, .int yt, .int yS, .int (nI yr), .int (nI ya), .ref yT, .ref yK, .ref yV])), (ym, .inl (cYm, 96, .inl gm))]) rfl ?_
  subst w3
  refine zk_if_eq (pc := 6) X (tgt := 36) d_Y_cell_6 (by decide) (fun h6 => ?_) (fun h6 => ?_)
  · have hq := hq.trans (if_pos h6)
    refine zk_iconst (pc := 36) X (v := 0) d_Y_cell_36 rfl ?_
    exact zk_iret (pc := 37) X hQ hRt hLk () hq.symm [0, 1] rfl (by decide) d_Y_cell_37
  · have hq := hq.trans (if_neg h6)
    refine zk_iload_n (pc := 9) X d_Y_cell_9 rfl (q := 2) rfl ?_
    refine zk_iconst (pc := 10) X (v := 0) d_Y_cell_10 rfl ?_
    refine zk_bipush (pc := 11) X (v := 31) d_Y_cell_11 (by decide) ?_
    refine zk_calli (pc := 13) X (wc := []) (wr := [(hy, .inr (7, [.int ys, .int (nI yn), .ref yo, .ref yf, .ref yb, .int yg, .ref ym, .int yc, .int (nI yw), .ref yi, .int yq, .int (nI yl), .ref yL, .int ye, .int yt, .int yS, .int (nI yr), .int (nI ya), .ref yT, .ref yK, .ref yV])), (ym, .inl (cYm, 96, .inl gm))]) [] [0, 1] rfl rfl (by decide) (by decide) (by decide) (zk_runS X (tysC := []) (As := [.int i, .int 0, .int 31]) (rest := []) (c_Y_in l dC dI i 0 31) [] rfl (zk_cwS 3 X.1.2.2.2.2 (zk_goodT tw_411) rfl rfl rfl (zk_m tw_409) (zk_m tw_410) (zk_m tw_9) (by decide +kernel) ⟨Nat.le_of_ble_eq_true rfl, Nat.le_of_ble_eq_true rfl⟩) rfl rfl (Nat.le_of_ble_eq_true rfl) ⟨Nat.zero_le _, Nat.zero_le _⟩ d_Y_cell_13) ?_
    rintro r13 ⟨⟩ ⟨w13, f13_0⟩
    have f13_0 : zk_inr r13 i 0 31 := f13_0
    refine zk_ws (ws' := [(hy, .inr (7, [.int ys, .int (nI yn), .ref yo, .ref yf, .ref yb, .int yg, .ref ym, .int yc, .int (nI yw), .ref yi, .int yq, .int (nI yl), .ref yL, .int ye, .int yt, .int yS, .int (nI yr), .int (nI ya), .ref yT, .ref yK, .ref yV])), (ym, .inl (cYm, 96, .inl gm))]) rfl ?_
    subst w13
    refine zk_if_eq (pc := 16) X (tgt := 36) d_Y_cell_16 (by decide) (fun h16 => ?_) (fun h16 => ?_)
    · have hq := hq.trans (if_pos h16)
      refine zk_iconst (pc := 36) X (v := 0) d_Y_cell_36 rfl ?_
      exact zk_iret (pc := 37) X hQ hRt hLk () hq.symm [0, 1] rfl (by decide) d_Y_cell_37
    · have hq := hq.trans (if_neg h16)
      refine zk_aload_n (pc := 19) X d_Y_cell_19 rfl (q := 0) rfl ?_
      refine zk_get (pc := 20) X (ci := 7) (v := .ref ym) in_Y 0 rfl rfl 6 (by decide) (zk_m tw_368) rfl d_Y_cell_20 ?_
      refine zk_bipush (pc := 23) X (v := 48) d_Y_cell_23 (by decide) ?_
      refine zk_iload_n (pc := 25) X d_Y_cell_25 rfl (q := 1) rfl ?_
      refine zk_imul (pc := 26) X (v := (48 * which)) d_Y_cell_26 rfl ?_
      refine zk_bipush (pc := 27) X (v := 16) d_Y_cell_27 (by decide) ?_
      refine zk_iadd (pc := 29) X (v := ((48 * which) + 16)) d_Y_cell_29 rfl ?_
      refine zk_iload_n (pc := 30) X d_Y_cell_30 rfl (q := 2) rfl ?_
      refine zk_iadd (pc := 31) X (v := (((48 * which) + 16) + i)) d_Y_cell_31 rfl ?_
      refine zk_iald (pc := 32) X 1 0 ((48 * which + 16 + i).toNatClampNeg) rfl rfl (zk_ceI f3_0 h6 f13_0 h16) (zk_ceL f3_0 h6 f13_0 h16) (by decide) d_Y_cell_32 ?_
      refine zk_goto (pc := 33) X (tgt := 37) d_Y_cell_33 (by decide) ?_
      exact zk_iret (pc := 37) X hQ hRt hLk () hq.symm [0, 1] rfl (by decide) d_Y_cell_37
def sp_Y_sealed_19 (word : Int32) : Nat → Int32 → Int32 → Int32
  | 0, res, i => 0
  | fuel + 1, res, i =>
    if i < 0 then
      res
    else
      sp_Y_sealed_19 word fuel (sp_Y_mix res ((zf_shr word (8 * i)) &&& 255)) (i + (-1))
def sp_Y_sealed (h : Int32) (word : Int32) (n : Int32) : Int32 :=
  if (sp_Y_in n 1 4) = 0 then
    0
  else
    sp_Y_sealed_19 word 5 h (n - 1)
abbrev rm_Y_sealed : Room := { frames := 1, cells := 0, slots := 0, locals := 22 }
set_option maxHeartbeats 4000000 in
set_option maxRecDepth 100000 in
theorem c_Y_sealed (l : Launch) (dC : Nat → ClassId) (dI : Nat → Nat → Nat) (hy yo yf yb ym yi yL yT yK yV : Nat) (h : Int32) (word : Int32) (n : Int32) (ys : Int32) (yn : Nat) (yg : Int32) (yc : Int32) (yw : Nat) (yq : Int32) (yl : Nat) (ye : Int32) (yt : Int32) (yS : Int32) (yr : Nat) (ya : Nat) : zk_Ci l y_Y_sealed w_Y_sealed rm_Y_sealed (dC, dI) vwCl [.ref hy, .int h, .int word, .int n] [(hy, .inr (7, [.int ys, .int (nI yn), .ref yo, .ref yf, .ref yb, .int yg, .ref ym, .int yc, .int (nI yw), .ref yi, .int yq, .int (nI yl), .ref yL, .int ye, .int yt, .int yS, .int (nI yr), .int (nI ya), .ref yT, .ref yK, .ref yV]))] [] (fun (r : Int32) (u : Unit) => r = sp_Y_sealed h word n) (fun _ => [(hy, .inr (7, [.int ys, .int (nI yn), .ref yo, .ref yf, .ref yb, .int yg, .ref ym, .int yc, .int (nI yw), .ref yi, .int yq, .int (nI yl), .ref yL, .int ye, .int yt, .int yS, .int (nI yr), .int (nI ya), .ref yT, .ref yK, .ref yV]))]) := by
  refine zk_enteri (cc := b_Y_sealed) (maxL := 6) (ret := some .int) (by decide) rfl (Nat.le_of_ble_eq_true rfl) ?_
  intro p e s m args below meth c A Q hQ X hRt hLk
  have cut19 : ∀ (fuel : Nat) (res : Int32) (i : Int32), (i.toInt < 4) → (-1 ≤ i.toInt) → (i.toInt + 1).toNat < fuel → sp_Y_sealed h word n = sp_Y_sealed_19 word fuel res i → zk_Z p l e rm_Y_sealed s m args below meth c Q A (dC, dI) vwCl 6 0 0 [(hy, .inr (7, [.int ys, .int (nI yn), .ref yo, .ref yf, .ref yb, .int yg, .ref ym, .int yc, .int (nI yw), .ref yi, .int yq, .int (nI yl), .ref yL, .int ye, .int yt, .int yS, .int (nI yr), .int (nI ya), .ref yT, .ref yK, .ref yV]))] [(0, .ref hy), (1, .int h), (2, .int word), (3, .int n), (4, .int res), (5, .int i)] [] 19 := by
    intro fuel
    induction fuel with
    | zero => intro res i hi hi0 hMs; exact absurd hMs (Nat.not_lt_zero _)
    | succ fuel ih =>
      intro res i hi hi0 hMs hq
      rw [sp_Y_sealed_19] at hq
      refine zk_iload (pc := 19) X d_Y_sealed_19 (q := 5) rfl ?_
      refine zk_if_lt (pc := 21) X (tgt := 48) d_Y_sealed_21 (by decide) (fun h21 => ?_) (fun h21 => ?_)
      · have hq := hq.trans (if_pos h21)
        refine zk_iload (pc := 48) X d_Y_sealed_48 (q := 4) rfl ?_
        exact zk_iret (pc := 50) X hQ hRt hLk () hq.symm [0] rfl (by decide) d_Y_sealed_50
      · have hq := hq.trans (if_neg h21)
        refine zk_iload (pc := 24) X d_Y_sealed_24 (q := 4) rfl ?_
        refine zk_iload_n (pc := 26) X d_Y_sealed_26 rfl (q := 2) rfl ?_
        refine zk_bipush (pc := 27) X (v := 8) d_Y_sealed_27 (by decide) ?_
        refine zk_iload (pc := 29) X d_Y_sealed_29 (q := 5) rfl ?_
        refine zk_imul (pc := 31) X (v := (8 * i)) d_Y_sealed_31 rfl ?_
        refine zk_ishr (pc := 32) X (v := (zf_shr word (8 * i))) d_Y_sealed_32 rfl ?_
        refine zk_sipush (pc := 33) X (v := 255) d_Y_sealed_33 (by decide) ?_
        refine zk_iand (pc := 36) X (v := ((zf_shr word (8 * i)) &&& 255)) d_Y_sealed_36 rfl ?_
        refine zk_calli (pc := 37) X (wc := []) (wr := [(hy, .inr (7, [.int ys, .int (nI yn), .ref yo, .ref yf, .ref yb, .int yg, .ref ym, .int yc, .int (nI yw), .ref yi, .int yq, .int (nI yl), .ref yL, .int ye, .int yt, .int yS, .int (nI yr), .int (nI ya), .ref yT, .ref yK, .ref yV]))]) [] [0] rfl rfl (by decide) (by decide) (by decide) (zk_runS X (tysC := []) (As := [.int res, .int ((zf_shr word (8 * i)) &&& 255)]) (rest := []) (c_Y_mix l dC dI res ((zf_shr word (8 * i)) &&& 255)) [] rfl (zk_cwS 2 X.1.2.2.2.2 (zk_goodT tw_458) rfl rfl rfl (zk_m tw_456) (zk_m tw_457) (zk_m tw_9) (by decide +kernel) ⟨Nat.le_of_ble_eq_true rfl, Nat.le_of_ble_eq_true rfl⟩) rfl rfl (Nat.le_of_ble_eq_true rfl) ⟨Nat.zero_le _, Nat.zero_le _⟩ d_Y_sealed_37) ?_
        rintro r37 ⟨⟩ w37
        refine zk_ws (ws' := [(hy, .inr (7, [.int ys, .int (nI yn), .ref yo, .ref yf, .ref yb, .int yg, .ref ym, .int yc, .int (nI yw), .ref yi, .int yq, .int (nI yl), .ref yL, .int ye, .int yt, .int yS, .int (nI yr), .int (nI ya), .ref yT, .ref yK, .ref yV]))]) rfl ?_
        subst w37
        refine zk_istore (pc := 40) X (i := 4) (lv' := [(4, .int (sp_Y_mix res ((zf_shr word (8 * i)) &&& 255))), (0, .ref hy), (1, .int h), (2, .int word), (3, .int n), (5, .int i)]) d_Y_sealed_40 (by decide) rfl ?_
        refine zk_iinc (pc := 42) X (k0 := 5) (v := (i + (-1))) (lv' := [(5, .int (i + (-1))), (4, .int (sp_Y_mix res ((zf_shr word (8 * i)) &&& 255))), (0, .ref hy), (1, .int h), (2, .int word), (3, .int n)]) d_Y_sealed_42 rfl rfl (by decide) rfl ?_
        obtain ⟨g45, g45b⟩ := zk_dec h21
        refine zk_goto (pc := 45) X (tgt := 19) d_Y_sealed_45 (by decide) ?_
        refine zk_lv (lv' := [(0, .ref hy), (1, .int h), (2, .int word), (3, .int n), (4, .int (sp_Y_mix res ((zf_shr word (8 * i)) &&& 255))), (5, .int (i + (-1)))]) [2, 3, 4, 5, 1, 0] rfl ?_
        exact ih (sp_Y_mix res ((zf_shr word (8 * i)) &&& 255)) (i + (-1)) (by omega) (by omega) (by omega) hq
  have hq := sp_Y_sealed.eq_1 h word n
  refine zk_lv (lv' := [(0, .ref hy), (1, .int h), (2, .int word), (3, .int n)]) [0, 1, 2, 3] rfl ?_
  refine zk_iload_n (pc := 0) X d_Y_sealed_0 rfl (q := 3) rfl ?_
  refine zk_iconst (pc := 1) X (v := 1) d_Y_sealed_1 rfl ?_
  refine zk_iconst (pc := 2) X (v := 4) d_Y_sealed_2 rfl ?_
  refine zk_calli (pc := 3) X (wc := []) (wr := [(hy, .inr (7, [.int ys, .int (nI yn), .ref yo, .ref yf, .ref yb, .int yg, .ref ym, .int yc, .int (nI yw), .ref yi, .int yq, .int (nI yl), .ref yL, .int ye, .int yt, .int yS, .int (nI yr), .int (nI ya), .ref yT, .ref yK, .ref yV]))]) [] [0] rfl rfl (by decide) (by decide) (by decide) (zk_runS X (tysC := []) (As := [.int n, .int 1, .int 4]) (rest := []) (c_Y_in l dC dI n 1 4) [] rfl (zk_cwS 3 X.1.2.2.2.2 (zk_goodT tw_411) rfl rfl rfl (zk_m tw_409) (zk_m tw_410) (zk_m tw_9) (by decide +kernel) ⟨Nat.le_of_ble_eq_true rfl, Nat.le_of_ble_eq_true rfl⟩) rfl rfl (Nat.le_of_ble_eq_true rfl) ⟨Nat.zero_le _, Nat.zero_le _⟩ d_Y_sealed_3) ?_
  rintro r3 ⟨⟩ ⟨w3, f3_0⟩
  have f3_0 : zk_inr r3 n 1 4 := f3_0
  refine zk_ws (ws' := [(hy, .inr (7, [.int ys, .int (nI yn), .ref yo, .ref yf, .ref yb, .int yg, .ref ym, .int yc, .int (nI yw), .ref yi, .int yq, .int (nI yl), .ref yL, .int ye, .int yt, .int yS, .int (nI yr), .int (nI ya), .ref yT, .ref yK, .ref yV]))]) rfl ?_
  subst w3
  refine zk_if_ne (pc := 6) X (tgt := 11) d_Y_sealed_6 (by decide) (fun h6 => ?_) (fun h6 => ?_)
  · have hq := hq.trans (if_neg h6)
    refine zk_iload_n (pc := 11) X d_Y_sealed_11 rfl (q := 1) rfl ?_
    refine zk_istore (pc := 12) X (i := 4) (lv' := [(4, .int h), (0, .ref hy), (1, .int h), (2, .int word), (3, .int n)]) d_Y_sealed_12 (by decide) rfl ?_
    refine zk_iload_n (pc := 14) X d_Y_sealed_14 rfl (q := 4) rfl ?_
    refine zk_iconst (pc := 15) X (v := 1) d_Y_sealed_15 rfl ?_
    refine zk_isub (pc := 16) X (v := (n - 1)) d_Y_sealed_16 rfl ?_
    refine zk_istore (pc := 17) X (i := 5) (lv' := [(5, .int (n - 1)), (4, .int h), (0, .ref hy), (1, .int h), (2, .int word), (3, .int n)]) d_Y_sealed_17 (by decide) rfl ?_
    refine zk_lv (lv' := [(0, .ref hy), (1, .int h), (2, .int word), (3, .int n), (4, .int h), (5, .int (n - 1))]) [2, 3, 4, 5, 1, 0] rfl ?_
    exact cut19 (5) h (n - 1) (zk_n1i f3_0 h6).1 (zk_n1i f3_0 h6).2.1 (zk_n1i f3_0 h6).2.2 hq
  · have hq := hq.trans (if_pos h6)
    refine zk_iconst (pc := 9) X (v := 0) d_Y_sealed_9 rfl ?_
    exact zk_iret (pc := 10) X hQ hRt hLk () hq.symm [0] rfl (by decide) d_Y_sealed_10
