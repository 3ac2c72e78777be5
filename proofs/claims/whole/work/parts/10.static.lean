def sp_X_mix (h : Int32) (x : Int32) : Int32 :=
  ((h ^^^ x) * 16777619)
abbrev rm_X_mix : Room := { frames := 0, cells := 0, slots := 0, locals := 0 }
set_option maxHeartbeats 4000000 in
set_option maxRecDepth 100000 in
theorem c_X_mix (l : Launch) (dC : Nat → ClassId) (dI : Nat → Nat → Nat) (h : Int32) (x : Int32) : zk_Ci l y_X_mix w_X_mix rm_X_mix (dC, dI) vwCl [.int h, .int x] [] [] (fun (r : Int32) (u : Unit) => r = sp_X_mix h x) (fun _ => []) := by
  refine zk_enteri (cc := b_X_mix) (maxL := 2) (ret := some .int) (by decide) rfl (Nat.le_of_ble_eq_true rfl) ?_
  intro p e s m args below meth c A Q hQ X hRt hLk
  have hq := sp_X_mix.eq_1 h x
  refine zk_lv (lv' := [(0, .int h), (1, .int x)]) [0, 1] rfl ?_
  refine zk_iload_n (pc := 0) X d_X_mix_0 rfl (q := 0) rfl ?_
  refine zk_iload_n (pc := 1) X d_X_mix_1 rfl (q := 1) rfl ?_
  refine zk_ixor (pc := 2) X (v := (h ^^^ x)) d_X_mix_2 rfl ?_
  refine zk_ldc (pc := 3) X (v := 16777619) d_X_mix_3 (zk_m tw_234) ?_
  refine zk_imul (pc := 5) X (v := ((h ^^^ x) * 16777619)) d_X_mix_5 rfl ?_
  exact zk_iret (pc := 6) X hQ hRt hLk () hq.symm [] rfl (by decide) d_X_mix_6
def sp_X_sealByte (h : Int32) (x : Int32) : Int32 :=
  ((sp_X_mix h x) ^^^ (zf_ushr (sp_X_mix h x) 13))
abbrev rm_X_sealByte : Room := { frames := 1, cells := 0, slots := 0, locals := 21 }
set_option maxHeartbeats 4000000 in
set_option maxRecDepth 100000 in
theorem c_X_sealByte (l : Launch) (dC : Nat → ClassId) (dI : Nat → Nat → Nat) (h : Int32) (x : Int32) : zk_Ci l y_X_sealByte w_X_sealByte rm_X_sealByte (dC, dI) vwCl [.int h, .int x] [] [] (fun (r : Int32) (u : Unit) => r = sp_X_sealByte h x) (fun _ => []) := by
  refine zk_enteri (cc := b_X_sealByte) (maxL := 3) (ret := some .int) (by decide) rfl (Nat.le_of_ble_eq_true rfl) ?_
  intro p e s m args below meth c A Q hQ X hRt hLk
  have hq := sp_X_sealByte.eq_1 h x
  refine zk_lv (lv' := [(0, .int h), (1, .int x)]) [0, 1] rfl ?_
  refine zk_iload_n (pc := 0) X d_X_sealByte_0 rfl (q := 0) rfl ?_
  refine zk_iload_n (pc := 1) X d_X_sealByte_1 rfl (q := 1) rfl ?_
  refine zk_calli (pc := 2) X (wc := []) (wr := []) [] [] rfl rfl (by decide) (by decide) (by decide) (zk_runS X (tysC := []) (As := [.int h, .int x]) (rest := []) (c_X_mix l dC dI h x) [] rfl (zk_cwS 2 X.1.2.2.2.2 (zk_goodT tw_233) rfl rfl rfl (zk_m tw_231) (zk_m tw_232) (zk_m tw_1) (by decide +kernel) ⟨Nat.le_of_ble_eq_true rfl, Nat.le_of_ble_eq_true rfl⟩) rfl rfl (Nat.le_of_ble_eq_true rfl) ⟨Nat.zero_le _, Nat.zero_le _⟩ d_X_sealByte_2) ?_
  rintro r2 ⟨⟩ w2
  refine zk_ws (ws' := []) rfl ?_
  subst w2
  refine zk_istore_n (pc := 5) X (i := 2) (lv' := [(2, .int (sp_X_mix h x)), (0, .int h), (1, .int x)]) d_X_sealByte_5 rfl (by decide) rfl ?_
  refine zk_iload_n (pc := 6) X d_X_sealByte_6 rfl (q := 0) rfl ?_
  refine zk_iload_n (pc := 7) X d_X_sealByte_7 rfl (q := 0) rfl ?_
  refine zk_bipush (pc := 8) X (v := 13) d_X_sealByte_8 (by decide) ?_
  refine zk_iushr (pc := 10) X (v := (zf_ushr (sp_X_mix h x) 13)) d_X_sealByte_10 rfl ?_
  refine zk_ixor (pc := 11) X (v := ((sp_X_mix h x) ^^^ (zf_ushr (sp_X_mix h x) 13))) d_X_sealByte_11 rfl ?_
  exact zk_iret (pc := 12) X hQ hRt hLk () hq.symm [] rfl (by decide) d_X_sealByte_12
def sp_X_isInstruction (o : Int32) (b : Int32) : Int32 :=
  if o < 0 then
    0
  else
    if o ≤ 12 then
      if o = 5 then
        if b < 0 then
          0
        else
          if (24 : Int32) ≤ b then
            0
          else
            1
      else
        if o = 6 then
          if b < 0 then
            0
          else
            if (24 : Int32) ≤ b then
              0
            else
              1
        else
          1
    else
      0
abbrev rm_X_isInstruction : Room := { frames := 0, cells := 0, slots := 0, locals := 0 }
set_option maxHeartbeats 4000000 in
set_option maxRecDepth 100000 in
theorem c_X_isInstruction (l : Launch) (dC : Nat → ClassId) (dI : Nat → Nat → Nat) (o : Int32) (b : Int32) : zk_Ci l y_X_isInstruction w_X_isInstruction rm_X_isInstruction (dC, dI) vwCl [.int o, .int b] [] [] (fun (r : Int32) (u : Unit) => r = sp_X_isInstruction o b) (fun _ => []) := by
  refine zk_enteri (cc := b_X_isInstruction) (maxL := 3) (ret := some .boolean) (by decide) rfl (Nat.le_of_ble_eq_true rfl) ?_
  intro p e s m args below meth c A Q hQ X hRt hLk
  have hq := sp_X_isInstruction.eq_1 o b
  refine zk_lv (lv' := [(0, .int o), (1, .int b)]) [0, 1] rfl ?_
  refine zk_iload_n (pc := 0) X d_X_isInstruction_0 rfl (q := 0) rfl ?_
  refine zk_if_lt (pc := 1) X (tgt := 10) d_X_isInstruction_1 (by decide) (fun h1 => ?_) (fun h1 => ?_)
  · have hq := hq.trans (if_pos h1)
    refine zk_iconst (pc := 10) X (v := 0) d_X_isInstruction_10 rfl ?_
    exact zk_zret (pc := 11) X hQ hRt hLk rfl () hq.symm [] rfl (by decide) d_X_isInstruction_11
  · have hq := hq.trans (if_neg h1)
    refine zk_iload_n (pc := 4) X d_X_isInstruction_4 rfl (q := 0) rfl ?_
    refine zk_bipush (pc := 5) X (v := 12) d_X_isInstruction_5 (by decide) ?_
    refine zk_icmp_le (pc := 7) X (tgt := 12) d_X_isInstruction_7 (by decide) (fun h7 => ?_) (fun h7 => ?_)
    · have hq := hq.trans (if_pos h7)
      refine zk_iload_n (pc := 12) X d_X_isInstruction_12 rfl (q := 0) rfl ?_
      refine zk_iconst (pc := 13) X (v := 5) d_X_isInstruction_13 rfl ?_
      refine zk_icmp_eq (pc := 14) X (tgt := 23) d_X_isInstruction_14 (by decide) (fun h14 => ?_) (fun h14 => ?_)
      · have hq := hq.trans (if_pos h14)
        refine zk_iconst (pc := 23) X (v := 1) d_X_isInstruction_23 rfl ?_
        refine zk_goto (pc := 24) X (tgt := 28) d_X_isInstruction_24 (by decide) ?_
        refine zk_istore_n (pc := 28) X (i := 2) (lv' := [(2, .int 1), (0, .int o), (1, .int b)]) d_X_isInstruction_28 rfl (by decide) rfl ?_
        refine zk_iload_n (pc := 29) X d_X_isInstruction_29 rfl (q := 0) rfl ?_
        refine zk_if_eq (pc := 30) X (tgt := 43) d_X_isInstruction_30 (by decide) (fun h => absurd h (by decide)) (fun _ => ?_)
        refine zk_iload_n (pc := 33) X d_X_isInstruction_33 rfl (q := 2) rfl ?_
        refine zk_if_lt (pc := 34) X (tgt := 47) d_X_isInstruction_34 (by decide) (fun h34 => ?_) (fun h34 => ?_)
        · have hq := hq.trans (if_pos h34)
          refine zk_iconst (pc := 47) X (v := 0) d_X_isInstruction_47 rfl ?_
          exact zk_zret (pc := 48) X hQ hRt hLk rfl () hq.symm [] rfl (by decide) d_X_isInstruction_48
        · have hq := hq.trans (if_neg h34)
          refine zk_iload_n (pc := 37) X d_X_isInstruction_37 rfl (q := 2) rfl ?_
          refine zk_bipush (pc := 38) X (v := 24) d_X_isInstruction_38 (by decide) ?_
          refine zk_icmp_ge (pc := 40) X (tgt := 47) d_X_isInstruction_40 (by decide) (fun h40 => ?_) (fun h40 => ?_)
          · have hq := hq.trans (if_pos h40)
            refine zk_iconst (pc := 47) X (v := 0) d_X_isInstruction_47 rfl ?_
            exact zk_zret (pc := 48) X hQ hRt hLk rfl () hq.symm [] rfl (by decide) d_X_isInstruction_48
          · have hq := hq.trans (if_neg h40)
            refine zk_iconst (pc := 43) X (v := 1) d_X_isInstruction_43 rfl ?_
            refine zk_goto (pc := 44) X (tgt := 48) d_X_isInstruction_44 (by decide) ?_
            exact zk_zret (pc := 48) X hQ hRt hLk rfl () hq.symm [] rfl (by decide) d_X_isInstruction_48
      · have hq := hq.trans (if_neg h14)
        refine zk_iload_n (pc := 17) X d_X_isInstruction_17 rfl (q := 0) rfl ?_
        refine zk_bipush (pc := 18) X (v := 6) d_X_isInstruction_18 (by decide) ?_
        refine zk_icmp_ne (pc := 20) X (tgt := 27) d_X_isInstruction_20 (by decide) (fun h20 => ?_) (fun h20 => ?_)
        · have hq := hq.trans (if_neg h20)
          refine zk_iconst (pc := 27) X (v := 0) d_X_isInstruction_27 rfl ?_
          refine zk_istore_n (pc := 28) X (i := 2) (lv' := [(2, .int 0), (0, .int o), (1, .int b)]) d_X_isInstruction_28 rfl (by decide) rfl ?_
          refine zk_iload_n (pc := 29) X d_X_isInstruction_29 rfl (q := 0) rfl ?_
          refine zk_if_eq (pc := 30) X (tgt := 43) d_X_isInstruction_30 (by decide) (fun _ => ?_) (fun h => absurd h (by decide))
          refine zk_iconst (pc := 43) X (v := 1) d_X_isInstruction_43 rfl ?_
          refine zk_goto (pc := 44) X (tgt := 48) d_X_isInstruction_44 (by decide) ?_
          exact zk_zret (pc := 48) X hQ hRt hLk rfl () hq.symm [] rfl (by decide) d_X_isInstruction_48
        · have hq := hq.trans (if_pos h20)
          refine zk_iconst (pc := 23) X (v := 1) d_X_isInstruction_23 rfl ?_
          refine zk_goto (pc := 24) X (tgt := 28) d_X_isInstruction_24 (by decide) ?_
          refine zk_istore_n (pc := 28) X (i := 2) (lv' := [(2, .int 1), (0, .int o), (1, .int b)]) d_X_isInstruction_28 rfl (by decide) rfl ?_
          refine zk_iload_n (pc := 29) X d_X_isInstruction_29 rfl (q := 0) rfl ?_
          refine zk_if_eq (pc := 30) X (tgt := 43) d_X_isInstruction_30 (by decide) (fun h => absurd h (by decide)) (fun _ => ?_)
          refine zk_iload_n (pc := 33) X d_X_isInstruction_33 rfl (q := 2) rfl ?_
          refine zk_if_lt (pc := 34) X (tgt := 47) d_X_isInstruction_34 (by decide) (fun h34 => ?_) (fun h34 => ?_)
          · have hq := hq.trans (if_pos h34)
            refine zk_iconst (pc := 47) X (v := 0) d_X_isInstruction_47 rfl ?_
            exact zk_zret (pc := 48) X hQ hRt hLk rfl () hq.symm [] rfl (by decide) d_X_isInstruction_48
          · have hq := hq.trans (if_neg h34)
            refine zk_iload_n (pc := 37) X d_X_isInstruction_37 rfl (q := 2) rfl ?_
            refine zk_bipush (pc := 38) X (v := 24) d_X_isInstruction_38 (by decide) ?_
            refine zk_icmp_ge (pc := 40) X (tgt := 47) d_X_isInstruction_40 (by decide) (fun h40 => ?_) (fun h40 => ?_)
            · have hq := hq.trans (if_pos h40)
              refine zk_iconst (pc := 47) X (v := 0) d_X_isInstruction_47 rfl ?_
              exact zk_zret (pc := 48) X hQ hRt hLk rfl () hq.symm [] rfl (by decide) d_X_isInstruction_48
            · have hq := hq.trans (if_neg h40)
              refine zk_iconst (pc := 43) X (v := 1) d_X_isInstruction_43 rfl ?_
              refine zk_goto (pc := 44) X (tgt := 48) d_X_isInstruction_44 (by decide) ?_
              exact zk_zret (pc := 48) X hQ hRt hLk rfl () hq.symm [] rfl (by decide) d_X_isInstruction_48
    · have hq := hq.trans (if_neg h7)
      refine zk_iconst (pc := 10) X (v := 0) d_X_isInstruction_10 rfl ?_
      exact zk_zret (pc := 11) X hQ hRt hLk rfl () hq.symm [] rfl (by decide) d_X_isInstruction_11
def sp_P_has (i : Int32) (pn : Nat) : Int32 :=
  if i < 0 then
    0
  else
    if (nI pn) ≤ i then
      0
    else
      1
abbrev rm_P_has : Room := { frames := 0, cells := 0, slots := 0, locals := 0 }
set_option maxHeartbeats 4000000 in
set_option maxRecDepth 100000 in
theorem c_P_has (l : Launch) (dC : Nat → ClassId) (dI : Nat → Nat → Nat) (hp po pf ps : Nat) (cPo cPf cPs : ClassId) (i : Int32) (fo : Nat → Int32) (ff : Nat → Int32) (fs : Nat → Int32) (pn : Nat) : zk_Ci l y_P_has w_P_has rm_P_has (dC, dI) vwCl [.ref hp, .int i] [(hp, .inr (0, [.ref po, .ref pf, .ref ps, .int (nI pn)])), (po, .inl (cPo, 24, .inl fo)), (pf, .inl (cPf, 24, .inl ff)), (ps, .inl (cPs, 24, .inl fs))] [(cPo, .int), (cPf, .int), (cPs, .int)] (fun (r : Int32) (u : Unit) => r = sp_P_has i pn ∧ (zk_hs r i pn)) (fun _ => [(hp, .inr (0, [.ref po, .ref pf, .ref ps, .int (nI pn)])), (po, .inl (cPo, 24, .inl fo)), (pf, .inl (cPf, 24, .inl ff)), (ps, .inl (cPs, 24, .inl fs))]) := by
  refine zk_enteri (cc := b_P_has) (maxL := 2) (ret := some .boolean) (by decide) rfl (Nat.le_of_ble_eq_true rfl) ?_
  intro p e s m args below meth c A Q hQ X hRt hLk
  have hq := sp_P_has.eq_1 i pn
  refine zk_lv (lv' := [(0, .ref hp), (1, .int i)]) [0, 1] rfl ?_
  refine zk_iload_n (pc := 0) X d_P_has_0 rfl (q := 1) rfl ?_
  refine zk_if_lt (pc := 1) X (tgt := 16) d_P_has_1 (by decide) (fun h1 => ?_) (fun h1 => ?_)
  · have hq := hq.trans (if_pos h1)
    refine zk_iconst (pc := 16) X (v := 0) d_P_has_16 rfl ?_
    exact zk_zret (pc := 17) X hQ hRt hLk rfl () ⟨hq.symm, (show zk_hs 0 i pn by first | exact Or.inl rfl | exact Or.inr ⟨by assumption, by assumption⟩)⟩ [0, 1, 2, 3] rfl (by decide) d_P_has_17
  · have hq := hq.trans (if_neg h1)
    refine zk_iload_n (pc := 4) X d_P_has_4 rfl (q := 1) rfl ?_
    refine zk_aload_n (pc := 5) X d_P_has_5 rfl (q := 0) rfl ?_
    refine zk_get (pc := 6) X (ci := 0) (v := .int (nI pn)) in_P 0 rfl rfl 3 (by decide) (zk_m tw_31) rfl d_P_has_6 ?_
    refine zk_icmp_ge (pc := 9) X (tgt := 16) d_P_has_9 (by decide) (fun h9 => ?_) (fun h9 => ?_)
    · have hq := hq.trans (if_pos h9)
      refine zk_iconst (pc := 16) X (v := 0) d_P_has_16 rfl ?_
      exact zk_zret (pc := 17) X hQ hRt hLk rfl () ⟨hq.symm, (show zk_hs 0 i pn by first | exact Or.inl rfl | exact Or.inr ⟨by assumption, by assumption⟩)⟩ [0, 1, 2, 3] rfl (by decide) d_P_has_17
    · have hq := hq.trans (if_neg h9)
      refine zk_iconst (pc := 12) X (v := 1) d_P_has_12 rfl ?_
      refine zk_goto (pc := 13) X (tgt := 17) d_P_has_13 (by decide) ?_
      exact zk_zret (pc := 17) X hQ hRt hLk rfl () ⟨hq.symm, (show zk_hs 1 i pn by first | exact Or.inl rfl | exact Or.inr ⟨by assumption, by assumption⟩)⟩ [0, 1, 2, 3] rfl (by decide) d_P_has_17
def sp_P_append (o : Int32) (a : Int32) (b : Int32) (fo : Nat → Int32) (ff : Nat → Int32) (fs : Nat → Int32) (pn : Nat) : Int32 × (Nat → Int32) × (Nat → Int32) × (Nat → Int32) × Nat :=
  if pn < 24 then
    (nI pn, (upd fo pn o), (upd ff pn a), (upd fs pn b), pn + 1)
  else
    ((-1), fo, ff, fs, pn)
abbrev rm_P_append : Room := { frames := 0, cells := 0, slots := 0, locals := 0 }
set_option maxHeartbeats 4000000 in
set_option maxRecDepth 100000 in
theorem c_P_append (l : Launch) (dC : Nat → ClassId) (dI : Nat → Nat → Nat) (hp po pf ps : Nat) (cPo cPf cPs : ClassId) (o : Int32) (a : Int32) (b : Int32) (fo : Nat → Int32) (ff : Nat → Int32) (fs : Nat → Int32) (pn : Nat) (hpn : pn ≤ 24) : zk_Ci l y_P_append w_P_append rm_P_append (dC, dI) vwCl [.ref hp, .int o, .int a, .int b] [(hp, .inr (0, [.ref po, .ref pf, .ref ps, .int (nI pn)])), (po, .inl (cPo, 24, .inl fo)), (pf, .inl (cPf, 24, .inl ff)), (ps, .inl (cPs, 24, .inl fs))] [(cPo, .int), (cPf, .int), (cPs, .int)] (fun (r : Int32) (u : (Nat → Int32) × (Nat → Int32) × (Nat → Int32) × Nat) => (r, u) = sp_P_append o a b fo ff fs pn ∧ (u.2.2.2 ≤ 24)) (fun u => [(hp, .inr (0, [.ref po, .ref pf, .ref ps, .int (nI u.2.2.2)])), (po, .inl (cPo, 24, .inl u.1)), (pf, .inl (cPf, 24, .inl u.2.1)), (ps, .inl (cPs, 24, .inl u.2.2.1))]) := by
  refine zk_enteri (cc := b_P_append) (maxL := 4) (ret := some .int) (by decide) rfl (Nat.le_of_ble_eq_true rfl) ?_
  intro p e s m args below meth c A Q hQ X hRt hLk
  have hq := sp_P_append.eq_1 o a b fo ff fs pn
  refine zk_lv (lv' := [(0, .ref hp), (1, .int o), (2, .int a), (3, .int b)]) [0, 1, 2, 3] rfl ?_
  refine zk_aload_n (pc := 0) X d_P_append_0 rfl (q := 0) rfl ?_
  refine zk_get (pc := 1) X (ci := 0) (v := .int (nI pn)) in_P 0 rfl rfl 3 (by decide) (zk_m tw_31) rfl d_P_append_1 ?_
  refine zk_bipush (pc := 4) X (v := 24) d_P_append_4 (by decide) ?_
  refine zk_icmpN_lt (pc := 6) X (tgt := 11) (pn) (24) rfl rfl (by omega) (by omega) d_P_append_6 (by decide) (fun h6 => ?_) (fun h6 => ?_)
  · have hq := hq.trans (if_pos h6)
    refine zk_aload_n (pc := 11) X d_P_append_11 rfl (q := 0) rfl ?_
    refine zk_get (pc := 12) X (ci := 0) (v := .ref po) in_P 0 rfl rfl 0 (by decide) (zk_m tw_25) rfl d_P_append_12 ?_
    refine zk_aload_n (pc := 15) X d_P_append_15 rfl (q := 0) rfl ?_
    refine zk_get (pc := 16) X (ci := 0) (v := .int (nI pn)) in_P 0 rfl rfl 3 (by decide) (zk_m tw_31) rfl d_P_append_16 ?_
    refine zk_iload_n (pc := 19) X d_P_append_19 rfl (q := 1) rfl ?_
    refine zk_iast (pc := 20) X 1 0 (ws' := [(hp, .inr (0, [.ref po, .ref pf, .ref ps, .int (nI pn)])), (po, .inl (cPo, 24, .inl (upd fo pn o))), (pf, .inl (cPf, 24, .inl ff)), (ps, .inl (cPs, 24, .inl fs))]) (pn) rfl rfl rfl (by omega) (by decide) d_P_append_20 rfl ?_
    refine zk_aload_n (pc := 21) X d_P_append_21 rfl (q := 0) rfl ?_
    refine zk_get (pc := 22) X (ci := 0) (v := .ref pf) in_P 0 rfl rfl 1 (by decide) (zk_m tw_27) rfl d_P_append_22 ?_
    refine zk_aload_n (pc := 25) X d_P_append_25 rfl (q := 0) rfl ?_
    refine zk_get (pc := 26) X (ci := 0) (v := .int (nI pn)) in_P 0 rfl rfl 3 (by decide) (zk_m tw_31) rfl d_P_append_26 ?_
    refine zk_iload_n (pc := 29) X d_P_append_29 rfl (q := 2) rfl ?_
    refine zk_iast (pc := 30) X 2 1 (ws' := [(hp, .inr (0, [.ref po, .ref pf, .ref ps, .int (nI pn)])), (po, .inl (cPo, 24, .inl (upd fo pn o))), (pf, .inl (cPf, 24, .inl (upd ff pn a))), (ps, .inl (cPs, 24, .inl fs))]) (pn) rfl rfl rfl (by omega) (by decide) d_P_append_30 rfl ?_
    refine zk_aload_n (pc := 31) X d_P_append_31 rfl (q := 0) rfl ?_
    refine zk_get (pc := 32) X (ci := 0) (v := .ref ps) in_P 0 rfl rfl 2 (by decide) (zk_m tw_29) rfl d_P_append_32 ?_
    refine zk_aload_n (pc := 35) X d_P_append_35 rfl (q := 0) rfl ?_
    refine zk_get (pc := 36) X (ci := 0) (v := .int (nI pn)) in_P 0 rfl rfl 3 (by decide) (zk_m tw_31) rfl d_P_append_36 ?_
    refine zk_iload_n (pc := 39) X d_P_append_39 rfl (q := 3) rfl ?_
    refine zk_iast (pc := 40) X 3 2 (ws' := [(hp, .inr (0, [.ref po, .ref pf, .ref ps, .int (nI pn)])), (po, .inl (cPo, 24, .inl (upd fo pn o))), (pf, .inl (cPf, 24, .inl (upd ff pn a))), (ps, .inl (cPs, 24, .inl (upd fs pn b)))]) (pn) rfl rfl rfl (by omega) (by decide) d_P_append_40 rfl ?_
    refine zk_aload_n (pc := 41) X d_P_append_41 rfl (q := 0) rfl ?_
    refine zk_dup (pc := 42) X d_P_append_42 rfl ?_
    refine zk_get (pc := 43) X (ci := 0) (v := .int (nI pn)) in_P 0 rfl rfl 3 (by decide) (zk_m tw_31) rfl d_P_append_43 ?_
    refine zk_iconst (pc := 46) X (v := 1) d_P_append_46 rfl ?_
    refine zk_iadd (pc := 47) X (v := nI (pn + 1)) d_P_append_47 (nI_add (pn) (1)) ?_
    refine zk_put (pc := 48) X (ty := .int) (v := .int (nI (pn + 1))) (ws' := [(hp, .inr (0, [.ref po, .ref pf, .ref ps, .int (nI (pn + 1))])), (po, .inl (cPo, 24, .inl (upd fo pn o))), (pf, .inl (cPf, 24, .inl (upd ff pn a))), (ps, .inl (cPs, 24, .inl (upd fs pn b)))]) in_P tok_P nok_P 0 rfl rfl 3 (by decide) (zk_m tw_31) rfl rfl rfl rfl (Nat.le_of_ble_eq_true rfl) d_P_append_48 rfl ?_
    refine zk_aload_n (pc := 51) X d_P_append_51 rfl (q := 0) rfl ?_
    refine zk_get (pc := 52) X (ci := 0) (v := .int (nI (pn + 1))) in_P 0 rfl rfl 3 (by decide) (zk_m tw_31) rfl d_P_append_52 ?_
    refine zk_iconst (pc := 55) X (v := 1) d_P_append_55 rfl ?_
    refine zk_isub (pc := 56) X (v := nI pn) d_P_append_56 (zk_nsub (pn) 1) ?_
    exact zk_iret (pc := 57) X hQ hRt hLk ((upd fo pn o), (upd ff pn a), (upd fs pn b), pn + 1) ⟨hq.symm, (show (pn + 1) ≤ 24 by omega)⟩ [0, 1, 2, 3] rfl (by decide) d_P_append_57
  · have hq := hq.trans (if_neg h6)
    refine zk_iconst (pc := 9) X (v := (-1)) d_P_append_9 rfl ?_
    exact zk_iret (pc := 10) X hQ hRt hLk (fo, ff, fs, pn) ⟨hq.symm, (show pn ≤ 24 by omega)⟩ [0, 1, 2, 3] rfl (by decide) d_P_append_10
