def sp_X_add (o : Int32) (a : Int32) (b : Int32) (xb : Int32) (fo : Nat → Int32) (ff : Nat → Int32) (fs : Nat → Int32) (pn : Nat) : Int32 × (Nat → Int32) × (Nat → Int32) × (Nat → Int32) × Nat :=
  if xb = 0 then
    if (sp_X_isInstruction o b) = 0 then
      ((-1), fo, ff, fs, pn)
    else
      (match sp_P_append o a b fo ff fs pn with
      | (r24, fo_24, ff_24, fs_24, pn_24) =>
        (r24, fo_24, ff_24, fs_24, pn_24))
  else
    ((-1), fo, ff, fs, pn)
abbrev rm_X_add : Room := { frames := 1, cells := 0, slots := 0, locals := 23 }
set_option maxHeartbeats 4000000 in
set_option maxRecDepth 100000 in
theorem c_X_add (l : Launch) (dC : Nat → ClassId) (dI : Nat → Nat → Nat) (hx hp hj hr ht hm hk po pf ps : Nat) (cPo cPf cPs : ClassId) (o : Int32) (a : Int32) (b : Int32) (xs : Int32) (xb : Int32) (fo : Nat → Int32) (ff : Nat → Int32) (fs : Nat → Int32) (pn : Nat) (hpn : pn ≤ 24) : zk_Ci l y_X_add w_X_add rm_X_add (dC, dI) vwCl [.ref hx, .int o, .int a, .int b] [(hx, .inr (6, [.int xs, .ref hp, .ref hj, .ref hr, .ref ht, .ref hm, .ref hk, .int xb])), (hp, .inr (0, [.ref po, .ref pf, .ref ps, .int (nI pn)])), (po, .inl (cPo, 24, .inl fo)), (pf, .inl (cPf, 24, .inl ff)), (ps, .inl (cPs, 24, .inl fs))] [(cPo, .int), (cPf, .int), (cPs, .int)] (fun (r : Int32) (u : (Nat → Int32) × (Nat → Int32) × (Nat → Int32) × Nat) => (r, u) = sp_X_add o a b xb fo ff fs pn ∧ (u.2.2.2 ≤ 24)) (fun u => [(hx, .inr (6, [.int xs, .ref hp, .ref hj, .ref hr, .ref ht, .ref hm, .ref hk, .int xb])), (hp, .inr (0, [.ref po, .ref pf, .ref ps, .int (nI u.2.2.2)])), (po, .inl (cPo, 24, .inl u.1)), (pf, .inl (cPf, 24, .inl u.2.1)), (ps, .inl (cPs, 24, .inl u.2.2.1))]) := by
  refine zk_enteri (cc := b_X_add) (maxL := 4) (ret := some .int) (by decide) rfl (Nat.le_of_ble_eq_true rfl) ?_
  intro p e s m args below meth c A Q hQ X hRt hLk
  have hq := sp_X_add.eq_1 o a b xb fo ff fs pn
  refine zk_lv (lv' := [(0, .ref hx), (1, .int o), (2, .int a), (3, .int b)]) [0, 1, 2, 3] rfl ?_
  refine zk_aload_n (pc := 0) X d_X_add_0 rfl (q := 0) rfl ?_
  refine zk_get (pc := 1) X (ci := 6) (v := .int xb) in_X 0 rfl rfl 7 (by decide) (zk_m tw_148) rfl d_X_add_1 ?_
  refine zk_if_ne (pc := 4) X (tgt := 15) d_X_add_4 (by decide) (fun h4 => ?_) (fun h4 => ?_)
  · have hq := hq.trans (if_neg h4)
    refine zk_iconst (pc := 15) X (v := (-1)) d_X_add_15 rfl ?_
    exact zk_iret (pc := 16) X hQ hRt hLk (fo, ff, fs, pn) ⟨hq.symm, (show pn ≤ 24 by omega)⟩ [0, 1, 2, 3, 4] rfl (by decide) d_X_add_16
  · have hq := hq.trans (if_pos h4)
    refine zk_iload_n (pc := 7) X d_X_add_7 rfl (q := 1) rfl ?_
    refine zk_iload_n (pc := 8) X d_X_add_8 rfl (q := 3) rfl ?_
    refine zk_calli (pc := 9) X (wc := []) (wr := [(hx, .inr (6, [.int xs, .ref hp, .ref hj, .ref hr, .ref ht, .ref hm, .ref hk, .int xb])), (hp, .inr (0, [.ref po, .ref pf, .ref ps, .int (nI pn)])), (po, .inl (cPo, 24, .inl fo)), (pf, .inl (cPf, 24, .inl ff)), (ps, .inl (cPs, 24, .inl fs))]) [] [0, 1, 2, 3, 4] rfl rfl (by decide) (by decide) (by decide) (zk_runS X (tysC := []) (As := [.int o, .int b]) (rest := []) (c_X_isInstruction l dC dI o b) [] rfl (zk_cwS 2 X.1.2.2.2.2 (zk_goodT tw_163) rfl rfl rfl (zk_m tw_161) (zk_m tw_162) (zk_m tw_1) (by decide +kernel) ⟨Nat.le_of_ble_eq_true rfl, Nat.le_of_ble_eq_true rfl⟩) rfl rfl (Nat.le_of_ble_eq_true rfl) ⟨Nat.zero_le _, Nat.zero_le _⟩ d_X_add_9) ?_
    rintro r9 ⟨⟩ w9
    refine zk_ws (ws' := [(hx, .inr (6, [.int xs, .ref hp, .ref hj, .ref hr, .ref ht, .ref hm, .ref hk, .int xb])), (hp, .inr (0, [.ref po, .ref pf, .ref ps, .int (nI pn)])), (po, .inl (cPo, 24, .inl fo)), (pf, .inl (cPf, 24, .inl ff)), (ps, .inl (cPs, 24, .inl fs))]) rfl ?_
    subst w9
    refine zk_if_ne (pc := 12) X (tgt := 17) d_X_add_12 (by decide) (fun h12 => ?_) (fun h12 => ?_)
    · have hq := hq.trans (if_neg h12)
      refine zk_aload_n (pc := 17) X d_X_add_17 rfl (q := 0) rfl ?_
      refine zk_get (pc := 18) X (ci := 6) (v := .ref hp) in_X 0 rfl rfl 1 (by decide) (zk_m tw_142) rfl d_X_add_18 ?_
      refine zk_iload_n (pc := 21) X d_X_add_21 rfl (q := 1) rfl ?_
      refine zk_iload_n (pc := 22) X d_X_add_22 rfl (q := 2) rfl ?_
      refine zk_iload_n (pc := 23) X d_X_add_23 rfl (q := 3) rfl ?_
      refine zk_calli (pc := 24) X (wc := [(hp, .inr (0, [.ref po, .ref pf, .ref ps, .int (nI pn)])), (po, .inl (cPo, 24, .inl fo)), (pf, .inl (cPf, 24, .inl ff)), (ps, .inl (cPs, 24, .inl fs))]) (wr := [(hx, .inr (6, [.int xs, .ref hp, .ref hj, .ref hr, .ref ht, .ref hm, .ref hk, .int xb]))]) [1, 2, 3, 4] [0] rfl rfl (by decide) (by decide) (by decide) (zk_runV X (C := R_P) (tysC := [(cPo, .int), (cPf, .int), (cPs, .int)]) (As := [.int o, .int a, .int b]) (rest := []) (c_P_append l dC dI hp po pf ps cPo cPf cPs o a b fo ff fs pn (by omega)) [0, 1, 2] rfl (ci := 0) rfl 1 rfl (zk_cwV 3 X.1.2.2.2.2 (zk_goodT tw_167) rfl rfl rfl (zk_m tw_164) (zk_m tw_165) (zk_m tw_166) (zk_m tw_2) rfl (by decide +kernel) ⟨Nat.le_of_ble_eq_true rfl, Nat.le_of_ble_eq_true rfl⟩) rfl rfl (Nat.le_of_ble_eq_true rfl) ⟨Nat.zero_le _, Nat.zero_le _⟩ d_X_add_24) ?_
      rintro r24 ⟨fo_24, ff_24, fs_24, pn_24⟩ ⟨w24, f24_0⟩
      have f24_0 : pn_24 ≤ 24 := f24_0
      refine zk_ws (ws' := [(hx, .inr (6, [.int xs, .ref hp, .ref hj, .ref hr, .ref ht, .ref hm, .ref hk, .int xb])), (hp, .inr (0, [.ref po, .ref pf, .ref ps, .int (nI pn_24)])), (po, .inl (cPo, 24, .inl fo_24)), (pf, .inl (cPf, 24, .inl ff_24)), (ps, .inl (cPs, 24, .inl fs_24))]) rfl ?_
      try dsimp only at w24
      rw [← w24] at hq
      try dsimp only at hq
      exact zk_iret (pc := 27) X hQ hRt hLk (fo_24, ff_24, fs_24, pn_24) ⟨hq.symm, (show pn_24 ≤ 24 by omega)⟩ [0, 1, 2, 3, 4] rfl (by decide) d_X_add_27
    · have hq := hq.trans (if_pos h12)
      refine zk_iconst (pc := 15) X (v := (-1)) d_X_add_15 rfl ?_
      exact zk_iret (pc := 16) X hQ hRt hLk (fo, ff, fs, pn) ⟨hq.symm, (show pn ≤ 24 by omega)⟩ [0, 1, 2, 3, 4] rfl (by decide) d_X_add_16
def sp_X_input (v : Int32) (fi : Nat → Int32) (rw : Nat) : Int32 × (Nat → Int32) × Nat :=
  (match sp_R_addInput v fi rw with
  | (r5, fi_5, rw_5) =>
    (r5, fi_5, rw_5))
abbrev rm_X_input : Room := { frames := 1, cells := 0, slots := 0, locals := 21 }
set_option maxHeartbeats 4000000 in
set_option maxRecDepth 100000 in
theorem c_X_input (l : Launch) (dC : Nat → ClassId) (dI : Nat → Nat → Nat) (hx hp hj hr ht hm hk ri : Nat) (cR : ClassId) (v : Int32) (xs : Int32) (xb : Int32) (fi : Nat → Int32) (rw : Nat) (rt : Int32) (rq : Int32) (rc : Int32) (hrw : rw ≤ 16) : zk_Ci l y_X_input w_X_input rm_X_input (dC, dI) vwCl [.ref hx, .int v] [(hx, .inr (6, [.int xs, .ref hp, .ref hj, .ref hr, .ref ht, .ref hm, .ref hk, .int xb])), (hr, .inr (2, [.ref hj, .ref ri, .int (nI rw), .int rt, .int rq, .int rc])), (ri, .inl (cR, 16, .inl fi))] [(cR, .int)] (fun (r : Int32) (u : (Nat → Int32) × Nat) => (r, u) = sp_X_input v fi rw ∧ (u.2 ≤ 16)) (fun u => [(hx, .inr (6, [.int xs, .ref hp, .ref hj, .ref hr, .ref ht, .ref hm, .ref hk, .int xb])), (hr, .inr (2, [.ref hj, .ref ri, .int (nI u.2), .int rt, .int rq, .int rc])), (ri, .inl (cR, 16, .inl u.1))]) := by
  refine zk_enteri (cc := b_X_input) (maxL := 2) (ret := some .int) (by decide) rfl (Nat.le_of_ble_eq_true rfl) ?_
  intro p e s m args below meth c A Q hQ X hRt hLk
  have hq := sp_X_input.eq_1 v fi rw
  refine zk_lv (lv' := [(0, .ref hx), (1, .int v)]) [0, 1] rfl ?_
  refine zk_aload_n (pc := 0) X d_X_input_0 rfl (q := 0) rfl ?_
  refine zk_get (pc := 1) X (ci := 6) (v := .ref hr) in_X 0 rfl rfl 3 (by decide) (zk_m tw_144) rfl d_X_input_1 ?_
  refine zk_iload_n (pc := 4) X d_X_input_4 rfl (q := 1) rfl ?_
  refine zk_calli (pc := 5) X (wc := [(hr, .inr (2, [.ref hj, .ref ri, .int (nI rw), .int rt, .int rq, .int rc])), (ri, .inl (cR, 16, .inl fi))]) (wr := [(hx, .inr (6, [.int xs, .ref hp, .ref hj, .ref hr, .ref ht, .ref hm, .ref hk, .int xb]))]) [1, 2] [0] rfl rfl (by decide) (by decide) (by decide) (zk_runV X (C := R_R) (tysC := [(cR, .int)]) (As := [.int v]) (rest := []) (c_R_addInput l dC dI hr hj ri cR v fi rw rt rq rc (by omega)) [0] rfl (ci := 2) rfl 1 rfl (zk_cwV 1 X.1.2.2.2.2 (zk_goodT tw_194) rfl rfl rfl (zk_m tw_191) (zk_m tw_192) (zk_m tw_193) (zk_m tw_5) rfl (by decide +kernel) ⟨Nat.le_of_ble_eq_true rfl, Nat.le_of_ble_eq_true rfl⟩) rfl rfl (Nat.le_of_ble_eq_true rfl) ⟨Nat.zero_le _, Nat.zero_le _⟩ d_X_input_5) ?_
  rintro r5 ⟨fi_5, rw_5⟩ ⟨w5, f5_0⟩
  have f5_0 : rw_5 ≤ 16 := f5_0
  refine zk_ws (ws' := [(hx, .inr (6, [.int xs, .ref hp, .ref hj, .ref hr, .ref ht, .ref hm, .ref hk, .int xb])), (hr, .inr (2, [.ref hj, .ref ri, .int (nI rw_5), .int rt, .int rq, .int rc])), (ri, .inl (cR, 16, .inl fi_5))]) rfl ?_
  try dsimp only at w5
  rw [← w5] at hq
  try dsimp only at hq
  exact zk_iret (pc := 8) X hQ hRt hLk (fi_5, rw_5) ⟨hq.symm, (show rw_5 ≤ 16 by omega)⟩ [0, 1, 2] rfl (by decide) d_X_input_8
def sp_X_request (rq : Int32) : Int32 × Int32 :=
  if rq = 0 then
    (1, 1)
  else
    (0, rq)
abbrev rm_X_request : Room := { frames := 0, cells := 0, slots := 0, locals := 0 }
set_option maxHeartbeats 4000000 in
set_option maxRecDepth 100000 in
theorem c_X_request (l : Launch) (dC : Nat → ClassId) (dI : Nat → Nat → Nat) (hx hp hj hr ht hm hk ri : Nat) (cR : ClassId) (xs : Int32) (xb : Int32) (fi : Nat → Int32) (rw : Nat) (rt : Int32) (rq : Int32) (rc : Int32) : zk_Ci l y_X_request w_X_request rm_X_request (dC, dI) vwCl [.ref hx] [(hx, .inr (6, [.int xs, .ref hp, .ref hj, .ref hr, .ref ht, .ref hm, .ref hk, .int xb])), (hr, .inr (2, [.ref hj, .ref ri, .int (nI rw), .int rt, .int rq, .int rc])), (ri, .inl (cR, 16, .inl fi))] [(cR, .int)] (fun (r : Int32) (u : Int32) => (r, u) = sp_X_request rq) (fun u => [(hx, .inr (6, [.int xs, .ref hp, .ref hj, .ref hr, .ref ht, .ref hm, .ref hk, .int xb])), (hr, .inr (2, [.ref hj, .ref ri, .int (nI rw), .int rt, .int u, .int rc])), (ri, .inl (cR, 16, .inl fi))]) := by
  refine zk_enteri (cc := b_X_request) (maxL := 1) (ret := some .boolean) (by decide) rfl (Nat.le_of_ble_eq_true rfl) ?_
  intro p e s m args below meth c A Q hQ X hRt hLk
  have hq := sp_X_request.eq_1 rq
  refine zk_lv (lv' := [(0, .ref hx)]) [0] rfl ?_
  refine zk_aload_n (pc := 0) X d_X_request_0 rfl (q := 0) rfl ?_
  refine zk_get (pc := 1) X (ci := 6) (v := .ref hr) in_X 0 rfl rfl 3 (by decide) (zk_m tw_144) rfl d_X_request_1 ?_
  refine zk_get (pc := 4) X (ci := 2) (v := .int rq) in_R 1 rfl rfl 4 (by decide) (zk_m tw_71) rfl d_X_request_4 ?_
  refine zk_if_eq (pc := 7) X (tgt := 12) d_X_request_7 (by decide) (fun h7 => ?_) (fun h7 => ?_)
  · have hq := hq.trans (if_pos h7)
    refine zk_aload_n (pc := 12) X d_X_request_12 rfl (q := 0) rfl ?_
    refine zk_get (pc := 13) X (ci := 6) (v := .ref hr) in_X 0 rfl rfl 3 (by decide) (zk_m tw_144) rfl d_X_request_13 ?_
    refine zk_iconst (pc := 16) X (v := 1) d_X_request_16 rfl ?_
    refine zk_put (pc := 17) X (ty := .boolean) (v := .int 1) (ws' := [(hx, .inr (6, [.int xs, .ref hp, .ref hj, .ref hr, .ref ht, .ref hm, .ref hk, .int xb])), (hr, .inr (2, [.ref hj, .ref ri, .int (nI rw), .int rt, .int 1, .int rc])), (ri, .inl (cR, 16, .inl fi))]) in_R tok_R nok_R 1 rfl rfl 4 (by decide) (zk_m tw_71) rfl rfl rfl rfl (Nat.le_of_ble_eq_true rfl) d_X_request_17 rfl ?_
    refine zk_iconst (pc := 20) X (v := 1) d_X_request_20 rfl ?_
    exact zk_zret (pc := 21) X hQ hRt hLk rfl 1 hq.symm [0, 1, 2] rfl (by decide) d_X_request_21
  · have hq := hq.trans (if_neg h7)
    refine zk_iconst (pc := 10) X (v := 0) d_X_request_10 rfl ?_
    exact zk_zret (pc := 11) X hQ hRt hLk rfl rq hq.symm [0, 1, 2] rfl (by decide) d_X_request_11
def sp_X_pass (n : Int32) (rc : Int32) : Int32 × Int32 :=
  if n < 1 then
    (0, rc)
  else
    if n ≤ 1000000 then
      (1, (rc + n))
    else
      (0, rc)
abbrev rm_X_pass : Room := { frames := 0, cells := 0, slots := 0, locals := 0 }
set_option maxHeartbeats 4000000 in
set_option maxRecDepth 100000 in
theorem c_X_pass (l : Launch) (dC : Nat → ClassId) (dI : Nat → Nat → Nat) (hx hp hj hr ht hm hk ri : Nat) (cR : ClassId) (n : Int32) (xs : Int32) (xb : Int32) (fi : Nat → Int32) (rw : Nat) (rt : Int32) (rq : Int32) (rc : Int32) : zk_Ci l y_X_pass w_X_pass rm_X_pass (dC, dI) vwCl [.ref hx, .int n] [(hx, .inr (6, [.int xs, .ref hp, .ref hj, .ref hr, .ref ht, .ref hm, .ref hk, .int xb])), (hr, .inr (2, [.ref hj, .ref ri, .int (nI rw), .int rt, .int rq, .int rc])), (ri, .inl (cR, 16, .inl fi))] [(cR, .int)] (fun (r : Int32) (u : Int32) => (r, u) = sp_X_pass n rc) (fun u => [(hx, .inr (6, [.int xs, .ref hp, .ref hj, .ref hr, .ref ht, .ref hm, .ref hk, .int xb])), (hr, .inr (2, [.ref hj, .ref ri, .int (nI rw), .int rt, .int rq, .int u])), (ri, .inl (cR, 16, .inl fi))]) := by
  refine zk_enteri (cc := b_X_pass) (maxL := 2) (ret := some .boolean) (by decide) rfl (Nat.le_of_ble_eq_true rfl) ?_
  intro p e s m args below meth c A Q hQ X hRt hLk
  have hq := sp_X_pass.eq_1 n rc
  refine zk_lv (lv' := [(0, .ref hx), (1, .int n)]) [0, 1] rfl ?_
  refine zk_iload_n (pc := 0) X d_X_pass_0 rfl (q := 1) rfl ?_
  refine zk_iconst (pc := 1) X (v := 1) d_X_pass_1 rfl ?_
  refine zk_icmp_lt (pc := 2) X (tgt := 11) d_X_pass_2 (by decide) (fun h2 => ?_) (fun h2 => ?_)
  · have hq := hq.trans (if_pos h2)
    refine zk_iconst (pc := 11) X (v := 0) d_X_pass_11 rfl ?_
    exact zk_zret (pc := 12) X hQ hRt hLk rfl rc hq.symm [0, 1, 2] rfl (by decide) d_X_pass_12
  · have hq := hq.trans (if_neg h2)
    refine zk_iload_n (pc := 5) X d_X_pass_5 rfl (q := 1) rfl ?_
    refine zk_ldc (pc := 6) X (v := 1000000) d_X_pass_6 (zk_m tw_203) ?_
    refine zk_icmp_le (pc := 8) X (tgt := 13) d_X_pass_8 (by decide) (fun h8 => ?_) (fun h8 => ?_)
    · have hq := hq.trans (if_pos h8)
      refine zk_aload_n (pc := 13) X d_X_pass_13 rfl (q := 0) rfl ?_
      refine zk_get (pc := 14) X (ci := 6) (v := .ref hr) in_X 0 rfl rfl 3 (by decide) (zk_m tw_144) rfl d_X_pass_14 ?_
      refine zk_dup (pc := 17) X d_X_pass_17 rfl ?_
      refine zk_get (pc := 18) X (ci := 2) (v := .int rc) in_R 1 rfl rfl 5 (by decide) (zk_m tw_73) rfl d_X_pass_18 ?_
      refine zk_iload_n (pc := 21) X d_X_pass_21 rfl (q := 1) rfl ?_
      refine zk_iadd (pc := 22) X (v := (rc + n)) d_X_pass_22 rfl ?_
      refine zk_put (pc := 23) X (ty := .int) (v := .int (rc + n)) (ws' := [(hx, .inr (6, [.int xs, .ref hp, .ref hj, .ref hr, .ref ht, .ref hm, .ref hk, .int xb])), (hr, .inr (2, [.ref hj, .ref ri, .int (nI rw), .int rt, .int rq, .int (rc + n)])), (ri, .inl (cR, 16, .inl fi))]) in_R tok_R nok_R 1 rfl rfl 5 (by decide) (zk_m tw_73) rfl rfl rfl rfl (Nat.le_of_ble_eq_true rfl) d_X_pass_23 rfl ?_
      refine zk_iconst (pc := 26) X (v := 1) d_X_pass_26 rfl ?_
      exact zk_zret (pc := 27) X hQ hRt hLk rfl (rc + n) hq.symm [0, 1, 2] rfl (by decide) d_X_pass_27
    · have hq := hq.trans (if_neg h8)
      refine zk_iconst (pc := 11) X (v := 0) d_X_pass_11 rfl ?_
      exact zk_zret (pc := 12) X hQ hRt hLk rfl rc hq.symm [0, 1, 2] rfl (by decide) d_X_pass_12
def sp_X_log (jn : Nat) : Int32 :=
  nI jn
abbrev rm_X_log : Room := { frames := 0, cells := 0, slots := 0, locals := 0 }
set_option maxHeartbeats 4000000 in
set_option maxRecDepth 100000 in
theorem c_X_log (l : Launch) (dC : Nat → ClassId) (dI : Nat → Nat → Nat) (hx hp hj hr ht hm hk jb : Nat) (cJ : ClassId) (xs : Int32) (xb : Int32) (fb : Nat → Int32) (jn : Nat) (jm : Int32) (jS : Int32) (jl : Int32) : zk_Ci l y_X_log w_X_log rm_X_log (dC, dI) vwCl [.ref hx] [(hx, .inr (6, [.int xs, .ref hp, .ref hj, .ref hr, .ref ht, .ref hm, .ref hk, .int xb])), (hj, .inr (1, [.ref jb, .int (nI jn), .int jm, .int jS, .int jl])), (jb, .inl (cJ, 300, .inl fb))] [(cJ, .int)] (fun (r : Int32) (u : Unit) => r = sp_X_log jn) (fun _ => [(hx, .inr (6, [.int xs, .ref hp, .ref hj, .ref hr, .ref ht, .ref hm, .ref hk, .int xb])), (hj, .inr (1, [.ref jb, .int (nI jn), .int jm, .int jS, .int jl])), (jb, .inl (cJ, 300, .inl fb))]) := by
  refine zk_enteri (cc := b_X_log) (maxL := 1) (ret := some .int) (by decide) rfl (Nat.le_of_ble_eq_true rfl) ?_
  intro p e s m args below meth c A Q hQ X hRt hLk
  have hq := sp_X_log.eq_1 jn
  refine zk_lv (lv' := [(0, .ref hx)]) [0] rfl ?_
  refine zk_aload_n (pc := 0) X d_X_log_0 rfl (q := 0) rfl ?_
  refine zk_get (pc := 1) X (ci := 6) (v := .ref hj) in_X 0 rfl rfl 2 (by decide) (zk_m tw_143) rfl d_X_log_1 ?_
  refine zk_get (pc := 4) X (ci := 1) (v := .int (nI jn)) in_J 1 rfl rfl 1 (by decide) (zk_m tw_47) rfl d_X_log_4 ?_
  exact zk_iret (pc := 7) X hQ hRt hLk () hq.symm [0, 1, 2] rfl (by decide) d_X_log_7
def sp_X_entries (jm : Int32) : Int32 :=
  jm
abbrev rm_X_entries : Room := { frames := 0, cells := 0, slots := 0, locals := 0 }
set_option maxHeartbeats 4000000 in
set_option maxRecDepth 100000 in
theorem c_X_entries (l : Launch) (dC : Nat → ClassId) (dI : Nat → Nat → Nat) (hx hp hj hr ht hm hk jb : Nat) (cJ : ClassId) (xs : Int32) (xb : Int32) (fb : Nat → Int32) (jn : Nat) (jm : Int32) (jS : Int32) (jl : Int32) : zk_Ci l y_X_entries w_X_entries rm_X_entries (dC, dI) vwCl [.ref hx] [(hx, .inr (6, [.int xs, .ref hp, .ref hj, .ref hr, .ref ht, .ref hm, .ref hk, .int xb])), (hj, .inr (1, [.ref jb, .int (nI jn), .int jm, .int jS, .int jl])), (jb, .inl (cJ, 300, .inl fb))] [(cJ, .int)] (fun (r : Int32) (u : Unit) => r = sp_X_entries jm) (fun _ => [(hx, .inr (6, [.int xs, .ref hp, .ref hj, .ref hr, .ref ht, .ref hm, .ref hk, .int xb])), (hj, .inr (1, [.ref jb, .int (nI jn), .int jm, .int jS, .int jl])), (jb, .inl (cJ, 300, .inl fb))]) := by
  refine zk_enteri (cc := b_X_entries) (maxL := 1) (ret := some .int) (by decide) rfl (Nat.le_of_ble_eq_true rfl) ?_
  intro p e s m args below meth c A Q hQ X hRt hLk
  have hq := sp_X_entries.eq_1 jm
  refine zk_lv (lv' := [(0, .ref hx)]) [0] rfl ?_
  refine zk_aload_n (pc := 0) X d_X_entries_0 rfl (q := 0) rfl ?_
  refine zk_get (pc := 1) X (ci := 6) (v := .ref hj) in_X 0 rfl rfl 2 (by decide) (zk_m tw_143) rfl d_X_entries_1 ?_
  refine zk_get (pc := 4) X (ci := 1) (v := .int jm) in_J 1 rfl rfl 2 (by decide) (zk_m tw_49) rfl d_X_entries_4 ?_
  exact zk_iret (pc := 7) X hQ hRt hLk () hq.symm [0, 1, 2] rfl (by decide) d_X_entries_7
def sp_X_seal (jS : Int32) : Int32 :=
  jS
abbrev rm_X_seal : Room := { frames := 0, cells := 0, slots := 0, locals := 0 }
set_option maxHeartbeats 4000000 in
set_option maxRecDepth 100000 in
theorem c_X_seal (l : Launch) (dC : Nat → ClassId) (dI : Nat → Nat → Nat) (hx hp hj hr ht hm hk jb : Nat) (cJ : ClassId) (xs : Int32) (xb : Int32) (fb : Nat → Int32) (jn : Nat) (jm : Int32) (jS : Int32) (jl : Int32) : zk_Ci l y_X_seal w_X_seal rm_X_seal (dC, dI) vwCl [.ref hx] [(hx, .inr (6, [.int xs, .ref hp, .ref hj, .ref hr, .ref ht, .ref hm, .ref hk, .int xb])), (hj, .inr (1, [.ref jb, .int (nI jn), .int jm, .int jS, .int jl])), (jb, .inl (cJ, 300, .inl fb))] [(cJ, .int)] (fun (r : Int32) (u : Unit) => r = sp_X_seal jS) (fun _ => [(hx, .inr (6, [.int xs, .ref hp, .ref hj, .ref hr, .ref ht, .ref hm, .ref hk, .int xb])), (hj, .inr (1, [.ref jb, .int (nI jn), .int jm, .int jS, .int jl])), (jb, .inl (cJ, 300, .inl fb))]) := by
  refine zk_enteri (cc := b_X_seal) (maxL := 1) (ret := some .int) (by decide) rfl (Nat.le_of_ble_eq_true rfl) ?_
  intro p e s m args below meth c A Q hQ X hRt hLk
  have hq := sp_X_seal.eq_1 jS
  refine zk_lv (lv' := [(0, .ref hx)]) [0] rfl ?_
  refine zk_aload_n (pc := 0) X d_X_seal_0 rfl (q := 0) rfl ?_
  refine zk_get (pc := 1) X (ci := 6) (v := .ref hj) in_X 0 rfl rfl 2 (by decide) (zk_m tw_143) rfl d_X_seal_1 ?_
  refine zk_get (pc := 4) X (ci := 1) (v := .int jS) in_J 1 rfl rfl 3 (by decide) (zk_m tw_51) rfl d_X_seal_4 ?_
  exact zk_iret (pc := 7) X hQ hRt hLk () hq.symm [0, 1, 2] rfl (by decide) d_X_seal_7
def sp_X_at (i : Int32) (fb : Nat → Int32) (jn : Nat) : Int32 :=
  if (sp_J_has i jn) = 0 then
    (-1)
  else
    (fb i.toNatClampNeg)
abbrev rm_X_at : Room := { frames := 1, cells := 0, slots := 0, locals := 21 }
set_option maxHeartbeats 4000000 in
set_option maxRecDepth 100000 in
theorem c_X_at (l : Launch) (dC : Nat → ClassId) (dI : Nat → Nat → Nat) (hx hp hj hr ht hm hk jb : Nat) (cJ : ClassId) (i : Int32) (xs : Int32) (xb : Int32) (fb : Nat → Int32) (jn : Nat) (jm : Int32) (jS : Int32) (jl : Int32) (hjn : jn ≤ 300) : zk_Ci l y_X_at w_X_at rm_X_at (dC, dI) vwCl [.ref hx, .int i] [(hx, .inr (6, [.int xs, .ref hp, .ref hj, .ref hr, .ref ht, .ref hm, .ref hk, .int xb])), (hj, .inr (1, [.ref jb, .int (nI jn), .int jm, .int jS, .int jl])), (jb, .inl (cJ, 300, .inl fb))] [(cJ, .int)] (fun (r : Int32) (u : Unit) => r = sp_X_at i fb jn) (fun _ => [(hx, .inr (6, [.int xs, .ref hp, .ref hj, .ref hr, .ref ht, .ref hm, .ref hk, .int xb])), (hj, .inr (1, [.ref jb, .int (nI jn), .int jm, .int jS, .int jl])), (jb, .inl (cJ, 300, .inl fb))]) := by
  refine zk_enteri (cc := b_X_at) (maxL := 2) (ret := some .int) (by decide) rfl (Nat.le_of_ble_eq_true rfl) ?_
  intro p e s m args below meth c A Q hQ X hRt hLk
  have hq := sp_X_at.eq_1 i fb jn
  refine zk_lv (lv' := [(0, .ref hx), (1, .int i)]) [0, 1] rfl ?_
  refine zk_aload_n (pc := 0) X d_X_at_0 rfl (q := 0) rfl ?_
  refine zk_get (pc := 1) X (ci := 6) (v := .ref hj) in_X 0 rfl rfl 2 (by decide) (zk_m tw_143) rfl d_X_at_1 ?_
  refine zk_iload_n (pc := 4) X d_X_at_4 rfl (q := 1) rfl ?_
  refine zk_calli (pc := 5) X (wc := [(hj, .inr (1, [.ref jb, .int (nI jn), .int jm, .int jS, .int jl])), (jb, .inl (cJ, 300, .inl fb))]) (wr := [(hx, .inr (6, [.int xs, .ref hp, .ref hj, .ref hr, .ref ht, .ref hm, .ref hk, .int xb]))]) [1, 2] [0] rfl rfl (by decide) (by decide) (by decide) (zk_runV X (C := R_J) (tysC := [(cJ, .int)]) (As := [.int i]) (rest := []) (c_J_has l dC dI hj jb cJ i fb jn jm jS jl) [0] rfl (ci := 1) rfl 1 rfl (zk_cwV 1 X.1.2.2.2.2 (zk_goodT tw_248) rfl rfl rfl (zk_m tw_290) (zk_m tw_246) (zk_m tw_247) (zk_m tw_3) rfl (by decide +kernel) ⟨Nat.le_of_ble_eq_true rfl, Nat.le_of_ble_eq_true rfl⟩) rfl rfl (Nat.le_of_ble_eq_true rfl) ⟨Nat.zero_le _, Nat.zero_le _⟩ d_X_at_5) ?_
  rintro r5 ⟨⟩ ⟨w5, f5_0⟩
  have f5_0 : zk_hs r5 i jn := f5_0
  refine zk_ws (ws' := [(hx, .inr (6, [.int xs, .ref hp, .ref hj, .ref hr, .ref ht, .ref hm, .ref hk, .int xb])), (hj, .inr (1, [.ref jb, .int (nI jn), .int jm, .int jS, .int jl])), (jb, .inl (cJ, 300, .inl fb))]) rfl ?_
  subst w5
  refine zk_if_eq (pc := 8) X (tgt := 23) d_X_at_8 (by decide) (fun h8 => ?_) (fun h8 => ?_)
  · have hq := hq.trans (if_pos h8)
    refine zk_iconst (pc := 23) X (v := (-1)) d_X_at_23 rfl ?_
    exact zk_iret (pc := 24) X hQ hRt hLk () hq.symm [0, 1, 2] rfl (by decide) d_X_at_24
  · have hq := hq.trans (if_neg h8)
    refine zk_aload_n (pc := 11) X d_X_at_11 rfl (q := 0) rfl ?_
    refine zk_get (pc := 12) X (ci := 6) (v := .ref hj) in_X 0 rfl rfl 2 (by decide) (zk_m tw_143) rfl d_X_at_12 ?_
    refine zk_get (pc := 15) X (ci := 1) (v := .ref jb) in_J 1 rfl rfl 0 (by decide) (zk_m tw_45) rfl d_X_at_15 ?_
    refine zk_iload_n (pc := 18) X d_X_at_18 rfl (q := 1) rfl ?_
    refine zk_iald (pc := 19) X 2 0 (i.toNatClampNeg) rfl rfl (zk_hasI f5_0 h8).1 (zk_hasL f5_0 h8 hjn) (by decide) d_X_at_19 ?_
    refine zk_goto (pc := 20) X (tgt := 24) d_X_at_20 (by decide) ?_
    exact zk_iret (pc := 24) X hQ hRt hLk () hq.symm [0, 1, 2] rfl (by decide) d_X_at_24
def sp_X_change (i : Int32) (v : Int32) (fb : Nat → Int32) (jn : Nat) : Int32 × (Nat → Int32) :=
  if (sp_J_has i jn) = 0 then
    (0, fb)
  else
    if v < 0 then
      (0, fb)
    else
      if v ≤ 255 then
        (1, (upd fb i.toNatClampNeg v))
      else
        (0, fb)
abbrev rm_X_change : Room := { frames := 1, cells := 0, slots := 0, locals := 21 }
set_option maxHeartbeats 4000000 in
set_option maxRecDepth 100000 in
theorem c_X_change (l : Launch) (dC : Nat → ClassId) (dI : Nat → Nat → Nat) (hx hp hj hr ht hm hk jb : Nat) (cJ : ClassId) (i : Int32) (v : Int32) (xs : Int32) (xb : Int32) (fb : Nat → Int32) (jn : Nat) (jm : Int32) (jS : Int32) (jl : Int32) (hjn : jn ≤ 300) : zk_Ci l y_X_change w_X_change rm_X_change (dC, dI) vwCl [.ref hx, .int i, .int v] [(hx, .inr (6, [.int xs, .ref hp, .ref hj, .ref hr, .ref ht, .ref hm, .ref hk, .int xb])), (hj, .inr (1, [.ref jb, .int (nI jn), .int jm, .int jS, .int jl])), (jb, .inl (cJ, 300, .inl fb))] [(cJ, .int)] (fun (r : Int32) (u : (Nat → Int32)) => (r, u) = sp_X_change i v fb jn) (fun u => [(hx, .inr (6, [.int xs, .ref hp, .ref hj, .ref hr, .ref ht, .ref hm, .ref hk, .int xb])), (hj, .inr (1, [.ref jb, .int (nI jn), .int jm, .int jS, .int jl])), (jb, .inl (cJ, 300, .inl u))]) := by
  refine zk_enteri (cc := b_X_change) (maxL := 3) (ret := some .boolean) (by decide) rfl (Nat.le_of_ble_eq_true rfl) ?_
  intro p e s m args below meth c A Q hQ X hRt hLk
  have hq := sp_X_change.eq_1 i v fb jn
  refine zk_lv (lv' := [(0, .ref hx), (1, .int i), (2, .int v)]) [0, 1, 2] rfl ?_
  refine zk_aload_n (pc := 0) X d_X_change_0 rfl (q := 0) rfl ?_
  refine zk_get (pc := 1) X (ci := 6) (v := .ref hj) in_X 0 rfl rfl 2 (by decide) (zk_m tw_143) rfl d_X_change_1 ?_
  refine zk_iload_n (pc := 4) X d_X_change_4 rfl (q := 1) rfl ?_
  refine zk_calli (pc := 5) X (wc := [(hj, .inr (1, [.ref jb, .int (nI jn), .int jm, .int jS, .int jl])), (jb, .inl (cJ, 300, .inl fb))]) (wr := [(hx, .inr (6, [.int xs, .ref hp, .ref hj, .ref hr, .ref ht, .ref hm, .ref hk, .int xb]))]) [1, 2] [0] rfl rfl (by decide) (by decide) (by decide) (zk_runV X (C := R_J) (tysC := [(cJ, .int)]) (As := [.int i]) (rest := []) (c_J_has l dC dI hj jb cJ i fb jn jm jS jl) [0] rfl (ci := 1) rfl 1 rfl (zk_cwV 1 X.1.2.2.2.2 (zk_goodT tw_248) rfl rfl rfl (zk_m tw_290) (zk_m tw_246) (zk_m tw_247) (zk_m tw_3) rfl (by decide +kernel) ⟨Nat.le_of_ble_eq_true rfl, Nat.le_of_ble_eq_true rfl⟩) rfl rfl (Nat.le_of_ble_eq_true rfl) ⟨Nat.zero_le _, Nat.zero_le _⟩ d_X_change_5) ?_
  rintro r5 ⟨⟩ ⟨w5, f5_0⟩
  have f5_0 : zk_hs r5 i jn := f5_0
  refine zk_ws (ws' := [(hx, .inr (6, [.int xs, .ref hp, .ref hj, .ref hr, .ref ht, .ref hm, .ref hk, .int xb])), (hj, .inr (1, [.ref jb, .int (nI jn), .int jm, .int jS, .int jl])), (jb, .inl (cJ, 300, .inl fb))]) rfl ?_
  subst w5
  refine zk_if_eq (pc := 8) X (tgt := 22) d_X_change_8 (by decide) (fun h8 => ?_) (fun h8 => ?_)
  · have hq := hq.trans (if_pos h8)
    refine zk_iconst (pc := 22) X (v := 0) d_X_change_22 rfl ?_
    exact zk_zret (pc := 23) X hQ hRt hLk rfl fb hq.symm [0, 1, 2] rfl (by decide) d_X_change_23
  · have hq := hq.trans (if_neg h8)
    refine zk_iload_n (pc := 11) X d_X_change_11 rfl (q := 2) rfl ?_
    refine zk_if_lt (pc := 12) X (tgt := 22) d_X_change_12 (by decide) (fun h12 => ?_) (fun h12 => ?_)
    · have hq := hq.trans (if_pos h12)
      refine zk_iconst (pc := 22) X (v := 0) d_X_change_22 rfl ?_
      exact zk_zret (pc := 23) X hQ hRt hLk rfl fb hq.symm [0, 1, 2] rfl (by decide) d_X_change_23
    · have hq := hq.trans (if_neg h12)
      refine zk_iload_n (pc := 15) X d_X_change_15 rfl (q := 2) rfl ?_
      refine zk_sipush (pc := 16) X (v := 255) d_X_change_16 (by decide) ?_
      refine zk_icmp_le (pc := 19) X (tgt := 24) d_X_change_19 (by decide) (fun h19 => ?_) (fun h19 => ?_)
      · have hq := hq.trans (if_pos h19)
        refine zk_aload_n (pc := 24) X d_X_change_24 rfl (q := 0) rfl ?_
        refine zk_get (pc := 25) X (ci := 6) (v := .ref hj) in_X 0 rfl rfl 2 (by decide) (zk_m tw_143) rfl d_X_change_25 ?_
        refine zk_get (pc := 28) X (ci := 1) (v := .ref jb) in_J 1 rfl rfl 0 (by decide) (zk_m tw_45) rfl d_X_change_28 ?_
        refine zk_iload_n (pc := 31) X d_X_change_31 rfl (q := 1) rfl ?_
        refine zk_iload_n (pc := 32) X d_X_change_32 rfl (q := 2) rfl ?_
        refine zk_iast (pc := 33) X 2 0 (ws' := [(hx, .inr (6, [.int xs, .ref hp, .ref hj, .ref hr, .ref ht, .ref hm, .ref hk, .int xb])), (hj, .inr (1, [.ref jb, .int (nI jn), .int jm, .int jS, .int jl])), (jb, .inl (cJ, 300, .inl (upd fb i.toNatClampNeg v)))]) (i.toNatClampNeg) rfl rfl (zk_hasI f5_0 h8).1 (zk_hasL f5_0 h8 hjn) (by decide) d_X_change_33 rfl ?_
        refine zk_iconst (pc := 34) X (v := 1) d_X_change_34 rfl ?_
        exact zk_zret (pc := 35) X hQ hRt hLk rfl (upd fb i.toNatClampNeg v) hq.symm [0, 1, 2] rfl (by decide) d_X_change_35
      · have hq := hq.trans (if_neg h19)
        refine zk_iconst (pc := 22) X (v := 0) d_X_change_22 rfl ?_
        exact zk_zret (pc := 23) X hQ hRt hLk rfl fb hq.symm [0, 1, 2] rfl (by decide) d_X_change_23
def sp_X_machineOf (which : Int32) (hm : Nat) (hk : Nat) : Option Nat :=
  if which = 0 then
    (some hm)
  else
    if which = 1 then
      (some hk)
    else
      none
abbrev rm_X_machineOf : Room := { frames := 0, cells := 0, slots := 0, locals := 0 }
set_option maxHeartbeats 4000000 in
set_option maxRecDepth 100000 in
theorem c_X_machineOf (l : Launch) (dC : Nat → ClassId) (dI : Nat → Nat → Nat) (hx hp hj hr ht hm hk : Nat) (which : Int32) (xs : Int32) (xb : Int32) : zk_Cq l y_X_machineOf w_X_machineOf rm_X_machineOf (dC, dI) vwCl [.ref hx, .int which] [(hx, .inr (6, [.int xs, .ref hp, .ref hj, .ref hr, .ref ht, .ref hm, .ref hk, .int xb]))] [] (fun (r : Option Nat) (u : Unit) => r = sp_X_machineOf which hm hk) (fun _ => [(hx, .inr (6, [.int xs, .ref hp, .ref hj, .ref hr, .ref ht, .ref hm, .ref hk, .int xb]))]) := by
  refine zk_enterq (cc := b_X_machineOf) (maxL := 2) (ret := (some (.object "RetoldRun$Machine"))) (by decide) rfl (Nat.le_of_ble_eq_true rfl) ?_
  intro p e s m args below meth c A Q hQ X hRt hLk
  have hq := sp_X_machineOf.eq_1 which hm hk
  refine zk_lv (lv' := [(0, .ref hx), (1, .int which)]) [0, 1] rfl ?_
  refine zk_iload_n (pc := 0) X d_X_machineOf_0 rfl (q := 1) rfl ?_
  refine zk_if_ne (pc := 1) X (tgt := 9) d_X_machineOf_1 (by decide) (fun h1 => ?_) (fun h1 => ?_)
  · have hq := hq.trans (if_neg h1)
    refine zk_iload_n (pc := 9) X d_X_machineOf_9 rfl (q := 1) rfl ?_
    refine zk_iconst (pc := 10) X (v := 1) d_X_machineOf_10 rfl ?_
    refine zk_icmp_ne (pc := 11) X (tgt := 21) d_X_machineOf_11 (by decide) (fun h11 => ?_) (fun h11 => ?_)
    · have hq := hq.trans (if_neg h11)
      refine zk_null (pc := 21) X d_X_machineOf_21 ?_
      exact zk_aret (pc := 22) (v := none) X hQ hRt hLk (Or.inl ⟨_, rfl⟩) () hq.symm [0] rfl (by decide) d_X_machineOf_22
    · have hq := hq.trans (if_pos h11)
      refine zk_aload_n (pc := 14) X d_X_machineOf_14 rfl (q := 0) rfl ?_
      refine zk_get (pc := 15) X (ci := 6) (v := .ref hk) in_X 0 rfl rfl 6 (by decide) (zk_m tw_147) rfl d_X_machineOf_15 ?_
      refine zk_goto (pc := 18) X (tgt := 22) d_X_machineOf_18 (by decide) ?_
      exact zk_aret (pc := 22) (v := (some hk)) X hQ hRt hLk (Or.inl ⟨_, rfl⟩) () hq.symm [0] rfl (by decide) d_X_machineOf_22
  · have hq := hq.trans (if_pos h1)
    refine zk_aload_n (pc := 4) X d_X_machineOf_4 rfl (q := 0) rfl ?_
    refine zk_get (pc := 5) X (ci := 6) (v := .ref hm) in_X 0 rfl rfl 5 (by decide) (zk_m tw_146) rfl d_X_machineOf_5 ?_
    exact zk_aret (pc := 8) (v := (some hm)) X hQ hRt hLk (Or.inl ⟨_, rfl⟩) () hq.symm [0] rfl (by decide) d_X_machineOf_8
def sp_X_state (which : Int32) (what : Int32) (fr : Nat → Int32) (mp : Int32) (mi : Int32) (me : Int32) (mo : Int32) (mt : Int32) (mS : Nat) (kfr : Nat → Int32) (kp : Int32) (ki : Int32) (ke : Int32) (ko : Int32) (kt : Int32) (kS : Nat) : Int32 :=
  if which = 0 then
    (sp_M_stateOf what fr mp mi me mo mt mS)
  else if which = 1 then
    (sp_M_stateOf what kfr kp ki ke ko kt kS)
  else 0
abbrev rm_X_state : Room := { frames := 1, cells := 0, slots := 0, locals := 21 }
set_option maxHeartbeats 4000000 in
set_option maxRecDepth 100000 in
theorem c_X_state (l : Launch) (dC : Nat → ClassId) (dI : Nat → Nat → Nat) (hx hp hj hr ht hm hk mr mc kr kc : Nat) (cmr cmc ckr ckc : ClassId) (which : Int32) (what : Int32) (xs : Int32) (xb : Int32) (fr : Nat → Int32) (fc : Nat → Int32) (mp : Int32) (mb : Int32) (mi : Int32) (me : Int32) (ml : Int32) (mo : Int32) (mt : Int32) (mS : Nat) (kfr : Nat → Int32) (kfc : Nat → Int32) (kp : Int32) (kb : Int32) (ki : Int32) (ke : Int32) (kl : Int32) (ko : Int32) (kt : Int32) (kS : Nat) : zk_Ci l y_X_state w_X_state rm_X_state (dC, dI) vwCl [.ref hx, .int which, .int what] [(hx, .inr (6, [.int xs, .ref hp, .ref hj, .ref hr, .ref ht, .ref hm, .ref hk, .int xb])), (hm, .inr (5, [.ref mr, .ref mc, .int mp, .int mb, .int mi, .int me, .int ml, .int mo, .int mt, .int (nI mS)])), (mr, .inl (cmr, 4, .inl fr)), (mc, .inl (cmc, 32, .inl fc)), (hk, .inr (5, [.ref kr, .ref kc, .int kp, .int kb, .int ki, .int ke, .int kl, .int ko, .int kt, .int (nI kS)])), (kr, .inl (ckr, 4, .inl kfr)), (kc, .inl (ckc, 32, .inl kfc))] [(cmr, .int), (cmc, .int), (ckr, .int), (ckc, .int)] (fun (r : Int32) (u : Unit) => r = sp_X_state which what fr mp mi me mo mt mS kfr kp ki ke ko kt kS) (fun _ => [(hx, .inr (6, [.int xs, .ref hp, .ref hj, .ref hr, .ref ht, .ref hm, .ref hk, .int xb])), (hm, .inr (5, [.ref mr, .ref mc, .int mp, .int mb, .int mi, .int me, .int ml, .int mo, .int mt, .int (nI mS)])), (mr, .inl (cmr, 4, .inl fr)), (mc, .inl (cmc, 32, .inl fc)), (hk, .inr (5, [.ref kr, .ref kc, .int kp, .int kb, .int ki, .int ke, .int kl, .int ko, .int kt, .int (nI kS)])), (kr, .inl (ckr, 4, .inl kfr)), (kc, .inl (ckc, 32, .inl kfc))]) := by
  refine zk_enteri (cc := b_X_state) (maxL := 4) (ret := some .int) (by decide) rfl (Nat.le_of_ble_eq_true rfl) ?_
  intro p e s m args below meth c A Q hQ X hRt hLk
  have hq := sp_X_state.eq_1 which what fr mp mi me mo mt mS kfr kp ki ke ko kt kS
  refine zk_lv (lv' := [(0, .ref hx), (1, .int which), (2, .int what)]) [0, 1, 2] rfl ?_
  refine zk_aload_n (pc := 0) X d_X_state_0 rfl (q := 0) rfl ?_
  refine zk_iload_n (pc := 1) X d_X_state_1 rfl (q := 1) rfl ?_
  refine zk_callq (pc := 2) X (wc := [(hx, .inr (6, [.int xs, .ref hp, .ref hj, .ref hr, .ref ht, .ref hm, .ref hk, .int xb]))]) (wr := [(hm, .inr (5, [.ref mr, .ref mc, .int mp, .int mb, .int mi, .int me, .int ml, .int mo, .int mt, .int (nI mS)])), (mr, .inl (cmr, 4, .inl fr)), (mc, .inl (cmc, 32, .inl fc)), (hk, .inr (5, [.ref kr, .ref kc, .int kp, .int kb, .int ki, .int ke, .int kl, .int ko, .int kt, .int (nI kS)])), (kr, .inl (ckr, 4, .inl kfr)), (kc, .inl (ckc, 32, .inl kfc))]) [0] [1, 2, 3, 4, 5, 6] rfl rfl (by decide) (by decide) (by decide) (zk_runV X (C := R_X) (tysC := []) (As := [.int which]) (rest := []) (c_X_machineOf l dC dI hx hp hj hr ht hm hk which xs xb) [] rfl (ci := 6) rfl 0 rfl (zk_cwV 1 X.1.2.2.2.2 (zk_goodT tw_338) rfl rfl rfl (zk_m tw_336) (zk_m tw_337) (zk_m tw_531) (zk_m tw_1) rfl (by decide +kernel) ⟨Nat.le_of_ble_eq_true rfl, Nat.le_of_ble_eq_true rfl⟩) rfl rfl (Nat.le_of_ble_eq_true rfl) ⟨Nat.zero_le _, Nat.zero_le _⟩ d_X_state_2) ?_
  rintro r2 ⟨⟩ w2
  refine zk_ws (ws' := [(hm, .inr (5, [.ref mr, .ref mc, .int mp, .int mb, .int mi, .int me, .int ml, .int mo, .int mt, .int (nI mS)])), (mr, .inl (cmr, 4, .inl fr)), (mc, .inl (cmc, 32, .inl fc)), (hk, .inr (5, [.ref kr, .ref kc, .int kp, .int kb, .int ki, .int ke, .int kl, .int ko, .int kt, .int (nI kS)])), (kr, .inl (ckr, 4, .inl kfr)), (kc, .inl (ckc, 32, .inl kfc)), (hx, .inr (6, [.int xs, .ref hp, .ref hj, .ref hr, .ref ht, .ref hm, .ref hk, .int xb]))]) rfl ?_
  subst w2
  rcases Decidable.em (which = 0) with h2_0 | h2_0
  · have hq := hq.trans (if_pos h2_0)
    refine zk_top (v' := .ref hm) (by rw [sp_X_machineOf.eq_1 which hm hk, if_pos h2_0]; rfl) ?_
    refine zk_astore_n (pc := 5) X (i := 3) (lv' := [(3, .ref hm), (0, .ref hx), (1, .int which), (2, .int what)]) d_X_state_5 rfl (by decide) rfl ?_
    refine zk_aload_n (pc := 6) X d_X_state_6 rfl (q := 0) rfl ?_
    refine zk_ifnonnull (pc := 7) X (tgt := 14) d_X_state_7 (by decide) ?_
    refine zk_aload_n (pc := 14) X d_X_state_14 rfl (q := 0) rfl ?_
    refine zk_iload_n (pc := 15) X d_X_state_15 rfl (q := 3) rfl ?_
    refine zk_calli (pc := 16) X (wc := [(hm, .inr (5, [.ref mr, .ref mc, .int mp, .int mb, .int mi, .int me, .int ml, .int mo, .int mt, .int (nI mS)])), (mr, .inl (cmr, 4, .inl fr)), (mc, .inl (cmc, 32, .inl fc))]) (wr := [(hk, .inr (5, [.ref kr, .ref kc, .int kp, .int kb, .int ki, .int ke, .int kl, .int ko, .int kt, .int (nI kS)])), (kr, .inl (ckr, 4, .inl kfr)), (kc, .inl (ckc, 32, .inl kfc)), (hx, .inr (6, [.int xs, .ref hp, .ref hj, .ref hr, .ref ht, .ref hm, .ref hk, .int xb]))]) [0, 1, 2] [3, 4, 5, 6] rfl rfl (by decide) (by decide) (by decide) (zk_runV X (C := R_M) (tysC := [(cmr, .int), (cmc, .int)]) (As := [.int what]) (rest := []) (c_M_stateOf l dC dI hm mr mc cmr cmc what fr fc mp mb mi me ml mo mt mS) [0, 1] rfl (ci := 5) rfl 0 rfl (zk_cwV 1 X.1.2.2.2.2 (zk_goodT tw_331) rfl rfl rfl (zk_m tw_339) (zk_m tw_329) (zk_m tw_330) (zk_m tw_8) rfl (by decide +kernel) ⟨Nat.le_of_ble_eq_true rfl, Nat.le_of_ble_eq_true rfl⟩) rfl rfl (Nat.le_of_ble_eq_true rfl) ⟨Nat.zero_le _, Nat.zero_le _⟩ d_X_state_16) ?_
    rintro r16 ⟨⟩ w16
    refine zk_ws (ws' := [(hk, .inr (5, [.ref kr, .ref kc, .int kp, .int kb, .int ki, .int ke, .int kl, .int ko, .int kt, .int (nI kS)])), (kr, .inl (ckr, 4, .inl kfr)), (kc, .inl (ckc, 32, .inl kfc)), (hx, .inr (6, [.int xs, .ref hp, .ref hj, .ref hr, .ref ht, .ref hm, .ref hk, .int xb])), (hm, .inr (5, [.ref mr, .ref mc, .int mp, .int mb, .int mi, .int me, .int ml, .int mo, .int mt, .int (nI mS)])), (mr, .inl (cmr, 4, .inl fr)), (mc, .inl (cmc, 32, .inl fc))]) rfl ?_
    subst w16
    exact zk_iret (pc := 19) X hQ hRt hLk () hq.symm [3, 4, 5, 6, 0, 1, 2] rfl (by decide) d_X_state_19
  · have hq := hq.trans (if_neg h2_0)
    rcases Decidable.em (which = 1) with h2_1 | h2_1
    · have hq := hq.trans (if_pos h2_1)
      refine zk_top (v' := .ref hk) (by rw [sp_X_machineOf.eq_1 which hm hk, if_neg h2_0, if_pos h2_1]; rfl) ?_
      refine zk_astore_n (pc := 5) X (i := 3) (lv' := [(3, .ref hk), (0, .ref hx), (1, .int which), (2, .int what)]) d_X_state_5 rfl (by decide) rfl ?_
      refine zk_aload_n (pc := 6) X d_X_state_6 rfl (q := 0) rfl ?_
      refine zk_ifnonnull (pc := 7) X (tgt := 14) d_X_state_7 (by decide) ?_
      refine zk_aload_n (pc := 14) X d_X_state_14 rfl (q := 0) rfl ?_
      refine zk_iload_n (pc := 15) X d_X_state_15 rfl (q := 3) rfl ?_
      refine zk_calli (pc := 16) X (wc := [(hk, .inr (5, [.ref kr, .ref kc, .int kp, .int kb, .int ki, .int ke, .int kl, .int ko, .int kt, .int (nI kS)])), (kr, .inl (ckr, 4, .inl kfr)), (kc, .inl (ckc, 32, .inl kfc))]) (wr := [(hm, .inr (5, [.ref mr, .ref mc, .int mp, .int mb, .int mi, .int me, .int ml, .int mo, .int mt, .int (nI mS)])), (mr, .inl (cmr, 4, .inl fr)), (mc, .inl (cmc, 32, .inl fc)), (hx, .inr (6, [.int xs, .ref hp, .ref hj, .ref hr, .ref ht, .ref hm, .ref hk, .int xb]))]) [3, 4, 5] [0, 1, 2, 6] rfl rfl (by decide) (by decide) (by decide) (zk_runV X (C := R_M) (tysC := [(ckr, .int), (ckc, .int)]) (As := [.int what]) (rest := []) (c_M_stateOf l dC dI hk kr kc ckr ckc what kfr kfc kp kb ki ke kl ko kt kS) [2, 3] rfl (ci := 5) rfl 3 rfl (zk_cwV 1 X.1.2.2.2.2 (zk_goodT tw_331) rfl rfl rfl (zk_m tw_339) (zk_m tw_329) (zk_m tw_330) (zk_m tw_8) rfl (by decide +kernel) ⟨Nat.le_of_ble_eq_true rfl, Nat.le_of_ble_eq_true rfl⟩) rfl rfl (Nat.le_of_ble_eq_true rfl) ⟨Nat.zero_le _, Nat.zero_le _⟩ d_X_state_16) ?_
      rintro r16 ⟨⟩ w16
      refine zk_ws (ws' := [(hm, .inr (5, [.ref mr, .ref mc, .int mp, .int mb, .int mi, .int me, .int ml, .int mo, .int mt, .int (nI mS)])), (mr, .inl (cmr, 4, .inl fr)), (mc, .inl (cmc, 32, .inl fc)), (hx, .inr (6, [.int xs, .ref hp, .ref hj, .ref hr, .ref ht, .ref hm, .ref hk, .int xb])), (hk, .inr (5, [.ref kr, .ref kc, .int kp, .int kb, .int ki, .int ke, .int kl, .int ko, .int kt, .int (nI kS)])), (kr, .inl (ckr, 4, .inl kfr)), (kc, .inl (ckc, 32, .inl kfc))]) rfl ?_
      subst w16
      exact zk_iret (pc := 19) X hQ hRt hLk () hq.symm [3, 0, 1, 2, 4, 5, 6] rfl (by decide) d_X_state_19
    · have hq := hq.trans (if_neg h2_1)
      refine zk_top (v' := .null) (by rw [sp_X_machineOf.eq_1 which hm hk, if_neg h2_0, if_neg h2_1]; rfl) ?_
      refine zk_astore_nN (pc := 5) X (i := 3) (lv' := [(3, .null), (0, .ref hx), (1, .int which), (2, .int what)]) d_X_state_5 rfl (by decide) rfl ?_
      refine zk_aload_nN (pc := 6) X d_X_state_6 rfl (q := 0) rfl ?_
      refine zk_ifnonnullN (pc := 7) X d_X_state_7 ?_
      refine zk_iconst (pc := 10) X (v := 0) d_X_state_10 rfl ?_
      refine zk_goto (pc := 11) X (tgt := 19) d_X_state_11 (by decide) ?_
      exact zk_iret (pc := 19) X hQ hRt hLk () hq.symm [6, 0, 1, 2, 3, 4, 5] rfl (by decide) d_X_state_19
def sp_X_cell (which : Int32) (i : Int32) (fc : Nat → Int32) (kfc : Nat → Int32) : Int32 :=
  if which = 0 then
    (sp_M_cellOf i fc)
  else if which = 1 then
    (sp_M_cellOf i kfc)
  else 0
abbrev rm_X_cell : Room := { frames := 1, cells := 0, slots := 0, locals := 21 }
set_option maxHeartbeats 4000000 in
set_option maxRecDepth 100000 in
theorem c_X_cell (l : Launch) (dC : Nat → ClassId) (dI : Nat → Nat → Nat) (hx hp hj hr ht hm hk mr mc kr kc : Nat) (cmr cmc ckr ckc : ClassId) (which : Int32) (i : Int32) (xs : Int32) (xb : Int32) (fr : Nat → Int32) (fc : Nat → Int32) (mp : Int32) (mb : Int32) (mi : Int32) (me : Int32) (ml : Int32) (mo : Int32) (mt : Int32) (mS : Nat) (kfr : Nat → Int32) (kfc : Nat → Int32) (kp : Int32) (kb : Int32) (ki : Int32) (ke : Int32) (kl : Int32) (ko : Int32) (kt : Int32) (kS : Nat) : zk_Ci l y_X_cell w_X_cell rm_X_cell (dC, dI) vwCl [.ref hx, .int which, .int i] [(hx, .inr (6, [.int xs, .ref hp, .ref hj, .ref hr, .ref ht, .ref hm, .ref hk, .int xb])), (hm, .inr (5, [.ref mr, .ref mc, .int mp, .int mb, .int mi, .int me, .int ml, .int mo, .int mt, .int (nI mS)])), (mr, .inl (cmr, 4, .inl fr)), (mc, .inl (cmc, 32, .inl fc)), (hk, .inr (5, [.ref kr, .ref kc, .int kp, .int kb, .int ki, .int ke, .int kl, .int ko, .int kt, .int (nI kS)])), (kr, .inl (ckr, 4, .inl kfr)), (kc, .inl (ckc, 32, .inl kfc))] [(cmr, .int), (cmc, .int), (ckr, .int), (ckc, .int)] (fun (r : Int32) (u : Unit) => r = sp_X_cell which i fc kfc) (fun _ => [(hx, .inr (6, [.int xs, .ref hp, .ref hj, .ref hr, .ref ht, .ref hm, .ref hk, .int xb])), (hm, .inr (5, [.ref mr, .ref mc, .int mp, .int mb, .int mi, .int me, .int ml, .int mo, .int mt, .int (nI mS)])), (mr, .inl (cmr, 4, .inl fr)), (mc, .inl (cmc, 32, .inl fc)), (hk, .inr (5, [.ref kr, .ref kc, .int kp, .int kb, .int ki, .int ke, .int kl, .int ko, .int kt, .int (nI kS)])), (kr, .inl (ckr, 4, .inl kfr)), (kc, .inl (ckc, 32, .inl kfc))]) := by
  refine zk_enteri (cc := b_X_cell) (maxL := 4) (ret := some .int) (by decide) rfl (Nat.le_of_ble_eq_true rfl) ?_
  intro p e s m args below meth c A Q hQ X hRt hLk
  have hq := sp_X_cell.eq_1 which i fc kfc
  refine zk_lv (lv' := [(0, .ref hx), (1, .int which), (2, .int i)]) [0, 1, 2] rfl ?_
  refine zk_aload_n (pc := 0) X d_X_cell_0 rfl (q := 0) rfl ?_
  refine zk_iload_n (pc := 1) X d_X_cell_1 rfl (q := 1) rfl ?_
  refine zk_callq (pc := 2) X (wc := [(hx, .inr (6, [.int xs, .ref hp, .ref hj, .ref hr, .ref ht, .ref hm, .ref hk, .int xb]))]) (wr := [(hm, .inr (5, [.ref mr, .ref mc, .int mp, .int mb, .int mi, .int me, .int ml, .int mo, .int mt, .int (nI mS)])), (mr, .inl (cmr, 4, .inl fr)), (mc, .inl (cmc, 32, .inl fc)), (hk, .inr (5, [.ref kr, .ref kc, .int kp, .int kb, .int ki, .int ke, .int kl, .int ko, .int kt, .int (nI kS)])), (kr, .inl (ckr, 4, .inl kfr)), (kc, .inl (ckc, 32, .inl kfc))]) [0] [1, 2, 3, 4, 5, 6] rfl rfl (by decide) (by decide) (by decide) (zk_runV X (C := R_X) (tysC := []) (As := [.int which]) (rest := []) (c_X_machineOf l dC dI hx hp hj hr ht hm hk which xs xb) [] rfl (ci := 6) rfl 0 rfl (zk_cwV 1 X.1.2.2.2.2 (zk_goodT tw_338) rfl rfl rfl (zk_m tw_336) (zk_m tw_337) (zk_m tw_531) (zk_m tw_1) rfl (by decide +kernel) ⟨Nat.le_of_ble_eq_true rfl, Nat.le_of_ble_eq_true rfl⟩) rfl rfl (Nat.le_of_ble_eq_true rfl) ⟨Nat.zero_le _, Nat.zero_le _⟩ d_X_cell_2) ?_
  rintro r2 ⟨⟩ w2
  refine zk_ws (ws' := [(hm, .inr (5, [.ref mr, .ref mc, .int mp, .int mb, .int mi, .int me, .int ml, .int mo, .int mt, .int (nI mS)])), (mr, .inl (cmr, 4, .inl fr)), (mc, .inl (cmc, 32, .inl fc)), (hk, .inr (5, [.ref kr, .ref kc, .int kp, .int kb, .int ki, .int ke, .int kl, .int ko, .int kt, .int (nI kS)])), (kr, .inl (ckr, 4, .inl kfr)), (kc, .inl (ckc, 32, .inl kfc)), (hx, .inr (6, [.int xs, .ref hp, .ref hj, .ref hr, .ref ht, .ref hm, .ref hk, .int xb]))]) rfl ?_
  subst w2
  rcases Decidable.em (which = 0) with h2_0 | h2_0
  · have hq := hq.trans (if_pos h2_0)
    refine zk_top (v' := .ref hm) (by rw [sp_X_machineOf.eq_1 which hm hk, if_pos h2_0]; rfl) ?_
    refine zk_astore_n (pc := 5) X (i := 3) (lv' := [(3, .ref hm), (0, .ref hx), (1, .int which), (2, .int i)]) d_X_cell_5 rfl (by decide) rfl ?_
    refine zk_aload_n (pc := 6) X d_X_cell_6 rfl (q := 0) rfl ?_
    refine zk_ifnonnull (pc := 7) X (tgt := 14) d_X_cell_7 (by decide) ?_
    refine zk_aload_n (pc := 14) X d_X_cell_14 rfl (q := 0) rfl ?_
    refine zk_iload_n (pc := 15) X d_X_cell_15 rfl (q := 3) rfl ?_
    refine zk_calli (pc := 16) X (wc := [(hm, .inr (5, [.ref mr, .ref mc, .int mp, .int mb, .int mi, .int me, .int ml, .int mo, .int mt, .int (nI mS)])), (mr, .inl (cmr, 4, .inl fr)), (mc, .inl (cmc, 32, .inl fc))]) (wr := [(hk, .inr (5, [.ref kr, .ref kc, .int kp, .int kb, .int ki, .int ke, .int kl, .int ko, .int kt, .int (nI kS)])), (kr, .inl (ckr, 4, .inl kfr)), (kc, .inl (ckc, 32, .inl kfc)), (hx, .inr (6, [.int xs, .ref hp, .ref hj, .ref hr, .ref ht, .ref hm, .ref hk, .int xb]))]) [0, 1, 2] [3, 4, 5, 6] rfl rfl (by decide) (by decide) (by decide) (zk_runV X (C := R_M) (tysC := [(cmr, .int), (cmc, .int)]) (As := [.int i]) (rest := []) (c_M_cellOf l dC dI hm mr mc cmr cmc i fr fc mp mb mi me ml mo mt mS) [0, 1] rfl (ci := 5) rfl 0 rfl (zk_cwV 1 X.1.2.2.2.2 (zk_goodT tw_347) rfl rfl rfl (zk_m tw_344) (zk_m tw_345) (zk_m tw_346) (zk_m tw_8) rfl (by decide +kernel) ⟨Nat.le_of_ble_eq_true rfl, Nat.le_of_ble_eq_true rfl⟩) rfl rfl (Nat.le_of_ble_eq_true rfl) ⟨Nat.zero_le _, Nat.zero_le _⟩ d_X_cell_16) ?_
    rintro r16 ⟨⟩ w16
    refine zk_ws (ws' := [(hk, .inr (5, [.ref kr, .ref kc, .int kp, .int kb, .int ki, .int ke, .int kl, .int ko, .int kt, .int (nI kS)])), (kr, .inl (ckr, 4, .inl kfr)), (kc, .inl (ckc, 32, .inl kfc)), (hx, .inr (6, [.int xs, .ref hp, .ref hj, .ref hr, .ref ht, .ref hm, .ref hk, .int xb])), (hm, .inr (5, [.ref mr, .ref mc, .int mp, .int mb, .int mi, .int me, .int ml, .int mo, .int mt, .int (nI mS)])), (mr, .inl (cmr, 4, .inl fr)), (mc, .inl (cmc, 32, .inl fc))]) rfl ?_
    subst w16
    exact zk_iret (pc := 19) X hQ hRt hLk () hq.symm [3, 4, 5, 6, 0, 1, 2] rfl (by decide) d_X_cell_19
  · have hq := hq.trans (if_neg h2_0)
    rcases Decidable.em (which = 1) with h2_1 | h2_1
    · have hq := hq.trans (if_pos h2_1)
      refine zk_top (v' := .ref hk) (by rw [sp_X_machineOf.eq_1 which hm hk, if_neg h2_0, if_pos h2_1]; rfl) ?_
      refine zk_astore_n (pc := 5) X (i := 3) (lv' := [(3, .ref hk), (0, .ref hx), (1, .int which), (2, .int i)]) d_X_cell_5 rfl (by decide) rfl ?_
      refine zk_aload_n (pc := 6) X d_X_cell_6 rfl (q := 0) rfl ?_
      refine zk_ifnonnull (pc := 7) X (tgt := 14) d_X_cell_7 (by decide) ?_
      refine zk_aload_n (pc := 14) X d_X_cell_14 rfl (q := 0) rfl ?_
      refine zk_iload_n (pc := 15) X d_X_cell_15 rfl (q := 3) rfl ?_
      refine zk_calli (pc := 16) X (wc := [(hk, .inr (5, [.ref kr, .ref kc, .int kp, .int kb, .int ki, .int ke, .int kl, .int ko, .int kt, .int (nI kS)])), (kr, .inl (ckr, 4, .inl kfr)), (kc, .inl (ckc, 32, .inl kfc))]) (wr := [(hm, .inr (5, [.ref mr, .ref mc, .int mp, .int mb, .int mi, .int me, .int ml, .int mo, .int mt, .int (nI mS)])), (mr, .inl (cmr, 4, .inl fr)), (mc, .inl (cmc, 32, .inl fc)), (hx, .inr (6, [.int xs, .ref hp, .ref hj, .ref hr, .ref ht, .ref hm, .ref hk, .int xb]))]) [3, 4, 5] [0, 1, 2, 6] rfl rfl (by decide) (by decide) (by decide) (zk_runV X (C := R_M) (tysC := [(ckr, .int), (ckc, .int)]) (As := [.int i]) (rest := []) (c_M_cellOf l dC dI hk kr kc ckr ckc i kfr kfc kp kb ki ke kl ko kt kS) [2, 3] rfl (ci := 5) rfl 3 rfl (zk_cwV 1 X.1.2.2.2.2 (zk_goodT tw_347) rfl rfl rfl (zk_m tw_344) (zk_m tw_345) (zk_m tw_346) (zk_m tw_8) rfl (by decide +kernel) ⟨Nat.le_of_ble_eq_true rfl, Nat.le_of_ble_eq_true rfl⟩) rfl rfl (Nat.le_of_ble_eq_true rfl) ⟨Nat.zero_le _, Nat.zero_le _⟩ d_X_cell_16) ?_
      rintro r16 ⟨⟩ w16
      refine zk_ws (ws' := [(hm, .inr (5, [.ref mr, .ref mc, .int mp, .int mb, .int mi, .int me, .int ml, .int mo, .int mt, .int (nI mS)])), (mr, .inl (cmr, 4, .inl fr)), (mc, .inl (cmc, 32, .inl fc)), (hx, .inr (6, [.int xs, .ref hp, .ref hj, .ref hr, .ref ht, .ref hm, .ref hk, .int xb])), (hk, .inr (5, [.ref kr, .ref kc, .int kp, .int kb, .int ki, .int ke, .int kl, .int ko, .int kt, .int (nI kS)])), (kr, .inl (ckr, 4, .inl kfr)), (kc, .inl (ckc, 32, .inl kfc))]) rfl ?_
      subst w16
      exact zk_iret (pc := 19) X hQ hRt hLk () hq.symm [3, 0, 1, 2, 4, 5, 6] rfl (by decide) d_X_cell_19
    · have hq := hq.trans (if_neg h2_1)
      refine zk_top (v' := .null) (by rw [sp_X_machineOf.eq_1 which hm hk, if_neg h2_0, if_neg h2_1]; rfl) ?_
      refine zk_astore_nN (pc := 5) X (i := 3) (lv' := [(3, .null), (0, .ref hx), (1, .int which), (2, .int i)]) d_X_cell_5 rfl (by decide) rfl ?_
      refine zk_aload_nN (pc := 6) X d_X_cell_6 rfl (q := 0) rfl ?_
      refine zk_ifnonnullN (pc := 7) X d_X_cell_7 ?_
      refine zk_iconst (pc := 10) X (v := 0) d_X_cell_10 rfl ?_
      refine zk_goto (pc := 11) X (tgt := 19) d_X_cell_11 (by decide) ?_
      exact zk_iret (pc := 19) X hQ hRt hLk () hq.symm [6, 0, 1, 2, 3, 4, 5] rfl (by decide) d_X_cell_19
def sp_X_sealed_20 (word : Int32) : Nat → Int32 → Int32 → Int32
  | 0, res, i => 0
  | fuel + 1, res, i =>
    if i < 0 then
      res
    else
      sp_X_sealed_20 word fuel (sp_X_sealByte res ((zf_ushr word (8 * i)) &&& 255)) (i + (-1))
def sp_X_sealed (h : Int32) (word : Int32) (n : Int32) : Int32 :=
  if n < 1 then
    0
  else
    if n ≤ 4 then
      sp_X_sealed_20 word 5 h (n - 1)
    else
      0
abbrev rm_X_sealed : Room := { frames := 2, cells := 0, slots := 0, locals := 43 }
set_option maxHeartbeats 4000000 in
set_option maxRecDepth 100000 in
theorem c_X_sealed (l : Launch) (dC : Nat → ClassId) (dI : Nat → Nat → Nat) (hx hp hj hr ht hm hk : Nat) (h : Int32) (word : Int32) (n : Int32) (xs : Int32) (xb : Int32) : zk_Ci l y_X_sealed w_X_sealed rm_X_sealed (dC, dI) vwCl [.ref hx, .int h, .int word, .int n] [(hx, .inr (6, [.int xs, .ref hp, .ref hj, .ref hr, .ref ht, .ref hm, .ref hk, .int xb]))] [] (fun (r : Int32) (u : Unit) => r = sp_X_sealed h word n) (fun _ => [(hx, .inr (6, [.int xs, .ref hp, .ref hj, .ref hr, .ref ht, .ref hm, .ref hk, .int xb]))]) := by
  refine zk_enteri (cc := b_X_sealed) (maxL := 6) (ret := some .int) (by decide) rfl (Nat.le_of_ble_eq_true rfl) ?_
  intro p e s m args below meth c A Q hQ X hRt hLk
  have cut20 : ∀ (fuel : Nat) (res : Int32) (i : Int32), (i.toInt < 4) → (-1 ≤ i.toInt) → (i.toInt + 1).toNat < fuel → sp_X_sealed h word n = sp_X_sealed_20 word fuel res i → zk_Z p l e rm_X_sealed s m args below meth c Q A (dC, dI) vwCl 6 0 0 [(hx, .inr (6, [.int xs, .ref hp, .ref hj, .ref hr, .ref ht, .ref hm, .ref hk, .int xb]))] [(0, .ref hx), (1, .int h), (2, .int word), (3, .int n), (4, .int res), (5, .int i)] [] 20 := by
    intro fuel
    induction fuel with
    | zero => intro res i hi hi0 hMs; exact absurd hMs (Nat.not_lt_zero _)
    | succ fuel ih =>
      intro res i hi hi0 hMs hq
      rw [sp_X_sealed_20] at hq
      refine zk_iload (pc := 20) X d_X_sealed_20 (q := 5) rfl ?_
      refine zk_if_lt (pc := 22) X (tgt := 49) d_X_sealed_22 (by decide) (fun h22 => ?_) (fun h22 => ?_)
      · have hq := hq.trans (if_pos h22)
        refine zk_iload (pc := 49) X d_X_sealed_49 (q := 4) rfl ?_
        exact zk_iret (pc := 51) X hQ hRt hLk () hq.symm [0] rfl (by decide) d_X_sealed_51
      · have hq := hq.trans (if_neg h22)
        refine zk_iload (pc := 25) X d_X_sealed_25 (q := 4) rfl ?_
        refine zk_iload_n (pc := 27) X d_X_sealed_27 rfl (q := 2) rfl ?_
        refine zk_bipush (pc := 28) X (v := 8) d_X_sealed_28 (by decide) ?_
        refine zk_iload (pc := 30) X d_X_sealed_30 (q := 5) rfl ?_
        refine zk_imul (pc := 32) X (v := (8 * i)) d_X_sealed_32 rfl ?_
        refine zk_iushr (pc := 33) X (v := (zf_ushr word (8 * i))) d_X_sealed_33 rfl ?_
        refine zk_sipush (pc := 34) X (v := 255) d_X_sealed_34 (by decide) ?_
        refine zk_iand (pc := 37) X (v := ((zf_ushr word (8 * i)) &&& 255)) d_X_sealed_37 rfl ?_
        refine zk_calli (pc := 38) X (wc := []) (wr := [(hx, .inr (6, [.int xs, .ref hp, .ref hj, .ref hr, .ref ht, .ref hm, .ref hk, .int xb]))]) [] [0] rfl rfl (by decide) (by decide) (by decide) (zk_runS X (tysC := []) (As := [.int res, .int ((zf_ushr word (8 * i)) &&& 255)]) (rest := []) (c_X_sealByte l dC dI res ((zf_ushr word (8 * i)) &&& 255)) [] rfl (zk_cwS 2 X.1.2.2.2.2 (zk_goodT tw_230) rfl rfl rfl (zk_m tw_352) (zk_m tw_229) (zk_m tw_1) (by decide +kernel) ⟨Nat.le_of_ble_eq_true rfl, Nat.le_of_ble_eq_true rfl⟩) rfl rfl (Nat.le_of_ble_eq_true rfl) ⟨Nat.zero_le _, Nat.zero_le _⟩ d_X_sealed_38) ?_
        rintro r38 ⟨⟩ w38
        refine zk_ws (ws' := [(hx, .inr (6, [.int xs, .ref hp, .ref hj, .ref hr, .ref ht, .ref hm, .ref hk, .int xb]))]) rfl ?_
        subst w38
        refine zk_istore (pc := 41) X (i := 4) (lv' := [(4, .int (sp_X_sealByte res ((zf_ushr word (8 * i)) &&& 255))), (0, .ref hx), (1, .int h), (2, .int word), (3, .int n), (5, .int i)]) d_X_sealed_41 (by decide) rfl ?_
        refine zk_iinc (pc := 43) X (k0 := 5) (v := (i + (-1))) (lv' := [(5, .int (i + (-1))), (4, .int (sp_X_sealByte res ((zf_ushr word (8 * i)) &&& 255))), (0, .ref hx), (1, .int h), (2, .int word), (3, .int n)]) d_X_sealed_43 rfl rfl (by decide) rfl ?_
        obtain ⟨g46, g46b⟩ := zk_dec h22
        refine zk_goto (pc := 46) X (tgt := 20) d_X_sealed_46 (by decide) ?_
        refine zk_lv (lv' := [(0, .ref hx), (1, .int h), (2, .int word), (3, .int n), (4, .int (sp_X_sealByte res ((zf_ushr word (8 * i)) &&& 255))), (5, .int (i + (-1)))]) [2, 3, 4, 5, 1, 0] rfl ?_
        exact ih (sp_X_sealByte res ((zf_ushr word (8 * i)) &&& 255)) (i + (-1)) (by omega) (by omega) (by omega) hq
  have hq := sp_X_sealed.eq_1 h word n
  refine zk_lv (lv' := [(0, .ref hx), (1, .int h), (2, .int word), (3, .int n)]) [0, 1, 2, 3] rfl ?_
  refine zk_iload_n (pc := 0) X d_X_sealed_0 rfl (q := 3) rfl ?_
  refine zk_iconst (pc := 1) X (v := 1) d_X_sealed_1 rfl ?_
  refine zk_icmp_lt (pc := 2) X (tgt := 10) d_X_sealed_2 (by decide) (fun h2 => ?_) (fun h2 => ?_)
  · have hq := hq.trans (if_pos h2)
    refine zk_iconst (pc := 10) X (v := 0) d_X_sealed_10 rfl ?_
    exact zk_iret (pc := 11) X hQ hRt hLk () hq.symm [0] rfl (by decide) d_X_sealed_11
  · have hq := hq.trans (if_neg h2)
    refine zk_iload_n (pc := 5) X d_X_sealed_5 rfl (q := 3) rfl ?_
    refine zk_iconst (pc := 6) X (v := 4) d_X_sealed_6 rfl ?_
    refine zk_icmp_le (pc := 7) X (tgt := 12) d_X_sealed_7 (by decide) (fun h7 => ?_) (fun h7 => ?_)
    · have hq := hq.trans (if_pos h7)
      refine zk_iload_n (pc := 12) X d_X_sealed_12 rfl (q := 1) rfl ?_
      refine zk_istore (pc := 13) X (i := 4) (lv' := [(4, .int h), (0, .ref hx), (1, .int h), (2, .int word), (3, .int n)]) d_X_sealed_13 (by decide) rfl ?_
      refine zk_iload_n (pc := 15) X d_X_sealed_15 rfl (q := 4) rfl ?_
      refine zk_iconst (pc := 16) X (v := 1) d_X_sealed_16 rfl ?_
      refine zk_isub (pc := 17) X (v := (n - 1)) d_X_sealed_17 rfl ?_
      refine zk_istore (pc := 18) X (i := 5) (lv' := [(5, .int (n - 1)), (4, .int h), (0, .ref hx), (1, .int h), (2, .int word), (3, .int n)]) d_X_sealed_18 (by decide) rfl ?_
      refine zk_lv (lv' := [(0, .ref hx), (1, .int h), (2, .int word), (3, .int n), (4, .int h), (5, .int (n - 1))]) [2, 3, 4, 5, 1, 0] rfl ?_
      exact cut20 (5) h (n - 1) (zk_n1 h2 h7).1 (zk_n1 h2 h7).2.1 (zk_n1 h2 h7).2.2 hq
    · have hq := hq.trans (if_neg h7)
      refine zk_iconst (pc := 10) X (v := 0) d_X_sealed_10 rfl ?_
      exact zk_iret (pc := 11) X hQ hRt hLk () hq.symm [0] rfl (by decide) d_X_sealed_11
