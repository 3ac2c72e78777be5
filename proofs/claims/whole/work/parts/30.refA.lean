def sp_Y_in (v : Int32) (lo : Int32) (hi : Int32) : Int32 :=
  if v < lo then
    0
  else
    if hi < v then
      0
    else
      1
abbrev rm_Y_in : Room := { frames := 0, cells := 0, slots := 0, locals := 0 }
set_option maxHeartbeats 4000000 in
set_option maxRecDepth 100000 in
theorem c_Y_in (l : Launch) (dC : Nat → ClassId) (dI : Nat → Nat → Nat) (v : Int32) (lo : Int32) (hi : Int32) : zk_Ci l y_Y_in w_Y_in rm_Y_in (dC, dI) vwCl [.int v, .int lo, .int hi] [] [] (fun (r : Int32) (u : Unit) => r = sp_Y_in v lo hi ∧ (zk_inr r v lo hi)) (fun _ => []) := by
  refine zk_enteri (cc := b_Y_in) (maxL := 3) (ret := some .boolean) (by decide) rfl (Nat.le_of_ble_eq_true rfl) ?_
  intro p e s m args below meth c A Q hQ X hRt hLk
  have hq := sp_Y_in.eq_1 v lo hi
  refine zk_lv (lv' := [(0, .int v), (1, .int lo), (2, .int hi)]) [0, 1, 2] rfl ?_
  refine zk_iload_n (pc := 0) X d_Y_in_0 rfl (q := 0) rfl ?_
  refine zk_iload_n (pc := 1) X d_Y_in_1 rfl (q := 1) rfl ?_
  refine zk_icmp_lt (pc := 2) X (tgt := 14) d_Y_in_2 (by decide) (fun h2 => ?_) (fun h2 => ?_)
  · have hq := hq.trans (if_pos h2)
    refine zk_iconst (pc := 14) X (v := 0) d_Y_in_14 rfl ?_
    exact zk_zret (pc := 15) X hQ hRt hLk rfl () ⟨hq.symm, (show zk_inr 0 v lo hi by first | exact Or.inl rfl | exact Or.inr ⟨by assumption, by assumption⟩)⟩ [] rfl (by decide) d_Y_in_15
  · have hq := hq.trans (if_neg h2)
    refine zk_iload_n (pc := 5) X d_Y_in_5 rfl (q := 0) rfl ?_
    refine zk_iload_n (pc := 6) X d_Y_in_6 rfl (q := 2) rfl ?_
    refine zk_icmp_gt (pc := 7) X (tgt := 14) d_Y_in_7 (by decide) (fun h7 => ?_) (fun h7 => ?_)
    · have hq := hq.trans (if_pos h7)
      refine zk_iconst (pc := 14) X (v := 0) d_Y_in_14 rfl ?_
      exact zk_zret (pc := 15) X hQ hRt hLk rfl () ⟨hq.symm, (show zk_inr 0 v lo hi by first | exact Or.inl rfl | exact Or.inr ⟨by assumption, by assumption⟩)⟩ [] rfl (by decide) d_Y_in_15
    · have hq := hq.trans (if_neg h7)
      refine zk_iconst (pc := 10) X (v := 1) d_Y_in_10 rfl ?_
      refine zk_goto (pc := 11) X (tgt := 15) d_Y_in_11 (by decide) ?_
      exact zk_zret (pc := 15) X hQ hRt hLk rfl () ⟨hq.symm, (show zk_inr 1 v lo hi by first | exact Or.inl rfl | exact Or.inr ⟨by assumption, by assumption⟩)⟩ [] rfl (by decide) d_Y_in_15
def sp_Y_mix (h : Int32) (x : Int32) : Int32 :=
  (((h ^^^ x) * 16777619) ^^^ (zf_ushr ((h ^^^ x) * 16777619) 13))
abbrev rm_Y_mix : Room := { frames := 0, cells := 0, slots := 0, locals := 0 }
set_option maxHeartbeats 4000000 in
set_option maxRecDepth 100000 in
theorem c_Y_mix (l : Launch) (dC : Nat → ClassId) (dI : Nat → Nat → Nat) (h : Int32) (x : Int32) : zk_Ci l y_Y_mix w_Y_mix rm_Y_mix (dC, dI) vwCl [.int h, .int x] [] [] (fun (r : Int32) (u : Unit) => r = sp_Y_mix h x) (fun _ => []) := by
  refine zk_enteri (cc := b_Y_mix) (maxL := 3) (ret := some .int) (by decide) rfl (Nat.le_of_ble_eq_true rfl) ?_
  intro p e s m args below meth c A Q hQ X hRt hLk
  have hq := sp_Y_mix.eq_1 h x
  refine zk_lv (lv' := [(0, .int h), (1, .int x)]) [0, 1] rfl ?_
  refine zk_iload_n (pc := 0) X d_Y_mix_0 rfl (q := 0) rfl ?_
  refine zk_iload_n (pc := 1) X d_Y_mix_1 rfl (q := 1) rfl ?_
  refine zk_ixor (pc := 2) X (v := (h ^^^ x)) d_Y_mix_2 rfl ?_
  refine zk_ldc (pc := 3) X (v := 16777619) d_Y_mix_3 (zk_m tw_459) ?_
  refine zk_imul (pc := 5) X (v := ((h ^^^ x) * 16777619)) d_Y_mix_5 rfl ?_
  refine zk_istore_n (pc := 6) X (i := 2) (lv' := [(2, .int ((h ^^^ x) * 16777619)), (0, .int h), (1, .int x)]) d_Y_mix_6 rfl (by decide) rfl ?_
  refine zk_iload_n (pc := 7) X d_Y_mix_7 rfl (q := 0) rfl ?_
  refine zk_iload_n (pc := 8) X d_Y_mix_8 rfl (q := 0) rfl ?_
  refine zk_bipush (pc := 9) X (v := 13) d_Y_mix_9 (by decide) ?_
  refine zk_iushr (pc := 11) X (v := (zf_ushr ((h ^^^ x) * 16777619) 13)) d_Y_mix_11 rfl ?_
  refine zk_ixor (pc := 12) X (v := (((h ^^^ x) * 16777619) ^^^ (zf_ushr ((h ^^^ x) * 16777619) 13))) d_Y_mix_12 rfl ?_
  exact zk_iret (pc := 13) X hQ hRt hLk () hq.symm [] rfl (by decide) d_Y_mix_13
def sp_Y_mod4 (v : Int32) : Int32 :=
  if (0 : Int32) ≤ (zf_rem v 4) then
    (zf_rem v 4)
  else
    ((zf_rem v 4) + 4)
abbrev rm_Y_mod4 : Room := { frames := 0, cells := 0, slots := 0, locals := 0 }
set_option maxHeartbeats 4000000 in
set_option maxRecDepth 100000 in
theorem c_Y_mod4 (l : Launch) (dC : Nat → ClassId) (dI : Nat → Nat → Nat) (v : Int32) : zk_Ci l y_Y_mod w_Y_mod rm_Y_mod4 (dC, dI) vwCl [.int v, .int 4] [] [] (fun (r : Int32) (u : Unit) => r = sp_Y_mod4 v) (fun _ => []) := by
  refine zk_enteri (cc := b_Y_mod) (maxL := 3) (ret := some .int) (by decide) rfl (Nat.le_of_ble_eq_true rfl) ?_
  intro p e s m args below meth c A Q hQ X hRt hLk
  have hq := sp_Y_mod4.eq_1 v
  refine zk_lv (lv' := [(0, .int v), (1, .int 4)]) [0, 1] rfl ?_
  refine zk_iload_n (pc := 0) X d_Y_mod_0 rfl (q := 0) rfl ?_
  refine zk_iload_n (pc := 1) X d_Y_mod_1 rfl (q := 1) rfl ?_
  refine zk_irem (pc := 2) X (v := (zf_rem v 4)) d_Y_mod_2 (by decide) rfl ?_
  refine zk_istore_n (pc := 3) X (i := 2) (lv' := [(2, .int (zf_rem v 4)), (0, .int v), (1, .int 4)]) d_Y_mod_3 rfl (by decide) rfl ?_
  refine zk_iload_n (pc := 4) X d_Y_mod_4 rfl (q := 0) rfl ?_
  refine zk_if_ge (pc := 5) X (tgt := 14) d_Y_mod_5 (by decide) (fun h5 => ?_) (fun h5 => ?_)
  · have hq := hq.trans (if_pos h5)
    refine zk_iload_n (pc := 14) X d_Y_mod_14 rfl (q := 0) rfl ?_
    exact zk_iret (pc := 15) X hQ hRt hLk () hq.symm [] rfl (by decide) d_Y_mod_15
  · have hq := hq.trans (if_neg h5)
    refine zk_iload_n (pc := 8) X d_Y_mod_8 rfl (q := 0) rfl ?_
    refine zk_iload_n (pc := 9) X d_Y_mod_9 rfl (q := 2) rfl ?_
    refine zk_iadd (pc := 10) X (v := ((zf_rem v 4) + 4)) d_Y_mod_10 rfl ?_
    refine zk_goto (pc := 11) X (tgt := 15) d_Y_mod_11 (by decide) ?_
    exact zk_iret (pc := 15) X hQ hRt hLk () hq.symm [] rfl (by decide) d_Y_mod_15
def sp_Y_mod32 (v : Int32) : Int32 :=
  if (0 : Int32) ≤ (zf_rem v 32) then
    (zf_rem v 32)
  else
    ((zf_rem v 32) + 32)
abbrev rm_Y_mod32 : Room := { frames := 0, cells := 0, slots := 0, locals := 0 }
set_option maxHeartbeats 4000000 in
set_option maxRecDepth 100000 in
theorem c_Y_mod32 (l : Launch) (dC : Nat → ClassId) (dI : Nat → Nat → Nat) (v : Int32) : zk_Ci l y_Y_mod w_Y_mod rm_Y_mod32 (dC, dI) vwCl [.int v, .int 32] [] [] (fun (r : Int32) (u : Unit) => r = sp_Y_mod32 v) (fun _ => []) := by
  refine zk_enteri (cc := b_Y_mod) (maxL := 3) (ret := some .int) (by decide) rfl (Nat.le_of_ble_eq_true rfl) ?_
  intro p e s m args below meth c A Q hQ X hRt hLk
  have hq := sp_Y_mod32.eq_1 v
  refine zk_lv (lv' := [(0, .int v), (1, .int 32)]) [0, 1] rfl ?_
  refine zk_iload_n (pc := 0) X d_Y_mod_0 rfl (q := 0) rfl ?_
  refine zk_iload_n (pc := 1) X d_Y_mod_1 rfl (q := 1) rfl ?_
  refine zk_irem (pc := 2) X (v := (zf_rem v 32)) d_Y_mod_2 (by decide) rfl ?_
  refine zk_istore_n (pc := 3) X (i := 2) (lv' := [(2, .int (zf_rem v 32)), (0, .int v), (1, .int 32)]) d_Y_mod_3 rfl (by decide) rfl ?_
  refine zk_iload_n (pc := 4) X d_Y_mod_4 rfl (q := 0) rfl ?_
  refine zk_if_ge (pc := 5) X (tgt := 14) d_Y_mod_5 (by decide) (fun h5 => ?_) (fun h5 => ?_)
  · have hq := hq.trans (if_pos h5)
    refine zk_iload_n (pc := 14) X d_Y_mod_14 rfl (q := 0) rfl ?_
    exact zk_iret (pc := 15) X hQ hRt hLk () hq.symm [] rfl (by decide) d_Y_mod_15
  · have hq := hq.trans (if_neg h5)
    refine zk_iload_n (pc := 8) X d_Y_mod_8 rfl (q := 0) rfl ?_
    refine zk_iload_n (pc := 9) X d_Y_mod_9 rfl (q := 2) rfl ?_
    refine zk_iadd (pc := 10) X (v := ((zf_rem v 32) + 32)) d_Y_mod_10 rfl ?_
    refine zk_goto (pc := 11) X (tgt := 15) d_Y_mod_11 (by decide) ?_
    exact zk_iret (pc := 15) X hQ hRt hLk () hq.symm [] rfl (by decide) d_Y_mod_15
