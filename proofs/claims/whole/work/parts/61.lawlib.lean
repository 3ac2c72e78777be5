/-! rows for the law: the script, its own cell method, words -/
section ZLW
variable {p : Program} {l : Launch} {e : Env} {R : Room} {s : State} {m : MethodId} {args : Array Value} {below : List Frame} {meth : Method} {c : Code} {Q : State → Prop} {A : Nat → Prop} {D : va_G} {cl : List vw_C} {tys : List (ClassId × FieldType)} {nL cells slots pc : Nat} {cc : ByteArray} {Ts : List Cond} {own : String} {ws : va_W} {lv : List (Nat × Value)} {st : List Value}
theorem zk_sld (X : zk_X p s m args c cc nL own Ts D cl tys A) {b L : Nat} {sc : Nat → Int32} (hX : va_X b L sc s s.heap) (hbl : b < s.heap.size) (hbA : ¬ A b) {i : Int32} (j : Nat) (hi : i = nI j) (hj : j < L) (hL : L < 2 ^ 31) (hdg : decode cc pc = .ok (.iaload, 1)) (k : zk_Z p l e R s m args below meth c Q A D cl nL cells slots ws lv (.int (sc j) :: st) (pc + 1)) : zk_Z p l e R s m args below meth c Q A D cl nL cells slots ws lv (.int i :: .ref b :: st) pc := by
  subst hi; exact fun H locs ls hP hD hS hl => va_sld X.1.1 X.1.2.1 hX hbl hbA hS (vp_in_nI hj hL) hdg (by rw [nI_clamp (Nat.lt_trans hj hL)]; exact k H locs ls hP hD hS hl)
theorem zk_slen (X : zk_X p s m args c cc nL own Ts D cl tys A) {b L : Nat} {sc : Nat → Int32} (hX : va_X b L sc s s.heap) (hbl : b < s.heap.size) (hbA : ¬ A b) (hdg : decode cc pc = .ok (.arraylength, 1)) (k : zk_Z p l e R s m args below meth c Q A D cl nL cells slots ws lv (.int (nI L) :: st) (pc + 1)) : zk_Z p l e R s m args below meth c Q A D cl nL cells slots ws lv (.ref b :: st) pc :=
  fun H locs ls hP hD hS hl => va_slen X.1.1 X.1.2.1 hX hbl hbA hS hdg (k H locs ls hP hD hS hl)
end ZLW
theorem zk_goodL {w : Cond} (h : w ∈ zk_T) : GoodIn zk_T (w :: zk_T) := fun v hv => by
  rcases List.mem_cons.mp hv with rfl | hv
  · exact ⟨h, zk_ok _ h⟩
  · exact ⟨hv, zk_ok _ hv⟩
theorem zr_R.facts {N : Nat} {gm : Nat → Int32} {xb : Int32} {fo fs : Nat → Int32} {pn : Nat} {fr fc : Nat → Int32} {mp mb mi me ml mo mt : Int32} {mS : Nat} {kfr kfc : Nat → Int32} {kp kb ki ke kl ko kt : Int32} {kS : Nat} {rw : Nat} {rt rq rc : Int32} {jn : Nat} {jl : Int32} (h : zr_R N gm xb fo fs pn fr fc mp mb mi me ml mo mt mS kfr kfc kp kb ki ke kl ko kt kS rw rt rq rc jn jl) :
    pn ≤ 24 ∧ jn ≤ 300 ∧ rw ≤ 16 ∧ zk_YI gm fo fs pn 0 ∧ gm 9 = nI mS ∧ mS ≤ 101 * N ∧ zr_M 0 gm fr fc mp mb mi me ml mo mt mS ∧ (∃ kz, zr_M 48 gm kfr kfc kp kb ki ke kz ko kt kS) ∧ (mi = 0 ∨ mi = 1) ∧ (me = 0 ∨ me = 1) ∧ (ki = 0 ∨ ki = 1) ∧ (ke = 0 ∨ ke = 1) := by
  obtain ⟨c0, c1, u, ⟨a1, a2, a3, a4, a5, a6, a7, a8, a9, a10⟩, h2, h3, h4, h5, h6, h7, h8, h9, h10, h11, h12⟩ := h
  exact ⟨h9, a8, a10, a2, a1.2.2.2.2.2.2.1, h11, a1, h5, a5, a6, h6, h7⟩
abbrev rm_L_cell : Room := { frames := 0, cells := 0, slots := 0, locals := 0 }
set_option maxHeartbeats 4000000 in
set_option maxRecDepth 100000 in
theorem c_L_cell (l : Launch) (b L : Nat) (sc : Nat → Int32) (hL : L < 2 ^ 31) : Met l y_L_cell w_L_cell rm_L_cell (va_Pc [.ref b, .int 0] (fun U => va_X b L sc U U.heap)) (va_Qi (fun (r : Int32) (_ : Unit) => r = if 0 < L then sc 0 else 0) (fun _ _ => True) (fun _ => False)) 0 0 (fun _ => False) := by
  refine Met.ofW (cc := b_L_cell) (maxL := 2) (ret := some .int) (by decide) rfl ?_
  intro p e s m args below meth c s₁ B hml hv
  obtain ⟨rfl, hX⟩ := hv
  have hx := B.exec
  have hb := B.bytes
  have hr := B.returns
  have hlocks := B.notSynchronized
  have hbl : b < s.heap.size := by
    obtain ⟨scr, h1, _⟩ := hX
    exact (Array.getElem?_eq_some_iff.mp h1).1
  have hS : va_S (fun _ => False) s.heap s.heap [] := va_S.rf
  have hl := lv_entry ([.ref b, .int 0]) (n := 2) (Nat.le_of_ble_eq_true rfl)
  rw [lg_entry_eq]
  generalize (lg_sl ([.ref b, .int 0]) ++ List.replicate (2 - (lg_sl ([.ref b, .int 0])).length) Slot.unset).toArray = ls at hl ⊢
  have hl : lv_has ls 2 [(0, .ref b), (1, .int 0)] := hl
  refine lv_iload_n hx hb d_L_cell_0 rfl (lv_at hl 1 rfl) ?_
  refine lv_aload_n hx hb d_L_cell_1 rfl (lv_at hl 0 rfl) ?_
  refine va_slen hx hb hX hbl (fun h => h) hS d_L_cell_2 ?_
  refine lv_icmp_ge (tgt := 12) hx hb d_L_cell_3 (by decide) (fun h3 => ?_) (fun h3 => ?_)
  · refine lv_iconst (v := 0) hx hb d_L_cell_12 rfl ?_
    have h0 : ¬ 0 < L := fun g => nI_nle g hL h3
    exact W.iret (v := 0) hx hb hr (fun t ht hW => ⟨⟨0, (), rfl, by rw [if_neg h0], trivial⟩, hS.F ht⟩) hS.2.2 d_L_cell_13
  · have h0 : 0 < L := Nat.pos_of_ne_zero (fun g => h3 (by rw [g]; decide))
    refine lv_aload_n hx hb d_L_cell_6 rfl (lv_at hl 0 rfl) ?_
    refine lv_iload_n hx hb d_L_cell_7 rfl (lv_at hl 1 rfl) ?_
    refine va_sld hx hb hX hbl (fun h => h) hS (vp_in_nI (n := 0) h0 hL) d_L_cell_8 ?_
    refine lv_goto (tgt := 13) hx hb d_L_cell_9 (by decide) ?_
    exact W.iret (v := sc (0 : Int32).toNatClampNeg) hx hb hr (fun t ht hW => ⟨⟨_, (), rfl, by rw [if_pos h0]; rfl, trivial⟩, hS.F ht⟩) hS.2.2 d_L_cell_13
