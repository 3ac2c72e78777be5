/-! THE CLAIM OUT OF ONE WALK OF THE LAW'S BODY. Your part is whole_start (and what it stands on); all else here is the same for every law, but numbers. -/
def R_law : String := "RetoldRunLaw"
def lw_P (b : Addr) (xs : List Int32) (args : Array Value) (s : State) : Prop := args = #[.ref b] ∧ s.IntsAt b xs ∧ xs.length ≤ 2049 ∧ (Jvm.Cond.and given_1 narrow_1).before args s = true
def lw_Q (_ : Array Value) (s : State) (o : Outcome) (t : State) : Prop := o = .returned (some (.int 1)) ∧ Framed s o t [] 27 1997
def lw_Z (below : List Frame) (a : Array Value) (s : State) : State → Prop := fun t => ∃ o, t.status = .running ∧ Ended t below o ∧ lw_Q a s o t
/-- the law's own end, with 1 on the stack, nothing written that was there before, its room as the claim has it -/
theorem lw_ret {p : Program} {l : Launch} {e : Env} {s : State} {m : MethodId} {below : List Frame} {meth : Method} {c : Code} {b : Nat} (hx : p.tables.exec = Jvm.exec) (hb : c.code = code) (hr : meth.sig.returnType = ret) (hlocks : meth.locks = false) {pc : Nat} {H : Heap} {ls : Array Slot} (hdg : decode code pc = .ok (.ireturn, 1)) : W p l e room_1 s m #[Value.ref b] below meth c H [] 27 1997 (lw_Z below #[Value.ref b] s) (F0 m pc ls [.int 1]) := by
  intro T hT X
  obtain ⟨fs, hret, hrun, hended, hW, hframe⟩ := X.leave (v := some (.int 1)) (hlocks := hlocks) (fun h => by rw [hr] at h; cases h)
  have hmeth' : T.vm.method? m = some meth := X.method'
  refine ⟨T.setFrames fs, ?_, .returned (some (.int 1)), hrun, hended, rfl, ⟨_, rfl⟩, hW, hframe⟩
  jvm_step X.here [X.here.top, hx, hb, hdg, hmeth', hr, ret, narrow_b1]
  (try refine ⟨rfl, ?_⟩); (try refine ⟨rfl, ?_⟩)
  first | (intro acts; rw [hret _ acts rfl rfl rfl]) | rw [hret _ _ rfl rfl rfl]
  exact Steps.refl _
/-- what holds at the law's entry: the machine, the code, the tables' words (any of lw_tbl by 'hts w (by decide +kernel)'), the script of L ints xs at the cell b, what the Statement gives of the start (any of its parts by flat_of_before) -/
def lw_At (p : Program) (s : State) (m : MethodId) (meth : Method) (c : Code) (b L : Nat) (xs : Nat → Int32) : Prop :=
  p.tables.exec = Jvm.exec ∧ c.code = code ∧ meth.sig.returnType = ret ∧ c.maxLocals = 4 ∧ s.vm.findClass R_law = some m.cls ∧ (∀ w ∈ lw_tbl, w.before #[Value.ref b] s = true) ∧ va_X b L xs s s.heap ∧ b < s.heap.size ∧ meth.locks = false ∧ (Jvm.Cond.and given_1 narrow_1).before #[Value.ref b] s = true
theorem in0_P : ∀ w ∈ u_ws R_P F_P 4, w ∈ zk_T := by
  show ∀ w ∈ [u_lay R_P F_P 0, u_lay R_P F_P 1, u_lay R_P F_P 2, u_lay R_P F_P 3], w ∈ zk_T
  exact List.forall_mem_cons.mpr ⟨tw_33, List.forall_mem_cons.mpr ⟨tw_34, List.forall_mem_cons.mpr ⟨tw_35, List.forall_mem_cons.mpr ⟨tw_36, fun _ h => absurd h List.not_mem_nil⟩⟩⟩⟩
theorem in0_J : ∀ w ∈ u_ws R_J F_J 5, w ∈ zk_T := by
  show ∀ w ∈ [u_lay R_J F_J 0, u_lay R_J F_J 1, u_lay R_J F_J 2, u_lay R_J F_J 3, u_lay R_J F_J 4], w ∈ zk_T
  exact List.forall_mem_cons.mpr ⟨tw_53, List.forall_mem_cons.mpr ⟨tw_54, List.forall_mem_cons.mpr ⟨tw_55, List.forall_mem_cons.mpr ⟨tw_56, List.forall_mem_cons.mpr ⟨tw_57, fun _ h => absurd h List.not_mem_nil⟩⟩⟩⟩⟩
theorem in0_R : ∀ w ∈ u_ws R_R F_R 6, w ∈ zk_T := by
  show ∀ w ∈ [u_lay R_R F_R 0, u_lay R_R F_R 1, u_lay R_R F_R 2, u_lay R_R F_R 3, u_lay R_R F_R 4, u_lay R_R F_R 5], w ∈ zk_T
  exact List.forall_mem_cons.mpr ⟨tw_74, List.forall_mem_cons.mpr ⟨tw_75, List.forall_mem_cons.mpr ⟨tw_76, List.forall_mem_cons.mpr ⟨tw_77, List.forall_mem_cons.mpr ⟨tw_78, List.forall_mem_cons.mpr ⟨tw_79, fun _ h => absurd h List.not_mem_nil⟩⟩⟩⟩⟩⟩
theorem in0_T : ∀ w ∈ u_ws R_T F_T 2, w ∈ zk_T := by
  show ∀ w ∈ [u_lay R_T F_T 0, u_lay R_T F_T 1], w ∈ zk_T
  exact List.forall_mem_cons.mpr ⟨tw_112, List.forall_mem_cons.mpr ⟨tw_113, fun _ h => absurd h List.not_mem_nil⟩⟩
theorem in0_D : ∀ w ∈ u_ws R_D F_D 7, w ∈ zk_T := by
  show ∀ w ∈ [u_lay R_D F_D 0, u_lay R_D F_D 1, u_lay R_D F_D 2, u_lay R_D F_D 3, u_lay R_D F_D 4, u_lay R_D F_D 5, u_lay R_D F_D 6], w ∈ zk_T
  exact List.forall_mem_cons.mpr ⟨tw_100, List.forall_mem_cons.mpr ⟨tw_101, List.forall_mem_cons.mpr ⟨tw_102, List.forall_mem_cons.mpr ⟨tw_103, List.forall_mem_cons.mpr ⟨tw_104, List.forall_mem_cons.mpr ⟨tw_105, List.forall_mem_cons.mpr ⟨tw_106, fun _ h => absurd h List.not_mem_nil⟩⟩⟩⟩⟩⟩⟩
theorem in0_M : ∀ w ∈ u_ws R_M F_M 10, w ∈ zk_T := by
  show ∀ w ∈ [u_lay R_M F_M 0, u_lay R_M F_M 1, u_lay R_M F_M 2, u_lay R_M F_M 3, u_lay R_M F_M 4, u_lay R_M F_M 5, u_lay R_M F_M 6, u_lay R_M F_M 7, u_lay R_M F_M 8, u_lay R_M F_M 9], w ∈ zk_T
  exact List.forall_mem_cons.mpr ⟨tw_131, List.forall_mem_cons.mpr ⟨tw_132, List.forall_mem_cons.mpr ⟨tw_133, List.forall_mem_cons.mpr ⟨tw_134, List.forall_mem_cons.mpr ⟨tw_135, List.forall_mem_cons.mpr ⟨tw_136, List.forall_mem_cons.mpr ⟨tw_137, List.forall_mem_cons.mpr ⟨tw_138, List.forall_mem_cons.mpr ⟨tw_139, List.forall_mem_cons.mpr ⟨tw_140, fun _ h => absurd h List.not_mem_nil⟩⟩⟩⟩⟩⟩⟩⟩⟩⟩
theorem in0_X : ∀ w ∈ u_ws R_X F_X 8, w ∈ zk_T := by
  show ∀ w ∈ [u_lay R_X F_X 0, u_lay R_X F_X 1, u_lay R_X F_X 2, u_lay R_X F_X 3, u_lay R_X F_X 4, u_lay R_X F_X 5, u_lay R_X F_X 6, u_lay R_X F_X 7], w ∈ zk_T
  exact List.forall_mem_cons.mpr ⟨tw_149, List.forall_mem_cons.mpr ⟨tw_150, List.forall_mem_cons.mpr ⟨tw_151, List.forall_mem_cons.mpr ⟨tw_152, List.forall_mem_cons.mpr ⟨tw_153, List.forall_mem_cons.mpr ⟨tw_154, List.forall_mem_cons.mpr ⟨tw_155, List.forall_mem_cons.mpr ⟨tw_156, fun _ h => absurd h List.not_mem_nil⟩⟩⟩⟩⟩⟩⟩⟩
theorem in0_Y : ∀ w ∈ u_ws R_Y F_Y 21, w ∈ zk_T := by
  show ∀ w ∈ [u_lay R_Y F_Y 0, u_lay R_Y F_Y 1, u_lay R_Y F_Y 2, u_lay R_Y F_Y 3, u_lay R_Y F_Y 4, u_lay R_Y F_Y 5, u_lay R_Y F_Y 6, u_lay R_Y F_Y 7, u_lay R_Y F_Y 8, u_lay R_Y F_Y 9, u_lay R_Y F_Y 10, u_lay R_Y F_Y 11, u_lay R_Y F_Y 12, u_lay R_Y F_Y 13, u_lay R_Y F_Y 14, u_lay R_Y F_Y 15, u_lay R_Y F_Y 16, u_lay R_Y F_Y 17, u_lay R_Y F_Y 18, u_lay R_Y F_Y 19, u_lay R_Y F_Y 20], w ∈ zk_T
  exact List.forall_mem_cons.mpr ⟨tw_383, List.forall_mem_cons.mpr ⟨tw_384, List.forall_mem_cons.mpr ⟨tw_385, List.forall_mem_cons.mpr ⟨tw_386, List.forall_mem_cons.mpr ⟨tw_387, List.forall_mem_cons.mpr ⟨tw_388, List.forall_mem_cons.mpr ⟨tw_389, List.forall_mem_cons.mpr ⟨tw_390, List.forall_mem_cons.mpr ⟨tw_391, List.forall_mem_cons.mpr ⟨tw_392, List.forall_mem_cons.mpr ⟨tw_393, List.forall_mem_cons.mpr ⟨tw_394, List.forall_mem_cons.mpr ⟨tw_395, List.forall_mem_cons.mpr ⟨tw_396, List.forall_mem_cons.mpr ⟨tw_397, List.forall_mem_cons.mpr ⟨tw_398, List.forall_mem_cons.mpr ⟨tw_399, List.forall_mem_cons.mpr ⟨tw_400, List.forall_mem_cons.mpr ⟨tw_401, List.forall_mem_cons.mpr ⟨tw_402, List.forall_mem_cons.mpr ⟨tw_403, fun _ h => absurd h List.not_mem_nil⟩⟩⟩⟩⟩⟩⟩⟩⟩⟩⟩⟩⟩⟩⟩⟩⟩⟩⟩⟩⟩
theorem zk_callc {p : Program} {l : Launch} {e : Env} {R : Room} {s : State} {m : MethodId} {args : Array Value} {below : List Frame} {meth : Method} {c : Code} {Q : State → Prop} {A : Nat → Prop} {D : va_G} {cl : List vw_C} {tys : List (ClassId × FieldType)} {nL cells slots pc index : Nat} {cc : ByteArray} {Ts : List Cond} {own : String} {ws : va_W} {lv : List (Nat × Value)} {rest : List Value} (X : zk_X p s m args c cc nL own Ts D cl tys A) {b L : Nat} {sc : Nat → Int32} {seed : Int32} (hs : seed = if 0 < L then sc 0 else 0) (hX : va_X b L sc s s.heap) (hbl : b < s.heap.size) (hbA : ¬ A b) (hL : L < 2 ^ 31)
    (cw : CallB R s args own index y_L_cell b_L_cell 2 (some .int) w_L_cell rm_L_cell 0 0 2 ∧ (Cond.static y_L_cell).before args s = true) (hr : (rest.map fun v => v.category).sum ≤ 8) (hf : cells ≤ R.cells ∧ slots ≤ R.slots) (hdg : decode cc pc = .ok (.invokestatic index, 3))
    (k : zk_Z p l e R s m args below meth c Q A D cl nL cells slots ws lv (.int seed :: rest) (pc + 3)) : zk_Z p l e R s m args below meth c Q A D cl nL cells slots ws lv (.int 0 :: .ref b :: rest) pc := by
  intro H locs ls hP hD hS hl
  refine va_calli (va_runS (As := [.ref b, .int 0]) (rest := rest) X.1 (c_L_cell l b L sc hL) cw ⟨fun a U g mk q => ⟨q.1, va_X.moved (u := U) (U := U.calling g mk a) (Vm.Alike.refl U.vm) q.2⟩, fun U hU hW => ⟨rfl, by show va_X b L sc U U.heap; rw [hU]; exact va_X.moved hW.alike (hX.kept (hS.2.1 b hbl hbA))⟩⟩ rfl rfl hl.1 rfl (lv_room hr) hdg hf) hS (fun _ _ h => h.elim) (fun _ h => h.elim) (fun r u t H1 locs1 ht hvm hp hB hz1 hk1 hS1 => ?_)
  have hP1 : va_P D cl ws H1 := fun i q hq => (hP i q hq).kept (hk1 q.1 (hP i q hq).lt (fun h => h))
  have hp : r = seed := hp.trans hs.symm
  subst hp
  exact k H1 locs1 ls hP1 hD hS1 hl
theorem zk_lawret {p : Program} {l : Launch} {e : Env} {s : State} {m : MethodId} {below : List Frame} {meth : Method} {c : Code} {D : va_G} {cl : List vw_C} {tys : List (ClassId × FieldType)} {nL b : Nat} {Ts : List Cond} {own : String} {ws : va_W} {lv : List (Nat × Value)} (X : zk_X p s m #[Value.ref b] c code nL own Ts D cl tys (fun q => s.heap.size ≤ q)) (hRet : meth.sig.returnType = ret) (hLk : meth.locks = false) : zk_Z p l e room_1 s m #[Value.ref b] below meth c (lw_Z below #[Value.ref b] s) (fun q => s.heap.size ≤ q) D cl nL 27 1997 ws lv [.int 1] 498 :=
  fun H locs ls hP hD hS hl => va_forget (fun q hq => hS.2.2 q hq) (lw_ret X.1.1 X.1.2.1 hRet hLk d_L_law_498)
theorem zk_lawlt {L j : Nat} (h : ¬ (nI L - 4 < nI j)) (hL : L ≤ 2049) (hj : j ≤ 3000) : j + 4 ≤ L := by
  rcases Nat.lt_or_ge L (j + 4) with g | g
  · exfalso
    apply h
    rw [Int32.lt_iff_toInt_lt]
    have e : (nI L - 4).toInt = (L : Int) - (4 : Nat) := pk_sub_toInt (a := L) (b := 4) (by omega) (by decide)
    rw [e, nI_toInt (by omega)]
    omega
  · exact g
set_option maxHeartbeats 4000000 in
set_option maxRecDepth 100000 in
theorem law_loop {p : Program} (l : Launch) {e : Env} {s : State} {m : MethodId} {below : List Frame} {meth : Method} {c : Code} (dC : Nat → ClassId) (dI : Nat → Nat → Nat) (hx hp po pf ps hm mr mc hk kr kc hr ri ht hd hj jb hy yo yf yb ym yi yL yT yK yV : Nat) (cPo cPf cPs cJ cR cmr cmc ckr ckc cYo cYf cYb cYm cYi cYL cYT cYK cYV : ClassId) {b L : Nat} {sc : Nat → Int32} (X : zk_X p s m #[Value.ref b] c code 4 R_L zk_T (dC, dI) vwCl [(cPo, .int), (cPf, .int), (cPs, .int), (cJ, .int), (cR, .int), (cmr, .int), (cmc, .int), (ckr, .int), (ckc, .int), (cYo, .int), (cYf, .int), (cYb, .int), (cYm, .int), (cYi, .int), (cYL, .int), (cYT, .long), (cYK, .int), (cYV, .int)] (fun q => s.heap.size ≤ q)) (hX : va_X b L sc s s.heap) (hbl : b < s.heap.size) (hL : L ≤ 2049) (hRet : meth.sig.returnType = ret) (hLk : meth.locks = false) (xs : Int32) : ∀ (fuel j N : Nat) {gm : Nat → Int32} {xb : Int32} {fo : Nat → Int32} {ff : Nat → Int32} {fs : Nat → Int32} {pn : Nat} {fr : Nat → Int32} {fc : Nat → Int32} {mp : Int32} {mb : Int32} {mi : Int32} {me : Int32} {ml : Int32} {mo : Int32} {mt : Int32} {mS : Nat} {kfr : Nat → Int32} {kfc : Nat → Int32} {kp : Int32} {kb : Int32} {ki : Int32} {ke : Int32} {kl : Int32} {ko : Int32} {kt : Int32} {kS : Nat} {fi : Nat → Int32} {rw : Nat} {rt : Int32} {rq : Int32} {rc : Int32} {tt : Int32} {dp : Nat} {de : Int32} {dB : Int32} {ds : Int64} {dk : Int32} {dv : Int32} {fb : Nat → Int32} {jn : Nat} {jm : Int32} {jS : Int32} {jl : Int32} {gt : Nat → Int64} {gk : Nat → Int32} {gv : Nat → Int32} {yr : Nat} {ya : Nat}, L - j < fuel → j = 4 * N + 1 → j ≤ L + 4 → zr_R N gm xb fo fs pn fr fc mp mb mi me ml mo mt mS kfr kfc kp kb ki ke kl ko kt kS rw rt rq rc jn jl → yr ≤ 320 → zk_Z p l e room_1 s m #[Value.ref b] below meth c (lw_Z below #[Value.ref b] s) (fun q => s.heap.size ≤ q) (dC, dI) vwCl 4 27 1997 [(hx, .inr (6, [.int xs, .ref hp, .ref hj, .ref hr, .ref ht, .ref hm, .ref hk, .int xb])), (hp, .inr (0, [.ref po, .ref pf, .ref ps, .int (nI pn)])), (po, .inl (cPo, 24, .inl fo)), (pf, .inl (cPf, 24, .inl ff)), (ps, .inl (cPs, 24, .inl fs)), (hm, .inr (5, [.ref mr, .ref mc, .int mp, .int mb, .int mi, .int me, .int ml, .int mo, .int mt, .int (nI mS)])), (mr, .inl (cmr, 4, .inl fr)), (mc, .inl (cmc, 32, .inl fc)), (hk, .inr (5, [.ref kr, .ref kc, .int kp, .int kb, .int ki, .int ke, .int kl, .int ko, .int kt, .int (nI kS)])), (kr, .inl (ckr, 4, .inl kfr)), (kc, .inl (ckc, 32, .inl kfc)), (hr, .inr (2, [.ref hj, .ref ri, .int (nI rw), .int rt, .int rq, .int rc])), (ri, .inl (cR, 16, .inl fi)), (ht, .inr (3, [.ref hd, .int tt])), (hd, .inr (4, [.ref hj, .int (nI dp), .int de, .int dB, .long ds, .int dk, .int dv])), (hj, .inr (1, [.ref jb, .int (nI jn), .int jm, .int jS, .int jl])), (jb, .inl (cJ, 300, .inl fb)), (hy, .inr (7, [.int xs, .int (nI pn), .ref yo, .ref yf, .ref yb, .int xb, .ref ym, .int rc, .int (nI rw), .ref yi, .int rq, .int (nI jn), .ref yL, .int jm, .int jl, .int jS, .int (nI yr), .int (nI ya), .ref yT, .ref yK, .ref yV])), (yo, .inl (cYo, 24, .inl fo)), (yf, .inl (cYf, 24, .inl ff)), (yb, .inl (cYb, 24, .inl fs)), (ym, .inl (cYm, 96, .inl gm)), (yi, .inl (cYi, 16, .inl fi)), (yL, .inl (cYL, 320, .inl fb)), (yT, .inl (cYT, 320, .inr (.inl gt))), (yK, .inl (cYK, 320, .inl gk)), (yV, .inl (cYV, 320, .inl gv))] [(0, .ref b), (1, .ref hx), (2, .ref hy), (3, .int (nI j))] [] 28 := by
  have hbA : ¬ (fun q => s.heap.size ≤ q) b := fun h => absurd hbl (Nat.not_lt.mpr h)
  intro fuel
  induction fuel with
  | zero => intros; exact absurd ‹_ < 0› (Nat.not_lt_zero _)
  | succ fuel ih =>
    intro j N gm xb fo ff fs pn fr fc mp mb mi me ml mo mt mS kfr kfc kp kb ki ke kl ko kt kS fi rw rt rq rc tt dp de dB ds dk dv fb jn jm jS jl gt gk gv yr ya hf hjN hj4 hR hyr
    refine zk_iload_n (pc := 28) X d_L_law_28 rfl (q := 3) rfl ?_
    refine zk_aload_n (pc := 29) X d_L_law_29 rfl (q := 0) rfl ?_
    refine zk_slen (pc := 30) X hX hbl hbA d_L_law_30 ?_
    refine zk_iconst (pc := 31) X (v := 4) d_L_law_31 rfl ?_
    refine zk_isub (pc := 32) X (v := nI L - 4) d_L_law_32 rfl ?_
    refine zk_icmp_gt (pc := 33) X (tgt := 497) d_L_law_33 (by decide) (fun _ => ?_) (fun h33 => ?_)
    · refine zk_iconst (pc := 497) X (v := 1) d_L_law_497 rfl ?_
      exact zk_lawret X hRet hLk
    · have hjL : j + 4 ≤ L := zk_lawlt h33 hL (by omega)
      have K : ∀ {gm : Nat → Int32} {xb : Int32} {fo : Nat → Int32} {ff : Nat → Int32} {fs : Nat → Int32} {pn : Nat} {fr : Nat → Int32} {fc : Nat → Int32} {mp : Int32} {mb : Int32} {mi : Int32} {me : Int32} {ml : Int32} {mo : Int32} {mt : Int32} {mS : Nat} {kfr : Nat → Int32} {kfc : Nat → Int32} {kp : Int32} {kb : Int32} {ki : Int32} {ke : Int32} {kl : Int32} {ko : Int32} {kt : Int32} {kS : Nat} {fi : Nat → Int32} {rw : Nat} {rt : Int32} {rq : Int32} {rc : Int32} {tt : Int32} {dp : Nat} {de : Int32} {dB : Int32} {ds : Int64} {dk : Int32} {dv : Int32} {fb : Nat → Int32} {jn : Nat} {jm : Int32} {jS : Int32} {jl : Int32} {gt : Nat → Int64} {gk : Nat → Int32} {gv : Nat → Int32} {yr : Nat} {ya : Nat}, zr_R (N + 1) gm xb fo fs pn fr fc mp mb mi me ml mo mt mS kfr kfc kp kb ki ke kl ko kt kS rw rt rq rc jn jl → yr ≤ 320 → zk_Z p l e room_1 s m #[Value.ref b] below meth c (lw_Z below #[Value.ref b] s) (fun q => s.heap.size ≤ q) (dC, dI) vwCl 4 27 1997 [(hx, .inr (6, [.int xs, .ref hp, .ref hj, .ref hr, .ref ht, .ref hm, .ref hk, .int xb])), (hp, .inr (0, [.ref po, .ref pf, .ref ps, .int (nI pn)])), (po, .inl (cPo, 24, .inl fo)), (pf, .inl (cPf, 24, .inl ff)), (ps, .inl (cPs, 24, .inl fs)), (hm, .inr (5, [.ref mr, .ref mc, .int mp, .int mb, .int mi, .int me, .int ml, .int mo, .int mt, .int (nI mS)])), (mr, .inl (cmr, 4, .inl fr)), (mc, .inl (cmc, 32, .inl fc)), (hk, .inr (5, [.ref kr, .ref kc, .int kp, .int kb, .int ki, .int ke, .int kl, .int ko, .int kt, .int (nI kS)])), (kr, .inl (ckr, 4, .inl kfr)), (kc, .inl (ckc, 32, .inl kfc)), (hr, .inr (2, [.ref hj, .ref ri, .int (nI rw), .int rt, .int rq, .int rc])), (ri, .inl (cR, 16, .inl fi)), (ht, .inr (3, [.ref hd, .int tt])), (hd, .inr (4, [.ref hj, .int (nI dp), .int de, .int dB, .long ds, .int dk, .int dv])), (hj, .inr (1, [.ref jb, .int (nI jn), .int jm, .int jS, .int jl])), (jb, .inl (cJ, 300, .inl fb)), (hy, .inr (7, [.int xs, .int (nI pn), .ref yo, .ref yf, .ref yb, .int xb, .ref ym, .int rc, .int (nI rw), .ref yi, .int rq, .int (nI jn), .ref yL, .int jm, .int jl, .int jS, .int (nI yr), .int (nI ya), .ref yT, .ref yK, .ref yV])), (yo, .inl (cYo, 24, .inl fo)), (yf, .inl (cYf, 24, .inl ff)), (yb, .inl (cYb, 24, .inl fs)), (ym, .inl (cYm, 96, .inl gm)), (yi, .inl (cYi, 16, .inl fi)), (yL, .inl (cYL, 320, .inl fb)), (yT, .inl (cYT, 320, .inr (.inl gt))), (yK, .inl (cYK, 320, .inl gk)), (yV, .inl (cYV, 320, .inl gv))] [(0, .ref b), (1, .ref hx), (2, .ref hy), (3, .int (nI j))] [] 491 := by
        intro gm xb fo ff fs pn fr fc mp mb mi me ml mo mt mS kfr kfc kp kb ki ke kl ko kt kS fi rw rt rq rc tt dp de dB ds dk dv fb jn jm jS jl gt gk gv yr ya hR' hyr'
        refine zk_iinc (pc := 491) X (k0 := 3) (v := nI (j + 4)) (lv' := [(3, .int (nI (j + 4))), (0, .ref b), (1, .ref hx), (2, .ref hy)]) d_L_law_491 rfl (nI_add j 4) (by decide) rfl ?_
        refine zk_goto (pc := 494) X (tgt := 28) d_L_law_494 (by decide) ?_
        refine zk_lv (lv' := [(0, .ref b), (1, .ref hx), (2, .ref hy), (3, .int (nI (j + 4)))]) [1, 2, 3, 0] rfl ?_
        exact ih (j + 4) (N + 1) (by omega) (by omega) (by omega) hR' hyr'
      refine zk_aload_n (pc := 36) X d_L_law_36 rfl (q := 0) rfl ?_
      refine zk_iload_n (pc := 37) X d_L_law_37 rfl (q := 3) rfl ?_
      refine zk_sld (pc := 38) X hX hbl hbA j rfl (by omega) (by omega) d_L_law_38 ?_
      refine zk_bipush (pc := 39) X (v := 15) d_L_law_39 (by decide) ?_
      obtain ⟨v, hv, hve⟩ := pk_andE (sc j) (m := 15) 4 (by decide)
      refine zk_iand (pc := 41) X (v := nI v) d_L_law_41 hve ?_
      have hv16 : v = 0 ∨ v = 1 ∨ v = 2 ∨ v = 3 ∨ v = 4 ∨ v = 5 ∨ v = 6 ∨ v = 7 ∨ v = 8 ∨ v = 9 ∨ v = 10 ∨ v = 11 ∨ v = 12 ∨ v = 13 ∨ v = 14 ∨ v = 15 := by omega
      rcases hv16 with rfl | rfl | rfl | rfl | rfl | rfl | rfl | rfl | rfl | rfl | rfl | rfl | rfl | rfl | rfl | rfl
      · refine zk_tableIn (pc := 42) X (tgt := 116) 0 rfl d_L_law_42 (by decide) (by decide) rfl (by decide) ?_
        exact law_add l dC dI hx hp po pf ps hm mr mc hk kr kc hr ri ht hd hj jb hy yo yf yb ym yi yL yT yK yV cPo cPf cPs cJ cR cmr cmc ckr ckc cYo cYf cYb cYm cYi cYL cYT cYK cYV X hX hbl hbA hL xs j N hjL (by omega) K hR hyr
      · refine zk_tableIn (pc := 42) X (tgt := 159) 1 rfl d_L_law_42 (by decide) (by decide) rfl (by decide) ?_
        exact law_clear l dC dI hx hp po pf ps hm mr mc hk kr kc hr ri ht hd hj jb hy yo yf yb ym yi yL yT yK yV cPo cPf cPs cJ cR cmr cmc ckr ckc cYo cYf cYb cYm cYi cYL cYT cYK cYV X hX hbl hbA hL xs j N hjL (by omega) K hR hyr
      · refine zk_tableIn (pc := 42) X (tgt := 172) 2 rfl d_L_law_42 (by decide) (by decide) rfl (by decide) ?_
        exact law_input l dC dI hx hp po pf ps hm mr mc hk kr kc hr ri ht hd hj jb hy yo yf yb ym yi yL yT yK yV cPo cPf cPs cJ cR cmr cmc ckr ckc cYo cYf cYb cYm cYi cYL cYT cYK cYV X hX hbl hbA hL xs j N hjL (by omega) K hR hyr
      · refine zk_tableIn (pc := 42) X (tgt := 195) 3 rfl d_L_law_42 (by decide) (by decide) rfl (by decide) ?_
        exact law_request l dC dI hx hp po pf ps hm mr mc hk kr kc hr ri ht hd hj jb hy yo yf yb ym yi yL yT yK yV cPo cPf cPs cJ cR cmr cmc ckr ckc cYo cYf cYb cYm cYi cYL cYT cYK cYV X hX hbl hbA hL xs j N hjL (by omega) K hR hyr
      · refine zk_tableIn (pc := 42) X (tgt := 208) 4 rfl d_L_law_42 (by decide) (by decide) rfl (by decide) ?_
        exact law_pass l dC dI hx hp po pf ps hm mr mc hk kr kc hr ri ht hd hj jb hy yo yf yb ym yi yL yT yK yV cPo cPf cPs cJ cR cmr cmc ckr ckc cYo cYf cYb cYm cYi cYL cYT cYK cYV X hX hbl hbA hL xs j N hjL (by omega) K hR hyr
      · refine zk_tableIn (pc := 42) X (tgt := 231) 5 rfl d_L_law_42 (by decide) (by decide) rfl (by decide) ?_
        exact law_run l dC dI hx hp po pf ps hm mr mc hk kr kc hr ri ht hd hj jb hy yo yf yb ym yi yL yT yK yV cPo cPf cPs cJ cR cmr cmc ckr ckc cYo cYf cYb cYm cYi cYL cYT cYK cYV X hX hbl hbA hL xs j N hjL (by omega) K hR hyr
      · refine zk_tableIn (pc := 42) X (tgt := 254) 6 rfl d_L_law_42 (by decide) (by decide) rfl (by decide) ?_
        exact law_log l dC dI hx hp po pf ps hm mr mc hk kr kc hr ri ht hd hj jb hy yo yf yb ym yi yL yT yK yV cPo cPf cPs cJ cR cmr cmc ckr ckc cYo cYf cYb cYm cYi cYL cYT cYK cYV X hX hbl hbA hL xs j N hjL (by omega) K hR hyr
      · refine zk_tableIn (pc := 42) X (tgt := 267) 7 rfl d_L_law_42 (by decide) (by decide) rfl (by decide) ?_
        exact law_at l dC dI hx hp po pf ps hm mr mc hk kr kc hr ri ht hd hj jb hy yo yf yb ym yi yL yT yK yV cPo cPf cPs cJ cR cmr cmc ckr ckc cYo cYf cYb cYm cYi cYL cYT cYK cYV X hX hbl hbA hL xs j N hjL (by omega) K hR hyr
      · refine zk_tableIn (pc := 42) X (tgt := 290) 8 rfl d_L_law_42 (by decide) (by decide) rfl (by decide) ?_
        exact law_entries l dC dI hx hp po pf ps hm mr mc hk kr kc hr ri ht hd hj jb hy yo yf yb ym yi yL yT yK yV cPo cPf cPs cJ cR cmr cmc ckr ckc cYo cYf cYb cYm cYi cYL cYT cYK cYV X hX hbl hbA hL xs j N hjL (by omega) K hR hyr
      · refine zk_tableIn (pc := 42) X (tgt := 303) 9 rfl d_L_law_42 (by decide) (by decide) rfl (by decide) ?_
        exact law_seal l dC dI hx hp po pf ps hm mr mc hk kr kc hr ri ht hd hj jb hy yo yf yb ym yi yL yT yK yV cPo cPf cPs cJ cR cmr cmc ckr ckc cYo cYf cYb cYm cYi cYL cYT cYK cYV X hX hbl hbA hL xs j N hjL (by omega) K hR hyr
      · refine zk_tableIn (pc := 42) X (tgt := 316) 10 rfl d_L_law_42 (by decide) (by decide) rfl (by decide) ?_
        exact law_change l dC dI hx hp po pf ps hm mr mc hk kr kc hr ri ht hd hj jb hy yo yf yb ym yi yL yT yK yV cPo cPf cPs cJ cR cmr cmc ckr ckc cYo cYf cYb cYm cYi cYL cYT cYK cYV X hX hbl hbA hL xs j N hjL (by omega) K hR hyr
      · refine zk_tableIn (pc := 42) X (tgt := 349) 11 rfl d_L_law_42 (by decide) (by decide) rfl (by decide) ?_
        exact law_tell l dC dI hx hp po pf ps hm mr mc hk kr kc hr ri ht hd hj jb hy yo yf yb ym yi yL yT yK yV cPo cPf cPs cJ cR cmr cmc ckr ckc cYo cYf cYb cYm cYi cYL cYT cYK cYV X hX hbl hbA hL xs j N hjL (by omega) K hR hyr
      · refine zk_tableIn (pc := 42) X (tgt := 382) 12 rfl d_L_law_42 (by decide) (by decide) rfl (by decide) ?_
        exact law_state l dC dI hx hp po pf ps hm mr mc hk kr kc hr ri ht hd hj jb hy yo yf yb ym yi yL yT yK yV cPo cPf cPs cJ cR cmr cmc ckr ckc cYo cYf cYb cYm cYi cYL cYT cYK cYV X hX hbl hbA hL xs j N hjL (by omega) K hR hyr
      · refine zk_tableIn (pc := 42) X (tgt := 415) 13 rfl d_L_law_42 (by decide) (by decide) rfl (by decide) ?_
        exact law_cell l dC dI hx hp po pf ps hm mr mc hk kr kc hr ri ht hd hj jb hy yo yf yb ym yi yL yT yK yV cPo cPf cPs cJ cR cmr cmc ckr ckc cYo cYf cYb cYm cYi cYL cYT cYK cYV X hX hbl hbA hL xs j N hjL (by omega) K hR hyr
      · refine zk_tableIn (pc := 42) X (tgt := 448) 14 rfl d_L_law_42 (by decide) (by decide) rfl (by decide) ?_
        exact law_sealed l dC dI hx hp po pf ps hm mr mc hk kr kc hr ri ht hd hj jb hy yo yf yb ym yi yL yT yK yV cPo cPf cPs cJ cR cmr cmc ckr ckc cYo cYf cYb cYm cYi cYL cYT cYK cYV X hX hbl hbA hL xs j N hjL (by omega) K hR hyr
      · refine zk_tableOut (pc := 42) X (tgt := 491) d_L_law_42 (by decide) (by decide) ?_
        exact K hR.up hyr
