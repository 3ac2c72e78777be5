/-! making things: new, newarray, final fields, constructors (contracts that name what they make) -/
section ZKN
variable {p : Program} {l : Launch} {e : Env} {R : Room} {s : State} {m : MethodId} {args : Array Value} {below : List Frame} {meth : Method} {c : Code} {Q : State → Prop} {A : Nat → Prop} {D : va_G} {cl : List vw_C} {tys tysC : List (ClassId × FieldType)} {nL cells slots pc : Nat} {cc : ByteArray} {Ts : List Cond} {own : String} {ws wc wr : va_W} {lv : List (Nat × Value)} {st : List Value}
theorem zk_new (X : zk_X p s m args c cc nL own Ts D cl tys A) {C : String} {T : u_T} {N ci index : Nat} {fs : List Value} (hin : ∀ w ∈ u_ws C T N, w ∈ Ts) {ty : Nat → FieldType} (hty : ∀ k, k < N → parseFieldDescriptor (T k).2.2.1 = some (ty k)) (hcl : Cond.classLink own index C ∈ Ts) (hinst : Cond.instantiable C N ∈ Ts) (hini : Cond.initialized C ∈ Ts) (hc : cl[ci]? = some (C, T, N)) (hfs : ∀ j, j < N → defaultValue (ty j) = vp_V fs j) (hcells : cells + 1 ≤ R.cells) (hslots : slots + N ≤ R.slots) (hdg : decode cc pc = .ok (.new index, 3))
    (k : ∀ q : Nat, zk_Z p l e R s m args below meth c Q A D cl nL (cells + 1) (slots + N) (ws ++ [(q, .inr (ci, fs))]) lv (.ref q :: st) (pc + 3)) : zk_Z p l e R s m args below meth c Q A D cl nL cells slots ws lv st pc :=
  fun H locs ls hP hD hS hl => va_new X.1.1 X.1.2.1 X.1.2.2.2.2 hin ty hty X.1.2.2.2.1 (X.1.2.2.2.2 _ hcl) (X.1.2.2.2.2 _ hinst) (X.1.2.2.2.2 _ hini) X.2.1 hP hD hS X.2.2.1 hc hfs hcells hslots hdg (fun q H1 h1 h2 h3 => k q H1 locs ls h1 h2 h3 hl)
theorem zk_newa (X : zk_X p s m args c cc nL own Ts D cl tys A) {atype : ArrayType} {ty : FieldType} (harr : Cond.arrayClass (newarray.typeOf atype) ∈ Ts) (hty : newarray.typeOf atype = ty) {n : Int32} {N' : Nat} {a0 : vp_A} (ha : ∀ cA : ClassId, vp_cell cA a0 = arrV cA N' (fun _ => defaultValue ty)) (hn : ¬ n < 0) (hN : n.toNatClampNeg = N') (hbytes : N' * componentBytes ty ≤ 536870912) (hcells : cells + 1 ≤ R.cells) (hslots : slots + N' ≤ R.slots) (hdg : decode cc pc = .ok (.newarray atype, 2))
    (k : ∀ (q : Nat) (cA : ClassId), zk_X p s m args c cc nL own Ts D cl (tys ++ [(cA, ty)]) A → zk_Z p l e R s m args below meth c Q A D cl nL (cells + 1) (slots + N') (ws ++ [(q, .inl (cA, a0))]) lv (.ref q :: st) (pc + 2)) : zk_Z p l e R s m args below meth c Q A D cl nL cells slots ws lv (.int n :: st) pc :=
  fun H locs ls hP hD hS hl => va_newa X.1.1 X.1.2.1 (X.1.2.2.2.2 _ harr) hty X.2.1 hP hD hS X.2.2.1 ha hn hN hbytes hcells hslots hdg (fun q cA H1 hK h1 h2 h3 => k q cA ⟨X.1, hK, X.2.2⟩ H1 locs ls h1 h2 h3 hl)
theorem zk_putF (X : zk_X p s m args c cc nL own Ts D cl tys A) {C : String} {T : u_T} {N ci index a : Nat} {fs : List Value} {v : Value} {ty : FieldType} {ws' : va_W} (hin : ∀ w ∈ u_ws C T N, w ∈ Ts) {ty0 : Nat → FieldType} (hty : ∀ k, k < N → parseFieldDescriptor (T k).2.2.1 = some (ty0 k)) (hnm : ∀ a, a < N → ∀ b, b < N → a ≠ b → (T a).2.1 ≠ (T b).2.1) (q0 : Nat) (he : ws[q0]? = some (a, .inr (ci, fs))) (hc : cl[ci]? = some (C, T, N)) (k0 : Nat) (hk : k0 < N) (hlink : Cond.fieldLink own index (T k0).1 (T k0).2.1 (T k0).2.2.1 ∈ Ts) (hfin : (T k0).2.2.2 = true) (hnm2 : meth.name = "<init>") (hdecl : (T k0).1 = own) (hd : ty0 k0 = ty) (hn : narrow ty v = v) (hfit : fits ty v = true) (hl0 : k0 < fs.length) (hdg : decode cc pc = .ok (.putfield index, 3)) (hw : ws.set q0 (a, .inr (ci, fs.set k0 v)) = ws') (k : zk_Z p l e R s m args below meth c Q A D cl nL cells slots ws' lv st (pc + 3)) : zk_Z p l e R s m args below meth c Q A D cl nL cells slots ws lv (v :: .ref a :: st) pc := by
  subst hw; subst hd; exact fun H locs ls hP hD hS hl => va_putF X.1.1 X.1.2.1 X.1.2.2.2.2 hin ty0 hty hnm X.1.2.2.2.1 X.2.1 hP hD hS q0 he hc k0 hk (X.1.2.2.2.2 _ hlink) (fun _ h => h) hfin hnm2 hdecl (hty k0 hk) hn hfit hl0 hdg (fun H1 locs1 h1 h2 h3 => k H1 locs1 ls h1 h2 h3 hl)
theorem zk_objInit (X : zk_X p s m args c cc nL own Ts D cl tys A) {idx a : Nat} (hlink : Cond.methodLink own idx Lib.objectInit ∈ Ts) (hinst : Cond.instanceMethod Lib.objectInit ∈ Ts) (hcode : Cond.code Lib.objectInit ⟨#[0xb1]⟩ 1 none ∈ Ts) (hdg : decode cc pc = .ok (.invokespecial idx, 3)) (hfr : 1 ≤ R.frames) (hlo : (st.map fun v => v.category).sum + 12 ≤ R.locals) (k : zk_Z p l e R s m args below meth c Q A D cl nL cells slots ws lv st (pc + 3)) : zk_Z p l e R s m args below meth c Q A D cl nL cells slots ws lv (.ref a :: st) pc :=
  fun H locs ls hP hD hS hl => W.objInit X.1.1 X.1.2.1 X.1.2.2.2.1 (X.1.2.2.2.2 _ hlink) (X.1.2.2.2.2 _ hinst) (X.1.2.2.2.2 _ hcode) rfl (hl.1.trans X.1.2.2.1.symm) rfl hdg hfr (by show 2 * 0 + _ + 12 ≤ _; rw [Nat.mul_zero, Nat.zero_add]; exact hlo) (k H locs ls hP hD hS hl)
/-- what a constructor leaves: its world and the classes of the arrays that it made -/
def zk_BK {S : Type} (D : va_G) (cl : List vw_C) (A : Nat → Prop) (w1 : S → va_W) (t1 : S → List (ClassId × FieldType)) : S → State → Prop := fun u t => va_P D cl (w1 u) t.heap ∧ va_K D cl (t1 u) t ∧ va_D A (w1 u)
def zk_Cn {S : Type} (l : Launch) (y : MethodName) (wy : List Cond) (rm : Room) (D : va_G) (cl : List vw_C) (av : List Value) (wc : va_W) (tys : List (ClassId × FieldType)) (mc ms : Nat) (post : S → Prop) (w1 : S → va_W) (t1 : S → List (ClassId × FieldType)) : Prop :=
  ∀ sz : Nat, Met l y wy rm (zk_Pc D cl av wc tys sz) (va_Qv post (zk_BK D cl (va_A wc sz) w1 t1) (va_A wc sz)) mc ms (va_A wc sz)
theorem zk_entern {S : Type} {y : MethodName} {wy ws' : List Cond} {rm : Room} {av : List Value} {maxL mc ms : Nat} {ret : Option FieldType} {post : S → Prop} {w1 : S → va_W} {t1 : S → List (ClassId × FieldType)} (hy : plainName y.cls = true) (hw : wy = Cond.code y cc maxL ret :: ws') (hlen : (lg_sl av).length ≤ maxL)
    (body : ∀ (p : Program) (e : Env) (s : State) (m : MethodId) (args : Array Value) (below : List Frame) (meth : Method) (c : Code) (A : Nat → Prop) (Q : State → Prop), Q = MQ below (va_Qv post (zk_BK D cl A w1 t1) A) args s mc ms A → zk_X p s m args c cc maxL y.cls wy D cl tys A → meth.sig.returnType = ret → meth.locks = false → meth.name = y.name → zk_Z p l e rm s m args below meth c Q A D cl maxL 0 0 wc (lv_args 0 av) [] 0) : zk_Cn l y wy rm D cl av wc tys mc ms post w1 t1 := by
  intro sz
  refine Met.ofW (cc := cc) (maxL := maxL) (ret := ret) hy hw ?_
  intro p e s m args below meth c s₁ B hml hv
  obtain ⟨rfl, hsz, hP, hK, hD0, hN⟩ := hv
  have hts := atoms_spec (ws := wy) B.pre
  have hown : s.vm.findClass y.cls = some m.cls := findClass_of_methodNamed B.named
  have hin : meth.name = y.name := (name_of_methodNamed B.named B.method).1
  subst hsz
  have hD := hD0.self (sz := s.heap.size)
  generalize hAe : va_A wc s.heap.size = A at hD ⊢
  have hA : ∀ q : Nat, s.heap.size ≤ q → A q := fun q h => by rw [← hAe]; exact Or.inr h
  have hS : va_S A s.heap s.heap [] := va_S.rf
  have hl := lv_entry av (n := maxL) hlen
  rw [lg_entry_eq]
  exact body p e s m av.toArray below meth c A _ rfl ⟨⟨B.exec, B.bytes, hml, hown, hts⟩, hK, hA, hN⟩ B.returns B.notSynchronized hin s.heap [] _ hP hD hS hl
theorem zk_nret (X : zk_X p s m args c cc nL own Ts D cl tys A) {S : Type} {post : S → Prop} {w1 : S → va_W} {t1 : S → List (ClassId × FieldType)} {mc ms : Nat} (hQ : Q = MQ below (va_Qv post (zk_BK D cl A w1 t1) A) args s mc ms A) (hr : meth.sig.returnType = none) (hlocks : meth.locks = false) (u : S) (hp : post u) (is : List Nat) (hs : is.map (fun i => ws[i]?) = (w1 u).map some) (hn : va_nd is = true) (it : List Nat) (ht : it.filterMap (fun i => tys[i]?) = t1 u) (hc : cells ≤ mc) (hsl : slots ≤ ms) (hdg : decode cc pc = .ok (.return_, 1)) : zk_Z p l e R s m args below meth c Q A D cl nL cells slots ws lv [] pc := by
  subst hQ
  exact fun H locs ls hP hD hS hl => W.widen (k := mc) (n := ms) hc hsl (W.vret X.1.1 X.1.2.1 hr (fun t htt hW => ⟨⟨u, rfl, hp, by rw [htt]; exact hP.sub is (zk_fm hs), va_K.moved hW.alike (X.2.1.sub it ht), hD.sub is hn hs⟩, hS.F htt⟩) hS.2.2 hdg hlocks)
/-- a constructor's call: what it made comes behind -/
theorem zk_calln (X : zk_X p s m args c cc nL own Ts D cl tys A) {S : Type} {post : S → Prop} {w1 : S → va_W} {t1 : S → List (ClassId × FieldType)} {y : MethodName} {wy : List Cond} {rm : Room} {As rest : List Value} {b mc ms : Nat} (hM : zk_Cn l y wy rm D cl (.ref b :: As) wc tysC mc ms post w1 t1) (tc : List Nat) (hT : tc.filterMap (fun i => tys[i]?) = tysC) (isC isR : List Nat) (hC : isC.map (fun i => ws[i]?) = wc.map some) (hR : isR.map (fun i => ws[i]?) = wr.map some) (hnC : va_nd isC = true) (hnR : va_nd isR = true) (hdis : ∀ i ∈ isR, i ∉ isC)
    (hrun : ∀ (H : Heap) (locs : List Loc) (ls : Array Slot), lv_has ls nL lv → PreS s H (zk_Pc D cl (.ref b :: As) wc tysC H.size) (.ref b :: As) → va_Run p l e R s m args below meth c H locs cells slots mc ms (F0 m pc ls st) rest (va_Qv post (zk_BK D cl (va_A wc H.size) w1 t1) (va_A wc H.size) (Value.ref b :: As).toArray) (va_A wc H.size))
    (k : ∀ (u : S), post u → zk_X p s m args c cc nL own Ts D cl (tys ++ t1 u) A → zk_Z p l e R s m args below meth c Q A D cl nL (cells + mc) (slots + ms) (wr ++ w1 u) lv rest (pc + 3)) : zk_Z p l e R s m args below meth c Q A D cl nL cells slots ws lv st pc := by
  intro H locs ls hP hD hS hl
  have hPc := hP.sub isC (zk_fm hC)
  have hDc := hD.sub isC hnC hC
  have hFc := va_free (wc := wc) hD hS X.2.2.1 isC hC
  refine va_callv (hrun H locs ls hl ⟨zk_blind, zk_pre X hPc hDc (X.2.1.sub tc hT)⟩) hS (fun q _ h => hFc q h) hFc (fun u t H1 locs1 ht hvm hp hB hz1 hk1 hS1 => ?_)
  obtain ⟨hP1, hK1, hD1⟩ := hB
  rw [ht] at hP1
  have hK1 := va_K.moved hvm.symm hK1
  obtain ⟨hP2, hD2⟩ := va_join (wr := wr) (w1 := w1 u) hP hD isC isR hC hR hnR hdis hk1 hFc hP1 hD1
  exact k u hp ⟨X.1, X.2.1.app hK1, X.2.2⟩ H1 locs1 ls hP2 hD2 hS1 hl
end ZKN
