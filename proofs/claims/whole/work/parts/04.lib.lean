/-! shifts and remainders under names; indices; what 'has' says -/
def zf_ushr (x y : Int32) : Int32 := (x.toUInt32 >>> (y.toUInt32 &&& Int32.toUInt32 31)).toInt32
def zf_shl (x y : Int32) : Int32 := x <<< (y &&& 31)
def zf_shr (x y : Int32) : Int32 := x >>> (y &&& 31)
def zf_rem (x y : Int32) : Int32 := x - x / y * y
def zf_lrem (x y : Int64) : Int64 := x - x / y * y
def zf_lshl (x : Int64) (y : Int32) : Int64 := x <<< (y.toInt64 &&& 63)
def zk_ix3 (x : Int32) : Nat := x.toBitVec.toNat % 2 ^ 2
theorem zk_ix3_eq (x : Int32) : x &&& 3 = nI (zk_ix3 x) := pk_and x 2 (by decide)
theorem zk_ix3_lt (x : Int32) : zk_ix3 x < 4 := Nat.mod_lt _ (by decide)
def zk_ix31 (x : Int32) : Nat := x.toBitVec.toNat % 2 ^ 5
theorem zk_ix31_eq (x : Int32) : x &&& 31 = nI (zk_ix31 x) := pk_and x 5 (by decide)
theorem zk_ix31_lt (x : Int32) : zk_ix31 x < 32 := Nat.mod_lt _ (by decide)
theorem zk_nsub (a k : Nat) : nI (a + k) - nI k = nI a := by rw [pk_sub (Nat.le_add_left k a), Nat.add_sub_cancel]
def zk_hs (r i : Int32) (n : Nat) : Prop := r = 0 ∨ (¬ i < 0 ∧ ¬ nI n ≤ i)
theorem zk_hasN {r : Int32} {q n : Nat} (hf : zk_hs r (nI q) n) (hr : ¬ r = 0) (hq : q < 2 ^ 31) (_hn : n < 2 ^ 31) : q < n := by
  rcases hf with h | ⟨_, h⟩
  · exact absurd h hr
  · exact Nat.lt_of_not_le (fun g => h (nI_le g hq))
theorem zk_hasI {r i : Int32} {n : Nat} (hf : zk_hs r i n) (hr : ¬ r = 0) : i = nI i.toNatClampNeg ∧ i.toNatClampNeg < n := by
  rcases hf with h | ⟨h1, h2⟩
  · exact absurd h hr
  · obtain ⟨j, hj, rfl⟩ := nI_of h1
    rw [nI_clamp hj]
    exact ⟨rfl, Nat.lt_of_not_le (fun g => h2 (nI_le g hj))⟩
theorem zk_hasL {r i : Int32} {n N : Nat} (hf : zk_hs r i n) (hr : ¬ r = 0) (hn : n ≤ N) : i.toNatClampNeg < N := Nat.lt_of_lt_of_le (zk_hasI hf hr).2 hn
theorem zk_iI {i : Int32} (h : ¬ i < 0) : i = nI i.toNatClampNeg := by
  obtain ⟨j, hj, rfl⟩ := nI_of h
  rw [nI_clamp hj]
theorem zk_iLt {i : Int32} (K : Nat) (h : ¬ i < 0) (h2 : ¬ nI K ≤ i) : i.toNatClampNeg < K := by
  obtain ⟨j, hj, rfl⟩ := nI_of h
  rw [nI_clamp hj]
  exact Nat.lt_of_not_le (fun g => h2 (nI_le g hj))
theorem zk_iL {i : Int32} (h : ¬ i < 0) (h2 : ¬ (4 : Int32) ≤ i) : i.toNatClampNeg < 4 := zk_iLt 4 h h2
theorem zk_iL32 {i : Int32} (h : ¬ i < 0) (h2 : ¬ (32 : Int32) ≤ i) : i.toNatClampNeg < 32 := zk_iLt 32 h h2
def zk_b01 (r : Int32) : Prop := r = 0 ∨ r = 1
theorem zk_narB {r : Int32} (h : zk_b01 r) : narrow .boolean (.int r) = .int r := by
  rcases h with rfl | rfl <;> rfl
theorem zk_lt100 {n : Int32} {j : Nat} (h : ¬ (100 : Int32) < n) (h2 : ¬ n ≤ nI j) (hj : j ≤ 100) : j < 100 := by
  rcases Nat.lt_or_eq_of_le hj with g | g
  · exact g
  · subst g
    exact absurd (Int32.not_lt.mp h) h2
theorem zk_dec {i : Int32} (h : ¬ i < 0) : (i + (-1)).toInt = i.toInt - 1 ∧ 0 ≤ i.toInt := by
  obtain ⟨j, hj, rfl⟩ := nI_of h
  rcases j with _ | k
  · decide
  · rw [pk_m1, nI_toInt hj, nI_toInt (by omega)]
    omega
theorem zk_n1 {n : Int32} (h1 : ¬ n < 1) (h2 : n ≤ 4) : (n - 1).toInt < 4 ∧ -1 ≤ (n - 1).toInt ∧ ((n - 1).toInt + 1).toNat < 5 := by
  have e1 : n.toInt ≤ 4 := Int32.le_iff_toInt_le.mp h2
  have e2 : 1 ≤ n.toInt := by
    have := Int32.not_lt.mp h1
    exact Int32.le_iff_toInt_le.mp this
  have : n = 1 ∨ n = 2 ∨ n = 3 ∨ n = 4 := by
    have h : n.toInt = 1 ∨ n.toInt = 2 ∨ n.toInt = 3 ∨ n.toInt = 4 := by omega
    rcases h with h | h | h | h
    · exact Or.inl (Int32.toInt_inj.mp h)
    · exact Or.inr (Or.inl (Int32.toInt_inj.mp h))
    · exact Or.inr (Or.inr (Or.inl (Int32.toInt_inj.mp h)))
    · exact Or.inr (Or.inr (Or.inr (Int32.toInt_inj.mp h)))
  rcases this with rfl | rfl | rfl | rfl <;> decide
theorem zk_fm {ws ws' : va_W} {is : List Nat} (h : is.map (fun i => ws[i]?) = ws'.map some) : is.filterMap (fun i => ws[i]?) = ws' := by
  have h2 : (is.map (fun i => ws[i]?)).filterMap id = (ws'.map some).filterMap id := by rw [h]
  rw [List.filterMap_map, List.filterMap_map] at h2
  simpa using h2
section ZKL
variable {p : Program} {l : Launch} {e : Env} {R : Room} {s : State} {m : MethodId} {args : Array Value} {below : List Frame} {meth : Method} {c : Code} {Q : State → Prop} {A : Nat → Prop} {D : va_G} {cl : List vw_C} {tys : List (ClassId × FieldType)} {nL cells slots pc : Nat} {cc : ByteArray} {Ts : List Cond} {own : String} {ws : va_W} {lv : List (Nat × Value)} {st : List Value}
/-- from every heap that holds the world ws and every locals that hold lv: the machine at pc with the stack st comes to Q -/
def zk_Z (p : Program) (l : Launch) (e : Env) (R : Room) (s : State) (m : MethodId) (args : Array Value) (below : List Frame) (meth : Method) (c : Code) (Q : State → Prop) (A : Nat → Prop) (D : va_G) (cl : List vw_C) (nL cells slots : Nat) (ws : va_W) (lv : List (Nat × Value)) (st : List Value) (pc : Nat) : Prop :=
  ∀ (H : Heap) (locs : List Loc) (ls : Array Slot), va_P D cl ws H → va_D A ws → va_S A s.heap H locs → lv_has ls nL lv → W p l e R s m args below meth c H locs cells slots Q (F0 m pc ls st)
def zk_X (p : Program) (s : State) (m : MethodId) (args : Array Value) (c : Code) (cc : ByteArray) (nL : Nat) (own : String) (Ts : List Cond) (D : va_G) (cl : List vw_C) (tys : List (ClassId × FieldType)) (A : Nat → Prop) : Prop :=
  CallFix p m c cc nL s args Ts own ∧ va_K D cl tys s ∧ (∀ q : Nat, s.heap.size ≤ q → A q) ∧ zk_N s
theorem zk_iconst (X : zk_X p s m args c cc nL own Ts D cl tys A) {n : Int} {v : Int32} (hdg : decode cc pc = .ok (.iconst n, 1)) (hv : Int32.ofInt n = v) (k : zk_Z p l e R s m args below meth c Q A D cl nL cells slots ws lv (.int v :: st) (pc + 1)) : zk_Z p l e R s m args below meth c Q A D cl nL cells slots ws lv st pc := by
  exact fun H locs ls hP hD hS hl => lv_iconst X.1.1 X.1.2.1 hdg hv (k H locs ls hP hD hS hl)
theorem zk_bipush (X : zk_X p s m args c cc nL own Ts D cl tys A) {n : Int} {v : Int32} (hdg : decode cc pc = .ok (.bipush n, 2)) (hv : (Int8.ofInt n).toInt32 = v) (k : zk_Z p l e R s m args below meth c Q A D cl nL cells slots ws lv (.int v :: st) (pc + 2)) : zk_Z p l e R s m args below meth c Q A D cl nL cells slots ws lv st pc := by
  exact fun H locs ls hP hD hS hl => lv_bipush X.1.1 X.1.2.1 hdg hv (k H locs ls hP hD hS hl)
theorem zk_sipush (X : zk_X p s m args c cc nL own Ts D cl tys A) {n : Int} {v : Int32} (hdg : decode cc pc = .ok (.sipush n, 3)) (hv : (Int16.ofInt n).toInt32 = v) (k : zk_Z p l e R s m args below meth c Q A D cl nL cells slots ws lv (.int v :: st) (pc + 3)) : zk_Z p l e R s m args below meth c Q A D cl nL cells slots ws lv st pc := by
  exact fun H locs ls hP hD hS hl => lv_sipush X.1.1 X.1.2.1 hdg hv (k H locs ls hP hD hS hl)
theorem zk_lconst (X : zk_X p s m args c cc nL own Ts D cl tys A) {n : Fin 2} {v : Int64} (hdg : decode cc pc = .ok (.lconst n, 1)) (hv : Int64.ofNat (n : Nat) = v) (k : zk_Z p l e R s m args below meth c Q A D cl nL cells slots ws lv (.long v :: st) (pc + 1)) : zk_Z p l e R s m args below meth c Q A D cl nL cells slots ws lv st pc := by
  exact fun H locs ls hP hD hS hl => lv_lconst X.1.1 X.1.2.1 hdg hv (k H locs ls hP hD hS hl)
theorem zk_iload_n (X : zk_X p s m args c cc nL own Ts D cl tys A) {k0 : Fin 4} {i q : Nat} {x : Int32} (hdg : decode cc pc = .ok (.iload_n k0, 1)) (hi : (k0 : Nat) = i) (hq : lv[q]? = some (i, .int x)) (k : zk_Z p l e R s m args below meth c Q A D cl nL cells slots ws lv (.int x :: st) (pc + 1)) : zk_Z p l e R s m args below meth c Q A D cl nL cells slots ws lv st pc := by
  exact fun H locs ls hP hD hS hl => lv_iload_n X.1.1 X.1.2.1 hdg hi (lv_at hl q hq) (k H locs ls hP hD hS hl)
theorem zk_iload (X : zk_X p s m args c cc nL own Ts D cl tys A) {i q : Nat} {x : Int32} (hdg : decode cc pc = .ok (.iload i, 2)) (hq : lv[q]? = some (i, .int x)) (k : zk_Z p l e R s m args below meth c Q A D cl nL cells slots ws lv (.int x :: st) (pc + 2)) : zk_Z p l e R s m args below meth c Q A D cl nL cells slots ws lv st pc := by
  exact fun H locs ls hP hD hS hl => lv_iload X.1.1 X.1.2.1 hdg (lv_at hl q hq) (k H locs ls hP hD hS hl)
theorem zk_lload_n (X : zk_X p s m args c cc nL own Ts D cl tys A) {k0 : Fin 4} {i q : Nat} {x : Int64} (hdg : decode cc pc = .ok (.lload_n k0, 1)) (hi : (k0 : Nat) = i) (hq : lv[q]? = some (i, .long x)) (k : zk_Z p l e R s m args below meth c Q A D cl nL cells slots ws lv (.long x :: st) (pc + 1)) : zk_Z p l e R s m args below meth c Q A D cl nL cells slots ws lv st pc := by
  exact fun H locs ls hP hD hS hl => lv_lload_n X.1.1 X.1.2.1 hdg hi (lv_at hl q hq) (k H locs ls hP hD hS hl)
theorem zk_lload (X : zk_X p s m args c cc nL own Ts D cl tys A) {i q : Nat} {x : Int64} (hdg : decode cc pc = .ok (.lload i, 2)) (hq : lv[q]? = some (i, .long x)) (k : zk_Z p l e R s m args below meth c Q A D cl nL cells slots ws lv (.long x :: st) (pc + 2)) : zk_Z p l e R s m args below meth c Q A D cl nL cells slots ws lv st pc := by
  exact fun H locs ls hP hD hS hl => lv_lload X.1.1 X.1.2.1 hdg (lv_at hl q hq) (k H locs ls hP hD hS hl)
theorem zk_aload_n (X : zk_X p s m args c cc nL own Ts D cl tys A) {k0 : Fin 4} {i q : Nat} {x : Nat} (hdg : decode cc pc = .ok (.aload_n k0, 1)) (hi : (k0 : Nat) = i) (hq : lv[q]? = some (i, .ref x)) (k : zk_Z p l e R s m args below meth c Q A D cl nL cells slots ws lv (.ref x :: st) (pc + 1)) : zk_Z p l e R s m args below meth c Q A D cl nL cells slots ws lv st pc := by
  exact fun H locs ls hP hD hS hl => lv_aload_n X.1.1 X.1.2.1 hdg hi (lv_at hl q hq) (k H locs ls hP hD hS hl)
theorem zk_aload (X : zk_X p s m args c cc nL own Ts D cl tys A) {i q : Nat} {x : Nat} (hdg : decode cc pc = .ok (.aload i, 2)) (hq : lv[q]? = some (i, .ref x)) (k : zk_Z p l e R s m args below meth c Q A D cl nL cells slots ws lv (.ref x :: st) (pc + 2)) : zk_Z p l e R s m args below meth c Q A D cl nL cells slots ws lv st pc := by
  exact fun H locs ls hP hD hS hl => lv_aload X.1.1 X.1.2.1 hdg (lv_at hl q hq) (k H locs ls hP hD hS hl)
theorem zk_iadd (X : zk_X p s m args c cc nL own Ts D cl tys A) {x y v : Int32} (hdg : decode cc pc = .ok (.iadd, 1)) (hv : x + y = v) (k : zk_Z p l e R s m args below meth c Q A D cl nL cells slots ws lv (.int v :: st) (pc + 1)) : zk_Z p l e R s m args below meth c Q A D cl nL cells slots ws lv (.int y :: .int x :: st) pc := by
  subst hv; exact fun H locs ls hP hD hS hl => lv_iadd X.1.1 X.1.2.1 hdg (k H locs ls hP hD hS hl)
theorem zk_isub (X : zk_X p s m args c cc nL own Ts D cl tys A) {x y v : Int32} (hdg : decode cc pc = .ok (.isub, 1)) (hv : x - y = v) (k : zk_Z p l e R s m args below meth c Q A D cl nL cells slots ws lv (.int v :: st) (pc + 1)) : zk_Z p l e R s m args below meth c Q A D cl nL cells slots ws lv (.int y :: .int x :: st) pc := by
  subst hv; exact fun H locs ls hP hD hS hl => lv_isub X.1.1 X.1.2.1 hdg (k H locs ls hP hD hS hl)
theorem zk_imul (X : zk_X p s m args c cc nL own Ts D cl tys A) {x y v : Int32} (hdg : decode cc pc = .ok (.imul, 1)) (hv : x * y = v) (k : zk_Z p l e R s m args below meth c Q A D cl nL cells slots ws lv (.int v :: st) (pc + 1)) : zk_Z p l e R s m args below meth c Q A D cl nL cells slots ws lv (.int y :: .int x :: st) pc := by
  subst hv; exact fun H locs ls hP hD hS hl => lv_imul X.1.1 X.1.2.1 hdg (k H locs ls hP hD hS hl)
theorem zk_iand (X : zk_X p s m args c cc nL own Ts D cl tys A) {x y v : Int32} (hdg : decode cc pc = .ok (.iand, 1)) (hv : x &&& y = v) (k : zk_Z p l e R s m args below meth c Q A D cl nL cells slots ws lv (.int v :: st) (pc + 1)) : zk_Z p l e R s m args below meth c Q A D cl nL cells slots ws lv (.int y :: .int x :: st) pc := by
  subst hv; exact fun H locs ls hP hD hS hl => lv_iand X.1.1 X.1.2.1 hdg (k H locs ls hP hD hS hl)
theorem zk_ior (X : zk_X p s m args c cc nL own Ts D cl tys A) {x y v : Int32} (hdg : decode cc pc = .ok (.ior, 1)) (hv : x ||| y = v) (k : zk_Z p l e R s m args below meth c Q A D cl nL cells slots ws lv (.int v :: st) (pc + 1)) : zk_Z p l e R s m args below meth c Q A D cl nL cells slots ws lv (.int y :: .int x :: st) pc := by
  subst hv; exact fun H locs ls hP hD hS hl => lv_ior X.1.1 X.1.2.1 hdg (k H locs ls hP hD hS hl)
theorem zk_ixor (X : zk_X p s m args c cc nL own Ts D cl tys A) {x y v : Int32} (hdg : decode cc pc = .ok (.ixor, 1)) (hv : x ^^^ y = v) (k : zk_Z p l e R s m args below meth c Q A D cl nL cells slots ws lv (.int v :: st) (pc + 1)) : zk_Z p l e R s m args below meth c Q A D cl nL cells slots ws lv (.int y :: .int x :: st) pc := by
  subst hv; exact fun H locs ls hP hD hS hl => lv_ixor X.1.1 X.1.2.1 hdg (k H locs ls hP hD hS hl)
theorem zk_ishl (X : zk_X p s m args c cc nL own Ts D cl tys A) {x y v : Int32} (hdg : decode cc pc = .ok (.ishl, 1)) (hv : x <<< (y &&& 31) = v) (k : zk_Z p l e R s m args below meth c Q A D cl nL cells slots ws lv (.int v :: st) (pc + 1)) : zk_Z p l e R s m args below meth c Q A D cl nL cells slots ws lv (.int y :: .int x :: st) pc := by
  subst hv; exact fun H locs ls hP hD hS hl => lv_ishl X.1.1 X.1.2.1 hdg (k H locs ls hP hD hS hl)
theorem zk_ishr (X : zk_X p s m args c cc nL own Ts D cl tys A) {x y v : Int32} (hdg : decode cc pc = .ok (.ishr, 1)) (hv : x >>> (y &&& 31) = v) (k : zk_Z p l e R s m args below meth c Q A D cl nL cells slots ws lv (.int v :: st) (pc + 1)) : zk_Z p l e R s m args below meth c Q A D cl nL cells slots ws lv (.int y :: .int x :: st) pc := by
  subst hv; exact fun H locs ls hP hD hS hl => lv_ishr X.1.1 X.1.2.1 hdg (k H locs ls hP hD hS hl)
theorem zk_iushr (X : zk_X p s m args c cc nL own Ts D cl tys A) {x y v : Int32} (hdg : decode cc pc = .ok (.iushr, 1)) (hv : (x.toUInt32 >>> (y.toUInt32 &&& Int32.toUInt32 31)).toInt32 = v) (k : zk_Z p l e R s m args below meth c Q A D cl nL cells slots ws lv (.int v :: st) (pc + 1)) : zk_Z p l e R s m args below meth c Q A D cl nL cells slots ws lv (.int y :: .int x :: st) pc := by
  exact fun H locs ls hP hD hS hl => lv_iushr X.1.1 X.1.2.1 hdg hv (k H locs ls hP hD hS hl)
theorem zk_irem (X : zk_X p s m args c cc nL own Ts D cl tys A) {x y v : Int32} (hdg : decode cc pc = .ok (.irem, 1)) (hne : ¬ y = 0) (hv : x - x / y * y = v) (k : zk_Z p l e R s m args below meth c Q A D cl nL cells slots ws lv (.int v :: st) (pc + 1)) : zk_Z p l e R s m args below meth c Q A D cl nL cells slots ws lv (.int y :: .int x :: st) pc := by
  subst hv; exact fun H locs ls hP hD hS hl => lv_irem X.1.1 X.1.2.1 hdg hne (k H locs ls hP hD hS hl)
theorem zk_ineg (X : zk_X p s m args c cc nL own Ts D cl tys A) {x v : Int32} (hdg : decode cc pc = .ok (.ineg, 1)) (hv : -x = v) (k : zk_Z p l e R s m args below meth c Q A D cl nL cells slots ws lv (.int v :: st) (pc + 1)) : zk_Z p l e R s m args below meth c Q A D cl nL cells slots ws lv (.int x :: st) pc := by
  subst hv; exact fun H locs ls hP hD hS hl => lv_ineg X.1.1 X.1.2.1 hdg (k H locs ls hP hD hS hl)
theorem zk_ladd (X : zk_X p s m args c cc nL own Ts D cl tys A) {x y v : Int64} (hdg : decode cc pc = .ok (.ladd, 1)) (hv : x + y = v) (k : zk_Z p l e R s m args below meth c Q A D cl nL cells slots ws lv (.long v :: st) (pc + 1)) : zk_Z p l e R s m args below meth c Q A D cl nL cells slots ws lv (.long y :: .long x :: st) pc := by
  subst hv; exact fun H locs ls hP hD hS hl => lv_ladd X.1.1 X.1.2.1 hdg (k H locs ls hP hD hS hl)
theorem zk_lsub (X : zk_X p s m args c cc nL own Ts D cl tys A) {x y v : Int64} (hdg : decode cc pc = .ok (.lsub, 1)) (hv : x - y = v) (k : zk_Z p l e R s m args below meth c Q A D cl nL cells slots ws lv (.long v :: st) (pc + 1)) : zk_Z p l e R s m args below meth c Q A D cl nL cells slots ws lv (.long y :: .long x :: st) pc := by
  subst hv; exact fun H locs ls hP hD hS hl => lv_lsub X.1.1 X.1.2.1 hdg (k H locs ls hP hD hS hl)
theorem zk_lmul (X : zk_X p s m args c cc nL own Ts D cl tys A) {x y v : Int64} (hdg : decode cc pc = .ok (.lmul, 1)) (hv : x * y = v) (k : zk_Z p l e R s m args below meth c Q A D cl nL cells slots ws lv (.long v :: st) (pc + 1)) : zk_Z p l e R s m args below meth c Q A D cl nL cells slots ws lv (.long y :: .long x :: st) pc := by
  subst hv; exact fun H locs ls hP hD hS hl => lv_lmul X.1.1 X.1.2.1 hdg (k H locs ls hP hD hS hl)
theorem zk_land (X : zk_X p s m args c cc nL own Ts D cl tys A) {x y v : Int64} (hdg : decode cc pc = .ok (.land, 1)) (hv : x &&& y = v) (k : zk_Z p l e R s m args below meth c Q A D cl nL cells slots ws lv (.long v :: st) (pc + 1)) : zk_Z p l e R s m args below meth c Q A D cl nL cells slots ws lv (.long y :: .long x :: st) pc := by
  subst hv; exact fun H locs ls hP hD hS hl => lv_land X.1.1 X.1.2.1 hdg (k H locs ls hP hD hS hl)
theorem zk_lor (X : zk_X p s m args c cc nL own Ts D cl tys A) {x y v : Int64} (hdg : decode cc pc = .ok (.lor, 1)) (hv : x ||| y = v) (k : zk_Z p l e R s m args below meth c Q A D cl nL cells slots ws lv (.long v :: st) (pc + 1)) : zk_Z p l e R s m args below meth c Q A D cl nL cells slots ws lv (.long y :: .long x :: st) pc := by
  subst hv; exact fun H locs ls hP hD hS hl => lv_lor X.1.1 X.1.2.1 hdg (k H locs ls hP hD hS hl)
theorem zk_ldiv (X : zk_X p s m args c cc nL own Ts D cl tys A) {x y v : Int64} (hdg : decode cc pc = .ok (.ldiv, 1)) (hne : ¬ y = 0) (hv : x / y = v) (k : zk_Z p l e R s m args below meth c Q A D cl nL cells slots ws lv (.long v :: st) (pc + 1)) : zk_Z p l e R s m args below meth c Q A D cl nL cells slots ws lv (.long y :: .long x :: st) pc := by
  subst hv; exact fun H locs ls hP hD hS hl => lv_ldiv X.1.1 X.1.2.1 hdg hne (k H locs ls hP hD hS hl)
theorem zk_lrem (X : zk_X p s m args c cc nL own Ts D cl tys A) {x y v : Int64} (hdg : decode cc pc = .ok (.lrem, 1)) (hne : ¬ y = 0) (hv : x - x / y * y = v) (k : zk_Z p l e R s m args below meth c Q A D cl nL cells slots ws lv (.long v :: st) (pc + 1)) : zk_Z p l e R s m args below meth c Q A D cl nL cells slots ws lv (.long y :: .long x :: st) pc := by
  subst hv; exact fun H locs ls hP hD hS hl => lv_lrem X.1.1 X.1.2.1 hdg hne (k H locs ls hP hD hS hl)
theorem zk_lshl (X : zk_X p s m args c cc nL own Ts D cl tys A) {x v : Int64} {y : Int32} (hdg : decode cc pc = .ok (.lshl, 1)) (hv : x <<< (y.toInt64 &&& 63) = v) (k : zk_Z p l e R s m args below meth c Q A D cl nL cells slots ws lv (.long v :: st) (pc + 1)) : zk_Z p l e R s m args below meth c Q A D cl nL cells slots ws lv (.int y :: .long x :: st) pc := by
  exact fun H locs ls hP hD hS hl => lv_lshl X.1.1 X.1.2.1 hdg hv (k H locs ls hP hD hS hl)
theorem zk_i2l (X : zk_X p s m args c cc nL own Ts D cl tys A) {x : Int32} {v : Int64} (hdg : decode cc pc = .ok (.i2l, 1)) (hv : x.toInt64 = v) (k : zk_Z p l e R s m args below meth c Q A D cl nL cells slots ws lv (.long v :: st) (pc + 1)) : zk_Z p l e R s m args below meth c Q A D cl nL cells slots ws lv (.int x :: st) pc := by
  exact fun H locs ls hP hD hS hl => lv_i2l X.1.1 X.1.2.1 hdg hv (k H locs ls hP hD hS hl)
theorem zk_l2i (X : zk_X p s m args c cc nL own Ts D cl tys A) {x : Int64} {v : Int32} (hdg : decode cc pc = .ok (.l2i, 1)) (hv : x.toInt32 = v) (k : zk_Z p l e R s m args below meth c Q A D cl nL cells slots ws lv (.int v :: st) (pc + 1)) : zk_Z p l e R s m args below meth c Q A D cl nL cells slots ws lv (.long x :: st) pc := by
  exact fun H locs ls hP hD hS hl => lv_l2i X.1.1 X.1.2.1 hdg hv (k H locs ls hP hD hS hl)
theorem zk_lcmp (X : zk_X p s m args c cc nL own Ts D cl tys A) {x y : Int64} {v : Int32} (hdg : decode cc pc = .ok (.lcmp, 1)) (hv : lg_cmp x y = v) (k : zk_Z p l e R s m args below meth c Q A D cl nL cells slots ws lv (.int v :: st) (pc + 1)) : zk_Z p l e R s m args below meth c Q A D cl nL cells slots ws lv (.long y :: .long x :: st) pc := by
  subst hv; exact fun H locs ls hP hD hS hl => W.lcmp X.1.1 X.1.2.1 hdg (k H locs ls hP hD hS hl)
theorem zk_dup (X : zk_X p s m args c cc nL own Ts D cl tys A) {va : Value} (hdg : decode cc pc = .ok (.dup, 1)) (hc : va.category = 1) (k : zk_Z p l e R s m args below meth c Q A D cl nL cells slots ws lv (va :: va :: st) (pc + 1)) : zk_Z p l e R s m args below meth c Q A D cl nL cells slots ws lv (va :: st) pc := by
  exact fun H locs ls hP hD hS hl => lv_dup X.1.1 X.1.2.1 hdg hc (k H locs ls hP hD hS hl)
theorem zk_pop (X : zk_X p s m args c cc nL own Ts D cl tys A) {va : Value} (hdg : decode cc pc = .ok (.pop, 1)) (hc : va.category = 1) (k : zk_Z p l e R s m args below meth c Q A D cl nL cells slots ws lv st (pc + 1)) : zk_Z p l e R s m args below meth c Q A D cl nL cells slots ws lv (va :: st) pc := by
  exact fun H locs ls hP hD hS hl => lv_pop X.1.1 X.1.2.1 hdg hc (k H locs ls hP hD hS hl)
theorem zk_dup_x1 (X : zk_X p s m args c cc nL own Ts D cl tys A) {va vb : Value} (hdg : decode cc pc = .ok (.dup_x1, 1)) (hc : va.category = 1) (hd : vb.category = 1) (k : zk_Z p l e R s m args below meth c Q A D cl nL cells slots ws lv (va :: vb :: va :: st) (pc + 1)) : zk_Z p l e R s m args below meth c Q A D cl nL cells slots ws lv (va :: vb :: st) pc := by
  exact fun H locs ls hP hD hS hl => lv_dup_x1 X.1.1 X.1.2.1 hdg hc hd (k H locs ls hP hD hS hl)
theorem zk_dup2 (X : zk_X p s m args c cc nL own Ts D cl tys A) {va vb : Value} (hdg : decode cc pc = .ok (.dup2, 1)) (hc : va.category = 1) (hd : vb.category = 1) (k : zk_Z p l e R s m args below meth c Q A D cl nL cells slots ws lv (va :: vb :: va :: vb :: st) (pc + 1)) : zk_Z p l e R s m args below meth c Q A D cl nL cells slots ws lv (va :: vb :: st) pc := by
  exact fun H locs ls hP hD hS hl => lv_dup2_11 X.1.1 X.1.2.1 hdg hc hd (k H locs ls hP hD hS hl)
theorem zk_ldc (X : zk_X p s m args c cc nL own Ts D cl tys A) {index : Nat} {v : Int32} (hdg : decode cc pc = .ok (.ldc index, 2)) (hw : Cond.constant own index v ∈ Ts) (k : zk_Z p l e R s m args below meth c Q A D cl nL cells slots ws lv (.int v :: st) (pc + 2)) : zk_Z p l e R s m args below meth c Q A D cl nL cells slots ws lv st pc := by
  exact fun H locs ls hP hD hS hl => lv_ldc X.1.1 X.1.2.1 X.1.2.2.2.1 (X.1.2.2.2.2 _ hw) hdg (k H locs ls hP hD hS hl)
theorem zk_ldc2 (X : zk_X p s m args c cc nL own Ts D cl tys A) {index : Nat} {v : Int64} (hdg : decode cc pc = .ok (.ldc2_w index, 3)) (hw : Cond.constantLong own index v ∈ Ts) (k : zk_Z p l e R s m args below meth c Q A D cl nL cells slots ws lv (.long v :: st) (pc + 3)) : zk_Z p l e R s m args below meth c Q A D cl nL cells slots ws lv st pc := by
  exact fun H locs ls hP hD hS hl => lv_ldc2 X.1.1 X.1.2.1 X.1.2.2.2.1 (X.1.2.2.2.2 _ hw) hdg (k H locs ls hP hD hS hl)
theorem zk_null (X : zk_X p s m args c cc nL own Ts D cl tys A)  (hdg : decode cc pc = .ok (.aconst_null, 1))  (k : zk_Z p l e R s m args below meth c Q A D cl nL cells slots ws lv (.null :: st) (pc + 1)) : zk_Z p l e R s m args below meth c Q A D cl nL cells slots ws lv st pc := by
  exact fun H locs ls hP hD hS hl => lv_null X.1.1 X.1.2.1 hdg (k H locs ls hP hD hS hl)
theorem zk_aload_nN (X : zk_X p s m args c cc nL own Ts D cl tys A) {k0 : Fin 4} {i q : Nat} (hdg : decode cc pc = .ok (.aload_n k0, 1)) (hi : (k0 : Nat) = i) (hq : lv[q]? = some (i, .null)) (k : zk_Z p l e R s m args below meth c Q A D cl nL cells slots ws lv (.null :: st) (pc + 1)) : zk_Z p l e R s m args below meth c Q A D cl nL cells slots ws lv st pc := by
  exact fun H locs ls hP hD hS hl => lv_aload_nN X.1.1 X.1.2.1 hdg hi (lv_at hl q hq) (k H locs ls hP hD hS hl)
theorem zk_istore_n (X : zk_X p s m args c cc nL own Ts D cl tys A) {k0 : Fin 4} {i : Nat} {x : Int32} {lv' : List (Nat × Value)} (hdg : decode cc pc = .ok (.istore_n k0, 1)) (hi : (k0 : Nat) = i) (hn : i < nL) (hl : (i, Value.int x) :: lv.filter (fun q => !(q.1 == i) && !(q.1 + 1 == i && q.2.category == 2)) = lv') (k : zk_Z p l e R s m args below meth c Q A D cl nL cells slots ws lv' st (pc + 1)) : zk_Z p l e R s m args below meth c Q A D cl nL cells slots ws lv (Value.int x :: st) pc :=
  fun H locs ls hP hD hS hl0 => lv_istore_n X.1.1 X.1.2.1 hdg hi hl0 hn hl (fun ls' h => k H locs ls' hP hD hS h)
theorem zk_istore (X : zk_X p s m args c cc nL own Ts D cl tys A)  {i : Nat} {x : Int32} {lv' : List (Nat × Value)} (hdg : decode cc pc = .ok (.istore i, 2))  (hn : i < nL) (hl : (i, Value.int x) :: lv.filter (fun q => !(q.1 == i) && !(q.1 + 1 == i && q.2.category == 2)) = lv') (k : zk_Z p l e R s m args below meth c Q A D cl nL cells slots ws lv' st (pc + 2)) : zk_Z p l e R s m args below meth c Q A D cl nL cells slots ws lv (Value.int x :: st) pc :=
  fun H locs ls hP hD hS hl0 => lv_istore X.1.1 X.1.2.1 hdg  hl0 hn hl (fun ls' h => k H locs ls' hP hD hS h)
theorem zk_lstore_n (X : zk_X p s m args c cc nL own Ts D cl tys A) {k0 : Fin 4} {i : Nat} {x : Int64} {lv' : List (Nat × Value)} (hdg : decode cc pc = .ok (.lstore_n k0, 1)) (hi : (k0 : Nat) = i) (hn : i + 1 < nL) (hl : (i, Value.long x) :: lv.filter (fun q => !(q.1 == i) && (!(q.1 == i + 1) && !(q.1 + 1 == i && q.2.category == 2))) = lv') (k : zk_Z p l e R s m args below meth c Q A D cl nL cells slots ws lv' st (pc + 1)) : zk_Z p l e R s m args below meth c Q A D cl nL cells slots ws lv (Value.long x :: st) pc :=
  fun H locs ls hP hD hS hl0 => lv_lstore_n X.1.1 X.1.2.1 hdg hi hl0 hn hl (fun ls' h => k H locs ls' hP hD hS h)
theorem zk_lstore (X : zk_X p s m args c cc nL own Ts D cl tys A)  {i : Nat} {x : Int64} {lv' : List (Nat × Value)} (hdg : decode cc pc = .ok (.lstore i, 2))  (hn : i + 1 < nL) (hl : (i, Value.long x) :: lv.filter (fun q => !(q.1 == i) && (!(q.1 == i + 1) && !(q.1 + 1 == i && q.2.category == 2))) = lv') (k : zk_Z p l e R s m args below meth c Q A D cl nL cells slots ws lv' st (pc + 2)) : zk_Z p l e R s m args below meth c Q A D cl nL cells slots ws lv (Value.long x :: st) pc :=
  fun H locs ls hP hD hS hl0 => lv_lstore X.1.1 X.1.2.1 hdg  hl0 hn hl (fun ls' h => k H locs ls' hP hD hS h)
theorem zk_astore_n (X : zk_X p s m args c cc nL own Ts D cl tys A) {k0 : Fin 4} {i : Nat} {x : Nat} {lv' : List (Nat × Value)} (hdg : decode cc pc = .ok (.astore_n k0, 1)) (hi : (k0 : Nat) = i) (hn : i < nL) (hl : (i, Value.ref x) :: lv.filter (fun q => !(q.1 == i) && !(q.1 + 1 == i && q.2.category == 2)) = lv') (k : zk_Z p l e R s m args below meth c Q A D cl nL cells slots ws lv' st (pc + 1)) : zk_Z p l e R s m args below meth c Q A D cl nL cells slots ws lv (Value.ref x :: st) pc :=
  fun H locs ls hP hD hS hl0 => lv_astore_n X.1.1 X.1.2.1 hdg hi hl0 hn hl (fun ls' h => k H locs ls' hP hD hS h)
theorem zk_astore (X : zk_X p s m args c cc nL own Ts D cl tys A)  {i : Nat} {x : Nat} {lv' : List (Nat × Value)} (hdg : decode cc pc = .ok (.astore i, 2))  (hn : i < nL) (hl : (i, Value.ref x) :: lv.filter (fun q => !(q.1 == i) && !(q.1 + 1 == i && q.2.category == 2)) = lv') (k : zk_Z p l e R s m args below meth c Q A D cl nL cells slots ws lv' st (pc + 2)) : zk_Z p l e R s m args below meth c Q A D cl nL cells slots ws lv (Value.ref x :: st) pc :=
  fun H locs ls hP hD hS hl0 => lv_astore X.1.1 X.1.2.1 hdg  hl0 hn hl (fun ls' h => k H locs ls' hP hD hS h)
theorem zk_astore_nN (X : zk_X p s m args c cc nL own Ts D cl tys A) {k0 : Fin 4} {i : Nat} {lv' : List (Nat × Value)} (hdg : decode cc pc = .ok (.astore_n k0, 1)) (hi : (k0 : Nat) = i) (hn : i < nL) (hl : (i, Value.null) :: lv.filter (fun q => !(q.1 == i) && !(q.1 + 1 == i && q.2.category == 2)) = lv') (k : zk_Z p l e R s m args below meth c Q A D cl nL cells slots ws lv' st (pc + 1)) : zk_Z p l e R s m args below meth c Q A D cl nL cells slots ws lv (.null :: st) pc :=
  fun H locs ls hP hD hS hl0 => lv_astore_nN X.1.1 X.1.2.1 hdg hi hl0 hn hl (fun ls' h => k H locs ls' hP hD hS h)
theorem zk_top {v v' : Value} (h : v = v') (k : zk_Z p l e R s m args below meth c Q A D cl nL cells slots ws lv (v' :: st) pc) : zk_Z p l e R s m args below meth c Q A D cl nL cells slots ws lv (v :: st) pc := by subst h; exact k
theorem zk_iinc (X : zk_X p s m args c cc nL own Ts D cl tys A) {i k0 : Nat} {n : Int} {x v : Int32} {lv' : List (Nat × Value)} (hdg : decode cc pc = .ok (.iinc i n, 3)) (hk : lv[k0]? = some (i, .int x)) (hv : x + Int32.ofInt n = v) (hn : i < nL) (hl : (i, Value.int v) :: lv.filter (fun q => !(q.1 == i) && !(q.1 + 1 == i && q.2.category == 2)) = lv') (k : zk_Z p l e R s m args below meth c Q A D cl nL cells slots ws lv' st (pc + 3)) : zk_Z p l e R s m args below meth c Q A D cl nL cells slots ws lv st pc :=
  fun H locs ls hP hD hS hl0 => lv_iinc X.1.1 X.1.2.1 hdg hl0 hk hv hn hl (fun ls' h => k H locs ls' hP hD hS h)
theorem zk_goto (X : zk_X p s m args c cc nL own Ts D cl tys A) {off : Int} {tgt : Nat} (hdg : decode cc pc = .ok (.goto off, 3)) (ht : (pc : Int) + off = (tgt : Int)) (k : zk_Z p l e R s m args below meth c Q A D cl nL cells slots ws lv st tgt) : zk_Z p l e R s m args below meth c Q A D cl nL cells slots ws lv st pc :=
  fun H locs ls hP hD hS hl => lv_goto X.1.1 X.1.2.1 hdg ht (k H locs ls hP hD hS hl)
theorem zk_if_eq (X : zk_X p s m args c cc nL own Ts D cl tys A) {x : Int32} {off : Int} {tgt : Nat} (hdg : decode cc pc = .ok (.ifCond .eq off, 3)) (ht : (pc : Int) + off = (tgt : Int)) (kt : x = 0 → zk_Z p l e R s m args below meth c Q A D cl nL cells slots ws lv st tgt) (kf : ¬ x = 0 → zk_Z p l e R s m args below meth c Q A D cl nL cells slots ws lv st (pc + 3)) : zk_Z p l e R s m args below meth c Q A D cl nL cells slots ws lv (.int x :: st) pc :=
  fun H locs ls hP hD hS hl => lv_if_eq X.1.1 X.1.2.1 hdg ht (fun h => kt h H locs ls hP hD hS hl) (fun h => kf h H locs ls hP hD hS hl)
theorem zk_icmp_eq (X : zk_X p s m args c cc nL own Ts D cl tys A) {x y : Int32} {off : Int} {tgt : Nat} (hdg : decode cc pc = .ok (.if_icmp .eq off, 3)) (ht : (pc : Int) + off = (tgt : Int)) (kt : x = y → zk_Z p l e R s m args below meth c Q A D cl nL cells slots ws lv st tgt) (kf : ¬ x = y → zk_Z p l e R s m args below meth c Q A D cl nL cells slots ws lv st (pc + 3)) : zk_Z p l e R s m args below meth c Q A D cl nL cells slots ws lv (.int y :: .int x :: st) pc :=
  fun H locs ls hP hD hS hl => lv_icmp_eq X.1.1 X.1.2.1 hdg ht (fun h => kt h H locs ls hP hD hS hl) (fun h => kf h H locs ls hP hD hS hl)
theorem zk_icmpN_eq (X : zk_X p s m args c cc nL own Ts D cl tys A) {x y : Int32} {off : Int} {tgt : Nat} (a b : Nat) (hx : x = nI a) (hy : y = nI b) (ha : a < 2 ^ 31) (hb : b < 2 ^ 31) (hdg : decode cc pc = .ok (.if_icmp .eq off, 3)) (ht : (pc : Int) + off = (tgt : Int)) (kt : a = b → zk_Z p l e R s m args below meth c Q A D cl nL cells slots ws lv st tgt) (kf : ¬ a = b → zk_Z p l e R s m args below meth c Q A D cl nL cells slots ws lv st (pc + 3)) : zk_Z p l e R s m args below meth c Q A D cl nL cells slots ws lv (.int y :: .int x :: st) pc := by
  subst hx; subst hy
  exact zk_icmp_eq X hdg ht (fun h => kt ((nI_eq ha hb).mp h)) (fun h => kf (fun g => h ((nI_eq ha hb).mpr g)))
theorem zk_ifN_eq (X : zk_X p s m args c cc nL own Ts D cl tys A) {x : Int32} {off : Int} {tgt : Nat} (a : Nat) (hx : x = nI a) (ha : a < 2 ^ 31) (hdg : decode cc pc = .ok (.ifCond .eq off, 3)) (ht : (pc : Int) + off = (tgt : Int)) (kt : a = 0 → zk_Z p l e R s m args below meth c Q A D cl nL cells slots ws lv st tgt) (kf : ¬ a = 0 → zk_Z p l e R s m args below meth c Q A D cl nL cells slots ws lv st (pc + 3)) : zk_Z p l e R s m args below meth c Q A D cl nL cells slots ws lv (.int x :: st) pc := by
  subst hx
  exact zk_if_eq X hdg ht (fun h => kt ((nI_eq (b := 0) ha (by decide)).mp h)) (fun h => kf (fun g => h ((nI_eq (b := 0) ha (by decide)).mpr g)))
theorem zk_if_ne (X : zk_X p s m args c cc nL own Ts D cl tys A) {x : Int32} {off : Int} {tgt : Nat} (hdg : decode cc pc = .ok (.ifCond .ne off, 3)) (ht : (pc : Int) + off = (tgt : Int)) (kt : ¬ x = 0 → zk_Z p l e R s m args below meth c Q A D cl nL cells slots ws lv st tgt) (kf : x = 0 → zk_Z p l e R s m args below meth c Q A D cl nL cells slots ws lv st (pc + 3)) : zk_Z p l e R s m args below meth c Q A D cl nL cells slots ws lv (.int x :: st) pc :=
  fun H locs ls hP hD hS hl => lv_if_ne X.1.1 X.1.2.1 hdg ht (fun h => kt h H locs ls hP hD hS hl) (fun h => kf h H locs ls hP hD hS hl)
theorem zk_icmp_ne (X : zk_X p s m args c cc nL own Ts D cl tys A) {x y : Int32} {off : Int} {tgt : Nat} (hdg : decode cc pc = .ok (.if_icmp .ne off, 3)) (ht : (pc : Int) + off = (tgt : Int)) (kt : ¬ x = y → zk_Z p l e R s m args below meth c Q A D cl nL cells slots ws lv st tgt) (kf : x = y → zk_Z p l e R s m args below meth c Q A D cl nL cells slots ws lv st (pc + 3)) : zk_Z p l e R s m args below meth c Q A D cl nL cells slots ws lv (.int y :: .int x :: st) pc :=
  fun H locs ls hP hD hS hl => lv_icmp_ne X.1.1 X.1.2.1 hdg ht (fun h => kt h H locs ls hP hD hS hl) (fun h => kf h H locs ls hP hD hS hl)
theorem zk_icmpN_ne (X : zk_X p s m args c cc nL own Ts D cl tys A) {x y : Int32} {off : Int} {tgt : Nat} (a b : Nat) (hx : x = nI a) (hy : y = nI b) (ha : a < 2 ^ 31) (hb : b < 2 ^ 31) (hdg : decode cc pc = .ok (.if_icmp .ne off, 3)) (ht : (pc : Int) + off = (tgt : Int)) (kt : ¬ a = b → zk_Z p l e R s m args below meth c Q A D cl nL cells slots ws lv st tgt) (kf : a = b → zk_Z p l e R s m args below meth c Q A D cl nL cells slots ws lv st (pc + 3)) : zk_Z p l e R s m args below meth c Q A D cl nL cells slots ws lv (.int y :: .int x :: st) pc := by
  subst hx; subst hy
  exact zk_icmp_ne X hdg ht (fun h => kt (fun g => h ((nI_eq ha hb).mpr g))) (fun h => kf ((nI_eq ha hb).mp h))
theorem zk_ifN_ne (X : zk_X p s m args c cc nL own Ts D cl tys A) {x : Int32} {off : Int} {tgt : Nat} (a : Nat) (hx : x = nI a) (ha : a < 2 ^ 31) (hdg : decode cc pc = .ok (.ifCond .ne off, 3)) (ht : (pc : Int) + off = (tgt : Int)) (kt : ¬ a = 0 → zk_Z p l e R s m args below meth c Q A D cl nL cells slots ws lv st tgt) (kf : a = 0 → zk_Z p l e R s m args below meth c Q A D cl nL cells slots ws lv st (pc + 3)) : zk_Z p l e R s m args below meth c Q A D cl nL cells slots ws lv (.int x :: st) pc := by
  subst hx
  exact zk_if_ne X hdg ht (fun h => kt (fun g => h ((nI_eq (b := 0) ha (by decide)).mpr g))) (fun h => kf ((nI_eq (b := 0) ha (by decide)).mp h))
theorem zk_if_lt (X : zk_X p s m args c cc nL own Ts D cl tys A) {x : Int32} {off : Int} {tgt : Nat} (hdg : decode cc pc = .ok (.ifCond .lt off, 3)) (ht : (pc : Int) + off = (tgt : Int)) (kt : x < 0 → zk_Z p l e R s m args below meth c Q A D cl nL cells slots ws lv st tgt) (kf : ¬ x < 0 → zk_Z p l e R s m args below meth c Q A D cl nL cells slots ws lv st (pc + 3)) : zk_Z p l e R s m args below meth c Q A D cl nL cells slots ws lv (.int x :: st) pc :=
  fun H locs ls hP hD hS hl => lv_if_lt X.1.1 X.1.2.1 hdg ht (fun h => kt h H locs ls hP hD hS hl) (fun h => kf h H locs ls hP hD hS hl)
theorem zk_icmp_lt (X : zk_X p s m args c cc nL own Ts D cl tys A) {x y : Int32} {off : Int} {tgt : Nat} (hdg : decode cc pc = .ok (.if_icmp .lt off, 3)) (ht : (pc : Int) + off = (tgt : Int)) (kt : x < y → zk_Z p l e R s m args below meth c Q A D cl nL cells slots ws lv st tgt) (kf : ¬ x < y → zk_Z p l e R s m args below meth c Q A D cl nL cells slots ws lv st (pc + 3)) : zk_Z p l e R s m args below meth c Q A D cl nL cells slots ws lv (.int y :: .int x :: st) pc :=
  fun H locs ls hP hD hS hl => lv_icmp_lt X.1.1 X.1.2.1 hdg ht (fun h => kt h H locs ls hP hD hS hl) (fun h => kf h H locs ls hP hD hS hl)
theorem zk_icmpN_lt (X : zk_X p s m args c cc nL own Ts D cl tys A) {x y : Int32} {off : Int} {tgt : Nat} (a b : Nat) (hx : x = nI a) (hy : y = nI b) (ha : a < 2 ^ 31) (hb : b < 2 ^ 31) (hdg : decode cc pc = .ok (.if_icmp .lt off, 3)) (ht : (pc : Int) + off = (tgt : Int)) (kt : a < b → zk_Z p l e R s m args below meth c Q A D cl nL cells slots ws lv st tgt) (kf : ¬ a < b → zk_Z p l e R s m args below meth c Q A D cl nL cells slots ws lv st (pc + 3)) : zk_Z p l e R s m args below meth c Q A D cl nL cells slots ws lv (.int y :: .int x :: st) pc := by
  subst hx; subst hy
  exact zk_icmp_lt X hdg ht (fun h => kt ((nI_ltI ha hb).mp h)) (fun h => kf (fun g => h ((nI_ltI ha hb).mpr g)))
theorem zk_ifN_lt (X : zk_X p s m args c cc nL own Ts D cl tys A) {x : Int32} {off : Int} {tgt : Nat} (a : Nat) (hx : x = nI a) (ha : a < 2 ^ 31) (hdg : decode cc pc = .ok (.ifCond .lt off, 3)) (ht : (pc : Int) + off = (tgt : Int)) (kt : a < 0 → zk_Z p l e R s m args below meth c Q A D cl nL cells slots ws lv st tgt) (kf : ¬ a < 0 → zk_Z p l e R s m args below meth c Q A D cl nL cells slots ws lv st (pc + 3)) : zk_Z p l e R s m args below meth c Q A D cl nL cells slots ws lv (.int x :: st) pc := by
  subst hx
  exact zk_if_lt X hdg ht (fun h => kt ((nI_ltI (b := 0) ha (by decide)).mp h)) (fun h => kf (fun g => h ((nI_ltI (b := 0) ha (by decide)).mpr g)))
theorem zk_if_ge (X : zk_X p s m args c cc nL own Ts D cl tys A) {x : Int32} {off : Int} {tgt : Nat} (hdg : decode cc pc = .ok (.ifCond .ge off, 3)) (ht : (pc : Int) + off = (tgt : Int)) (kt : 0 ≤ x → zk_Z p l e R s m args below meth c Q A D cl nL cells slots ws lv st tgt) (kf : ¬ 0 ≤ x → zk_Z p l e R s m args below meth c Q A D cl nL cells slots ws lv st (pc + 3)) : zk_Z p l e R s m args below meth c Q A D cl nL cells slots ws lv (.int x :: st) pc :=
  fun H locs ls hP hD hS hl => lv_if_ge X.1.1 X.1.2.1 hdg ht (fun h => kt h H locs ls hP hD hS hl) (fun h => kf h H locs ls hP hD hS hl)
theorem zk_icmp_ge (X : zk_X p s m args c cc nL own Ts D cl tys A) {x y : Int32} {off : Int} {tgt : Nat} (hdg : decode cc pc = .ok (.if_icmp .ge off, 3)) (ht : (pc : Int) + off = (tgt : Int)) (kt : y ≤ x → zk_Z p l e R s m args below meth c Q A D cl nL cells slots ws lv st tgt) (kf : ¬ y ≤ x → zk_Z p l e R s m args below meth c Q A D cl nL cells slots ws lv st (pc + 3)) : zk_Z p l e R s m args below meth c Q A D cl nL cells slots ws lv (.int y :: .int x :: st) pc :=
  fun H locs ls hP hD hS hl => lv_icmp_ge X.1.1 X.1.2.1 hdg ht (fun h => kt h H locs ls hP hD hS hl) (fun h => kf h H locs ls hP hD hS hl)
theorem zk_icmpN_ge (X : zk_X p s m args c cc nL own Ts D cl tys A) {x y : Int32} {off : Int} {tgt : Nat} (a b : Nat) (hx : x = nI a) (hy : y = nI b) (ha : a < 2 ^ 31) (hb : b < 2 ^ 31) (hdg : decode cc pc = .ok (.if_icmp .ge off, 3)) (ht : (pc : Int) + off = (tgt : Int)) (kt : b ≤ a → zk_Z p l e R s m args below meth c Q A D cl nL cells slots ws lv st tgt) (kf : ¬ b ≤ a → zk_Z p l e R s m args below meth c Q A D cl nL cells slots ws lv st (pc + 3)) : zk_Z p l e R s m args below meth c Q A D cl nL cells slots ws lv (.int y :: .int x :: st) pc := by
  subst hx; subst hy
  exact zk_icmp_ge X hdg ht (fun h => kt ((nI_leI hb ha).mp h)) (fun h => kf (fun g => h ((nI_leI hb ha).mpr g)))
theorem zk_ifN_ge (X : zk_X p s m args c cc nL own Ts D cl tys A) {x : Int32} {off : Int} {tgt : Nat} (a : Nat) (hx : x = nI a) (ha : a < 2 ^ 31) (hdg : decode cc pc = .ok (.ifCond .ge off, 3)) (ht : (pc : Int) + off = (tgt : Int)) (kt : 0 ≤ a → zk_Z p l e R s m args below meth c Q A D cl nL cells slots ws lv st tgt) (kf : ¬ 0 ≤ a → zk_Z p l e R s m args below meth c Q A D cl nL cells slots ws lv st (pc + 3)) : zk_Z p l e R s m args below meth c Q A D cl nL cells slots ws lv (.int x :: st) pc := by
  subst hx
  exact zk_if_ge X hdg ht (fun h => kt ((nI_leI (a := 0) (by decide) ha).mp h)) (fun h => kf (fun g => h ((nI_leI (a := 0) (by decide) ha).mpr g)))
theorem zk_if_gt (X : zk_X p s m args c cc nL own Ts D cl tys A) {x : Int32} {off : Int} {tgt : Nat} (hdg : decode cc pc = .ok (.ifCond .gt off, 3)) (ht : (pc : Int) + off = (tgt : Int)) (kt : 0 < x → zk_Z p l e R s m args below meth c Q A D cl nL cells slots ws lv st tgt) (kf : ¬ 0 < x → zk_Z p l e R s m args below meth c Q A D cl nL cells slots ws lv st (pc + 3)) : zk_Z p l e R s m args below meth c Q A D cl nL cells slots ws lv (.int x :: st) pc :=
  fun H locs ls hP hD hS hl => lv_if_gt X.1.1 X.1.2.1 hdg ht (fun h => kt h H locs ls hP hD hS hl) (fun h => kf h H locs ls hP hD hS hl)
theorem zk_icmp_gt (X : zk_X p s m args c cc nL own Ts D cl tys A) {x y : Int32} {off : Int} {tgt : Nat} (hdg : decode cc pc = .ok (.if_icmp .gt off, 3)) (ht : (pc : Int) + off = (tgt : Int)) (kt : y < x → zk_Z p l e R s m args below meth c Q A D cl nL cells slots ws lv st tgt) (kf : ¬ y < x → zk_Z p l e R s m args below meth c Q A D cl nL cells slots ws lv st (pc + 3)) : zk_Z p l e R s m args below meth c Q A D cl nL cells slots ws lv (.int y :: .int x :: st) pc :=
  fun H locs ls hP hD hS hl => lv_icmp_gt X.1.1 X.1.2.1 hdg ht (fun h => kt h H locs ls hP hD hS hl) (fun h => kf h H locs ls hP hD hS hl)
theorem zk_icmpN_gt (X : zk_X p s m args c cc nL own Ts D cl tys A) {x y : Int32} {off : Int} {tgt : Nat} (a b : Nat) (hx : x = nI a) (hy : y = nI b) (ha : a < 2 ^ 31) (hb : b < 2 ^ 31) (hdg : decode cc pc = .ok (.if_icmp .gt off, 3)) (ht : (pc : Int) + off = (tgt : Int)) (kt : b < a → zk_Z p l e R s m args below meth c Q A D cl nL cells slots ws lv st tgt) (kf : ¬ b < a → zk_Z p l e R s m args below meth c Q A D cl nL cells slots ws lv st (pc + 3)) : zk_Z p l e R s m args below meth c Q A D cl nL cells slots ws lv (.int y :: .int x :: st) pc := by
  subst hx; subst hy
  exact zk_icmp_gt X hdg ht (fun h => kt ((nI_ltI hb ha).mp h)) (fun h => kf (fun g => h ((nI_ltI hb ha).mpr g)))
theorem zk_ifN_gt (X : zk_X p s m args c cc nL own Ts D cl tys A) {x : Int32} {off : Int} {tgt : Nat} (a : Nat) (hx : x = nI a) (ha : a < 2 ^ 31) (hdg : decode cc pc = .ok (.ifCond .gt off, 3)) (ht : (pc : Int) + off = (tgt : Int)) (kt : 0 < a → zk_Z p l e R s m args below meth c Q A D cl nL cells slots ws lv st tgt) (kf : ¬ 0 < a → zk_Z p l e R s m args below meth c Q A D cl nL cells slots ws lv st (pc + 3)) : zk_Z p l e R s m args below meth c Q A D cl nL cells slots ws lv (.int x :: st) pc := by
  subst hx
  exact zk_if_gt X hdg ht (fun h => kt ((nI_ltI (a := 0) (by decide) ha).mp h)) (fun h => kf (fun g => h ((nI_ltI (a := 0) (by decide) ha).mpr g)))
theorem zk_if_le (X : zk_X p s m args c cc nL own Ts D cl tys A) {x : Int32} {off : Int} {tgt : Nat} (hdg : decode cc pc = .ok (.ifCond .le off, 3)) (ht : (pc : Int) + off = (tgt : Int)) (kt : x ≤ 0 → zk_Z p l e R s m args below meth c Q A D cl nL cells slots ws lv st tgt) (kf : ¬ x ≤ 0 → zk_Z p l e R s m args below meth c Q A D cl nL cells slots ws lv st (pc + 3)) : zk_Z p l e R s m args below meth c Q A D cl nL cells slots ws lv (.int x :: st) pc :=
  fun H locs ls hP hD hS hl => lv_if_le X.1.1 X.1.2.1 hdg ht (fun h => kt h H locs ls hP hD hS hl) (fun h => kf h H locs ls hP hD hS hl)
theorem zk_icmp_le (X : zk_X p s m args c cc nL own Ts D cl tys A) {x y : Int32} {off : Int} {tgt : Nat} (hdg : decode cc pc = .ok (.if_icmp .le off, 3)) (ht : (pc : Int) + off = (tgt : Int)) (kt : x ≤ y → zk_Z p l e R s m args below meth c Q A D cl nL cells slots ws lv st tgt) (kf : ¬ x ≤ y → zk_Z p l e R s m args below meth c Q A D cl nL cells slots ws lv st (pc + 3)) : zk_Z p l e R s m args below meth c Q A D cl nL cells slots ws lv (.int y :: .int x :: st) pc :=
  fun H locs ls hP hD hS hl => lv_icmp_le X.1.1 X.1.2.1 hdg ht (fun h => kt h H locs ls hP hD hS hl) (fun h => kf h H locs ls hP hD hS hl)
theorem zk_icmpN_le (X : zk_X p s m args c cc nL own Ts D cl tys A) {x y : Int32} {off : Int} {tgt : Nat} (a b : Nat) (hx : x = nI a) (hy : y = nI b) (ha : a < 2 ^ 31) (hb : b < 2 ^ 31) (hdg : decode cc pc = .ok (.if_icmp .le off, 3)) (ht : (pc : Int) + off = (tgt : Int)) (kt : a ≤ b → zk_Z p l e R s m args below meth c Q A D cl nL cells slots ws lv st tgt) (kf : ¬ a ≤ b → zk_Z p l e R s m args below meth c Q A D cl nL cells slots ws lv st (pc + 3)) : zk_Z p l e R s m args below meth c Q A D cl nL cells slots ws lv (.int y :: .int x :: st) pc := by
  subst hx; subst hy
  exact zk_icmp_le X hdg ht (fun h => kt ((nI_leI ha hb).mp h)) (fun h => kf (fun g => h ((nI_leI ha hb).mpr g)))
theorem zk_ifN_le (X : zk_X p s m args c cc nL own Ts D cl tys A) {x : Int32} {off : Int} {tgt : Nat} (a : Nat) (hx : x = nI a) (ha : a < 2 ^ 31) (hdg : decode cc pc = .ok (.ifCond .le off, 3)) (ht : (pc : Int) + off = (tgt : Int)) (kt : a ≤ 0 → zk_Z p l e R s m args below meth c Q A D cl nL cells slots ws lv st tgt) (kf : ¬ a ≤ 0 → zk_Z p l e R s m args below meth c Q A D cl nL cells slots ws lv st (pc + 3)) : zk_Z p l e R s m args below meth c Q A D cl nL cells slots ws lv (.int x :: st) pc := by
  subst hx
  exact zk_if_le X hdg ht (fun h => kt ((nI_leI (b := 0) ha (by decide)).mp h)) (fun h => kf (fun g => h ((nI_leI (b := 0) ha (by decide)).mpr g)))
theorem zk_tableIn (X : zk_X p s m args c cc nL own Ts D cl tys A) {dflt lo hi : Int} {offs : Array Int} {len : Nat} {x : Int32} {off : Int} {tgt : Nat} (v : Int32) (hx : x = v) (hdg : decode cc pc = .ok (.tableswitch dflt lo hi offs, len)) (h1 : ¬ v.toInt < lo) (h2 : ¬ hi < v.toInt) (ho : offs[(v.toInt - lo).toNat]? = some off) (ht : (pc : Int) + off = (tgt : Int)) (k : zk_Z p l e R s m args below meth c Q A D cl nL cells slots ws lv st tgt) : zk_Z p l e R s m args below meth c Q A D cl nL cells slots ws lv (.int x :: st) pc := by
  subst hx; exact fun H locs ls hP hD hS hl => lv_tableIn X.1.1 X.1.2.1 hdg h1 h2 ho ht (k H locs ls hP hD hS hl)
theorem zk_tableOut (X : zk_X p s m args c cc nL own Ts D cl tys A) {dflt lo hi : Int} {offs : Array Int} {len : Nat} {x : Int32} {tgt : Nat} (hdg : decode cc pc = .ok (.tableswitch dflt lo hi offs, len)) (h : x.toInt < lo ∨ hi < x.toInt) (ht : (pc : Int) + dflt = (tgt : Int)) (k : zk_Z p l e R s m args below meth c Q A D cl nL cells slots ws lv st tgt) : zk_Z p l e R s m args below meth c Q A D cl nL cells slots ws lv (.int x :: st) pc :=
  fun H locs ls hP hD hS hl => lv_tableOut X.1.1 X.1.2.1 hdg h ht (k H locs ls hP hD hS hl)
theorem zk_lookup (X : zk_X p s m args c cc nL own Ts D cl tys A) {dflt : Int} {ps : Array (Int × Int)} {len : Nat} {x : Int32} {off : Int} {tgt : Nat} (hdg : decode cc pc = .ok (.lookupswitch dflt ps, len)) (hp : (ps.toList.zip (ps.toList.drop 1)).all (fun (a, next) => a.1 < next.1) = true) (ho : Op.lookupswitch.offset ps.toList dflt x.toInt = off) (ht : (pc : Int) + off = (tgt : Int)) (k : zk_Z p l e R s m args below meth c Q A D cl nL cells slots ws lv st tgt) : zk_Z p l e R s m args below meth c Q A D cl nL cells slots ws lv (.int x :: st) pc :=
  fun H locs ls hP hD hS hl => lv_lookup X.1.1 X.1.2.1 hdg hp ho ht (k H locs ls hP hD hS hl)
theorem zk_get (X : zk_X p s m args c cc nL own Ts D cl tys A) {C : String} {T : u_T} {N ci index a : Nat} {fs : List Value} {v : Value} (hin : ∀ w ∈ u_ws C T N, w ∈ Ts) (q0 : Nat) (he : ws[q0]? = some (a, .inr (ci, fs))) (hc : cl[ci]? = some (C, T, N)) (k0 : Nat) (hk : k0 < N) (hlink : Cond.fieldLink own index (T k0).1 (T k0).2.1 (T k0).2.2.1 ∈ Ts) (hv : fs[k0]? = some v) (hdg : decode cc pc = .ok (.getfield index, 3)) (k : zk_Z p l e R s m args below meth c Q A D cl nL cells slots ws lv (v :: st) (pc + 3)) : zk_Z p l e R s m args below meth c Q A D cl nL cells slots ws lv (.ref a :: st) pc :=
  fun H locs ls hP hD hS hl => va_get X.1.1 X.1.2.1 X.1.2.2.2.2 hin X.1.2.2.2.1 X.2.1 hP q0 he hc k0 hk (X.1.2.2.2.2 _ hlink) (fun _ h => h) hv hdg (k H locs ls hP hD hS hl)
theorem zk_put (X : zk_X p s m args c cc nL own Ts D cl tys A) {C : String} {T : u_T} {N ci index a : Nat} {fs : List Value} {v : Value} {ty : FieldType} {ws' : va_W} (hin : ∀ w ∈ u_ws C T N, w ∈ Ts) {ty0 : Nat → FieldType} (hty : ∀ k, k < N → parseFieldDescriptor (T k).2.2.1 = some (ty0 k)) (hnm : ∀ a, a < N → ∀ b, b < N → a ≠ b → (T a).2.1 ≠ (T b).2.1) (q0 : Nat) (he : ws[q0]? = some (a, .inr (ci, fs))) (hc : cl[ci]? = some (C, T, N)) (k0 : Nat) (hk : k0 < N) (hlink : Cond.fieldLink own index (T k0).1 (T k0).2.1 (T k0).2.2.1 ∈ Ts) (hfin : (T k0).2.2.2 = false) (hd : ty0 k0 = ty) (hn : narrow ty v = v) (hfit : fits ty v = true) (hl0 : k0 < fs.length) (hdg : decode cc pc = .ok (.putfield index, 3)) (hw : ws.set q0 (a, .inr (ci, fs.set k0 v)) = ws') (k : zk_Z p l e R s m args below meth c Q A D cl nL cells slots ws' lv st (pc + 3)) : zk_Z p l e R s m args below meth c Q A D cl nL cells slots ws lv (v :: .ref a :: st) pc := by
  subst hw; subst hd; exact fun H locs ls hP hD hS hl => va_put X.1.1 X.1.2.1 X.1.2.2.2.2 hin ty0 hty hnm X.1.2.2.2.1 X.2.1 hP hD hS q0 he hc k0 hk (X.1.2.2.2.2 _ hlink) (fun _ h => h) hfin (hty k0 hk) hn hfit hl0 hdg (fun H1 locs1 h1 h2 h3 => k H1 locs1 ls h1 h2 h3 hl)
theorem zk_iald (X : zk_X p s m args c cc nL own Ts D cl tys A) (q0 t0 : Nat) {a : Nat} {cA : ClassId} {n : Nat} {f : Nat → Int32} {i : Int32} (j : Nat) (ha : ws[q0]? = some (a, .inl (cA, n, .inl f))) (ht : tys[t0]? = some (cA, .int)) (hi : i = nI j) (hj : j < n) (hn : n < 2 ^ 31) (hdg : decode cc pc = .ok (.iaload, 1)) (k : zk_Z p l e R s m args below meth c Q A D cl nL cells slots ws lv (.int (f j) :: st) (pc + 1)) : zk_Z p l e R s m args below meth c Q A D cl nL cells slots ws lv (.int i :: .ref a :: st) pc := by
  subst hi; exact fun H locs ls hP hD hS hl => va_iald X.1.1 X.1.2.1 X.2.1 hP q0 t0 ha ht (vp_in_nI hj hn) hdg (by rw [nI_clamp (Nat.lt_trans hj hn)]; exact k H locs ls hP hD hS hl)
theorem zk_iast (X : zk_X p s m args c cc nL own Ts D cl tys A) (q0 t0 : Nat) {a : Nat} {cA : ClassId} {n : Nat} {f : Nat → Int32} {i : Int32} {x : Int32} {ws' : va_W} (j : Nat) (ha : ws[q0]? = some (a, .inl (cA, n, .inl f))) (ht : tys[t0]? = some (cA, .int)) (hi : i = nI j) (hj : j < n) (hn : n < 2 ^ 31) (hdg : decode cc pc = .ok (.iastore, 1)) (hw : ws.set q0 (a, .inl (cA, n, .inl (upd f j x))) = ws') (k : zk_Z p l e R s m args below meth c Q A D cl nL cells slots ws' lv st (pc + 1)) : zk_Z p l e R s m args below meth c Q A D cl nL cells slots ws lv (.int x :: .int i :: .ref a :: st) pc := by
  subst hi; subst hw; exact fun H locs ls hP hD hS hl => va_iast X.1.1 X.1.2.1 X.2.1 hP hD hS q0 t0 ha ht (vp_in_nI hj hn) hdg (fun H1 locs1 h1 h2 h3 => by rw [nI_clamp (Nat.lt_trans hj hn)] at h1 h2; exact k H1 locs1 ls h1 h2 h3 hl)
theorem zk_lald (X : zk_X p s m args c cc nL own Ts D cl tys A) (q0 t0 : Nat) {a : Nat} {cA : ClassId} {n : Nat} {f : Nat → Int64} {i : Int32} (j : Nat) (ha : ws[q0]? = some (a, .inl (cA, n, .inr (.inl f)))) (ht : tys[t0]? = some (cA, .long)) (hi : i = nI j) (hj : j < n) (hn : n < 2 ^ 31) (hdg : decode cc pc = .ok (.laload, 1)) (k : zk_Z p l e R s m args below meth c Q A D cl nL cells slots ws lv (.long (f j) :: st) (pc + 1)) : zk_Z p l e R s m args below meth c Q A D cl nL cells slots ws lv (.int i :: .ref a :: st) pc := by
  subst hi; exact fun H locs ls hP hD hS hl => va_lald X.1.1 X.1.2.1 X.2.1 hP q0 t0 ha ht (vp_in_nI hj hn) hdg (by rw [nI_clamp (Nat.lt_trans hj hn)]; exact k H locs ls hP hD hS hl)
theorem zk_last (X : zk_X p s m args c cc nL own Ts D cl tys A) (q0 t0 : Nat) {a : Nat} {cA : ClassId} {n : Nat} {f : Nat → Int64} {i : Int32} {x : Int64} {ws' : va_W} (j : Nat) (ha : ws[q0]? = some (a, .inl (cA, n, .inr (.inl f)))) (ht : tys[t0]? = some (cA, .long)) (hi : i = nI j) (hj : j < n) (hn : n < 2 ^ 31) (hdg : decode cc pc = .ok (.lastore, 1)) (hw : ws.set q0 (a, .inl (cA, n, .inr (.inl (vp_updL f j x)))) = ws') (k : zk_Z p l e R s m args below meth c Q A D cl nL cells slots ws' lv st (pc + 1)) : zk_Z p l e R s m args below meth c Q A D cl nL cells slots ws lv (.long x :: .int i :: .ref a :: st) pc := by
  subst hi; subst hw; exact fun H locs ls hP hD hS hl => va_last X.1.1 X.1.2.1 X.2.1 hP hD hS q0 t0 ha ht (vp_in_nI hj hn) hdg (fun H1 locs1 h1 h2 h3 => by rw [nI_clamp (Nat.lt_trans hj hn)] at h1 h2; exact k H1 locs1 ls h1 h2 h3 hl)
theorem zk_alen (X : zk_X p s m args c cc nL own Ts D cl tys A) (q0 t0 : Nat) {a : Nat} {cA : ClassId} {x : vp_A} {ty : FieldType} {v : Int32} (ha : ws[q0]? = some (a, .inl (cA, x))) (ht : tys[t0]? = some (cA, ty)) (hv : Int32.ofNat x.1 = v) (hdg : decode cc pc = .ok (.arraylength, 1)) (k : zk_Z p l e R s m args below meth c Q A D cl nL cells slots ws lv (.int v :: st) (pc + 1)) : zk_Z p l e R s m args below meth c Q A D cl nL cells slots ws lv (.ref a :: st) pc :=
  fun H locs ls hP hD hS hl => va_alen X.1.1 X.1.2.1 X.2.1 hP q0 t0 ha ht hv hdg (k H locs ls hP hD hS hl)
theorem zk_copy (X : zk_X p s m args c cc nL own Ts D cl tys A) {ws' : va_W} {index : Nat} {a : Nat} {cA : ClassId} {N : Nat} {f : Nat → Int32} {x y z : Int32} (hlink : Cond.methodLink own index arraycopyName ∈ Ts) (hnat : Cond.native arraycopyName ∈ Ts) (hstat : Cond.static arraycopyName ∈ Ts) (hini : Cond.initialized "java/lang/System" ∈ Ts) (q0 t0 sp dp n : Nat) (ha : ws[q0]? = some (a, .inl (cA, N, .inl f))) (ht : tys[t0]? = some (cA, .int)) (hx : x = nI sp) (hy : y = nI dp) (hz : z = nI n) (h1 : sp + n ≤ N) (h2 : dp + n ≤ N) (hN : N < 2 ^ 31) (hfr : 1 ≤ R.frames) (hlo : (st.map fun v => v.category).sum + 18 ≤ R.locals) (hdg : decode cc pc = .ok (.invokestatic index, 3)) (hw : ws.set q0 (a, .inl (cA, N, .inl (va_cpy f f sp dp n))) = ws') (k : zk_Z p l e R s m args below meth c Q A D cl nL cells slots ws' lv st (pc + 3)) : zk_Z p l e R s m args below meth c Q A D cl nL cells slots ws lv (.int z :: .int y :: .ref a :: .int x :: .ref a :: st) pc := by
  subst hx; subst hy; subst hz; subst hw
  have e1 : (nI sp).toNatClampNeg = sp := nI_clamp (by omega)
  have e2 : (nI dp).toNatClampNeg = dp := nI_clamp (by omega)
  have e3 : (nI n).toNatClampNeg = n := nI_clamp (by omega)
  exact fun H locs ls hP hD hS hl => va_copyi X.1.1 X.1.2.1 (X.1.2.2.1.trans hl.1.symm) X.1.2.2.2.1 (X.1.2.2.2.2 _ hlink) (X.1.2.2.2.2 _ hnat) (X.1.2.2.2.2 _ hstat) (X.1.2.2.2.2 _ hini) X.2.1 hP hD hS q0 q0 t0 t0 ha ha ht ht rfl (nI_pos (by omega)) (nI_pos (by omega)) (nI_pos (by omega)) (by rw [e1, e3]; exact h1) (by rw [e2, e3]; exact h2) (fun _ _ => rfl) hfr hlo hdg (fun H1 locs1 g1 g2 g3 => by rw [e1, e2, e3] at g1 g2; exact k H1 locs1 ls g1 g2 g3 hl)
theorem zk_ifnonnull (X : zk_X p s m args c cc nL own Ts D cl tys A) {x : Nat} {off : Int} {tgt : Nat} (hdg : decode cc pc = .ok (.ifnonnull off, 3)) (ht : (pc : Int) + off = (tgt : Int)) (k : zk_Z p l e R s m args below meth c Q A D cl nL cells slots ws lv st tgt) : zk_Z p l e R s m args below meth c Q A D cl nL cells slots ws lv (.ref x :: st) pc :=
  fun H locs ls hP hD hS hl => lv_ifnonnull X.1.1 X.1.2.1 hdg ht (k H locs ls hP hD hS hl)
theorem zk_ifnull (X : zk_X p s m args c cc nL own Ts D cl tys A) {x : Nat} {off : Int} (hdg : decode cc pc = .ok (.ifnull off, 3)) (k : zk_Z p l e R s m args below meth c Q A D cl nL cells slots ws lv st (pc + 3)) : zk_Z p l e R s m args below meth c Q A D cl nL cells slots ws lv (.ref x :: st) pc :=
  fun H locs ls hP hD hS hl => lv_ifnull X.1.1 X.1.2.1 hdg (k H locs ls hP hD hS hl)
theorem zk_ifnullN (X : zk_X p s m args c cc nL own Ts D cl tys A) {off : Int} {tgt : Nat} (hdg : decode cc pc = .ok (.ifnull off, 3)) (ht : (pc : Int) + off = (tgt : Int)) (k : zk_Z p l e R s m args below meth c Q A D cl nL cells slots ws lv st tgt) : zk_Z p l e R s m args below meth c Q A D cl nL cells slots ws lv (.null :: st) pc :=
  fun H locs ls hP hD hS hl => lv_ifnullN X.1.1 X.1.2.1 hdg ht (k H locs ls hP hD hS hl)
theorem zk_ifnonnullN (X : zk_X p s m args c cc nL own Ts D cl tys A) {off : Int} (hdg : decode cc pc = .ok (.ifnonnull off, 3)) (k : zk_Z p l e R s m args below meth c Q A D cl nL cells slots ws lv st (pc + 3)) : zk_Z p l e R s m args below meth c Q A D cl nL cells slots ws lv (.null :: st) pc :=
  fun H locs ls hP hD hS hl => lv_ifnonnullN X.1.1 X.1.2.1 hdg (k H locs ls hP hD hS hl)
theorem zk_lc_eq (X : zk_X p s m args c cc nL own Ts D cl tys A) {x y : Int64} {off : Int} {tgt : Nat} (hdg : decode cc pc = .ok (.lcmp, 1)) (hdg2 : decode cc (pc + 1) = .ok (.ifCond .eq off, 3)) (ht : ((pc + 1 : Nat) : Int) + off = (tgt : Int)) (kt : x = y → zk_Z p l e R s m args below meth c Q A D cl nL cells slots ws lv st tgt) (kf : ¬ x = y → zk_Z p l e R s m args below meth c Q A D cl nL cells slots ws lv st (pc + 1 + 3)) : zk_Z p l e R s m args below meth c Q A D cl nL cells slots ws lv (.long y :: .long x :: st) pc :=
  zk_lcmp X hdg rfl (zk_if_eq X hdg2 ht (fun h => kt ((lg_cmp_eq x y).mp h)) (fun h => kf (fun g => h ((lg_cmp_eq x y).mpr g))))
theorem zk_lc_ne (X : zk_X p s m args c cc nL own Ts D cl tys A) {x y : Int64} {off : Int} {tgt : Nat} (hdg : decode cc pc = .ok (.lcmp, 1)) (hdg2 : decode cc (pc + 1) = .ok (.ifCond .ne off, 3)) (ht : ((pc + 1 : Nat) : Int) + off = (tgt : Int)) (kt : ¬ x = y → zk_Z p l e R s m args below meth c Q A D cl nL cells slots ws lv st tgt) (kf : x = y → zk_Z p l e R s m args below meth c Q A D cl nL cells slots ws lv st (pc + 1 + 3)) : zk_Z p l e R s m args below meth c Q A D cl nL cells slots ws lv (.long y :: .long x :: st) pc :=
  zk_lcmp X hdg rfl (zk_if_ne X hdg2 ht (fun h => kt (fun g => h ((lg_cmp_eq x y).mpr g))) (fun h => kf ((lg_cmp_eq x y).mp h)))
theorem zk_lc_lt (X : zk_X p s m args c cc nL own Ts D cl tys A) {x y : Int64} {off : Int} {tgt : Nat} (hdg : decode cc pc = .ok (.lcmp, 1)) (hdg2 : decode cc (pc + 1) = .ok (.ifCond .lt off, 3)) (ht : ((pc + 1 : Nat) : Int) + off = (tgt : Int)) (kt : x < y → zk_Z p l e R s m args below meth c Q A D cl nL cells slots ws lv st tgt) (kf : ¬ x < y → zk_Z p l e R s m args below meth c Q A D cl nL cells slots ws lv st (pc + 1 + 3)) : zk_Z p l e R s m args below meth c Q A D cl nL cells slots ws lv (.long y :: .long x :: st) pc :=
  zk_lcmp X hdg rfl (zk_if_lt X hdg2 ht (fun h => kt ((lg_cmp_lt x y).mp h)) (fun h => kf (fun g => h ((lg_cmp_lt x y).mpr g))))
theorem zk_lc_ge (X : zk_X p s m args c cc nL own Ts D cl tys A) {x y : Int64} {off : Int} {tgt : Nat} (hdg : decode cc pc = .ok (.lcmp, 1)) (hdg2 : decode cc (pc + 1) = .ok (.ifCond .ge off, 3)) (ht : ((pc + 1 : Nat) : Int) + off = (tgt : Int)) (kt : y ≤ x → zk_Z p l e R s m args below meth c Q A D cl nL cells slots ws lv st tgt) (kf : ¬ y ≤ x → zk_Z p l e R s m args below meth c Q A D cl nL cells slots ws lv st (pc + 1 + 3)) : zk_Z p l e R s m args below meth c Q A D cl nL cells slots ws lv (.long y :: .long x :: st) pc :=
  zk_lcmp X hdg rfl (zk_if_ge X hdg2 ht (fun h => kt ((lg_cmp_ge x y).mp h)) (fun h => kf (fun g => h ((lg_cmp_ge x y).mpr g))))
theorem zk_lc_gt (X : zk_X p s m args c cc nL own Ts D cl tys A) {x y : Int64} {off : Int} {tgt : Nat} (hdg : decode cc pc = .ok (.lcmp, 1)) (hdg2 : decode cc (pc + 1) = .ok (.ifCond .gt off, 3)) (ht : ((pc + 1 : Nat) : Int) + off = (tgt : Int)) (kt : y < x → zk_Z p l e R s m args below meth c Q A D cl nL cells slots ws lv st tgt) (kf : ¬ y < x → zk_Z p l e R s m args below meth c Q A D cl nL cells slots ws lv st (pc + 1 + 3)) : zk_Z p l e R s m args below meth c Q A D cl nL cells slots ws lv (.long y :: .long x :: st) pc :=
  zk_lcmp X hdg rfl (zk_if_gt X hdg2 ht (fun h => kt ((lg_cmp_gt x y).mp h)) (fun h => kf (fun g => h ((lg_cmp_gt x y).mpr g))))
theorem zk_lc_le (X : zk_X p s m args c cc nL own Ts D cl tys A) {x y : Int64} {off : Int} {tgt : Nat} (hdg : decode cc pc = .ok (.lcmp, 1)) (hdg2 : decode cc (pc + 1) = .ok (.ifCond .le off, 3)) (ht : ((pc + 1 : Nat) : Int) + off = (tgt : Int)) (kt : x ≤ y → zk_Z p l e R s m args below meth c Q A D cl nL cells slots ws lv st tgt) (kf : ¬ x ≤ y → zk_Z p l e R s m args below meth c Q A D cl nL cells slots ws lv st (pc + 1 + 3)) : zk_Z p l e R s m args below meth c Q A D cl nL cells slots ws lv (.long y :: .long x :: st) pc :=
  zk_lcmp X hdg rfl (zk_if_le X hdg2 ht (fun h => kt ((lg_cmp_le x y).mp h)) (fun h => kf (fun g => h ((lg_cmp_le x y).mpr g))))
theorem zk_topi {x y : Int32} (h : x = y) (k : zk_Z p l e R s m args below meth c Q A D cl nL cells slots ws lv (.int y :: st) pc) : zk_Z p l e R s m args below meth c Q A D cl nL cells slots ws lv (.int x :: st) pc := by subst h; exact k
theorem zk_ws {ws' : va_W} (h : ws = ws') (k : zk_Z p l e R s m args below meth c Q A D cl nL cells slots ws' lv st pc) : zk_Z p l e R s m args below meth c Q A D cl nL cells slots ws lv st pc := by subst h; exact k
theorem zk_perm {ws' : va_W} (is : List Nat) (hs : is.map (fun i => ws[i]?) = ws'.map some) (hn : va_nd is = true) (k : zk_Z p l e R s m args below meth c Q A D cl nL cells slots ws' lv st pc) : zk_Z p l e R s m args below meth c Q A D cl nL cells slots ws lv st pc :=
  fun H locs ls hP hD hS hl => k H locs ls (hP.sub is (zk_fm hs)) (hD.sub is hn hs) hS hl
theorem zk_lv {lv' : List (Nat × Value)} (ks : List Nat) (h : lv_pick lv ks = lv') (k : zk_Z p l e R s m args below meth c Q A D cl nL cells slots ws lv' st pc) : zk_Z p l e R s m args below meth c Q A D cl nL cells slots ws lv st pc :=
  fun H locs ls hP hD hS hl => k H locs ls hP hD hS (lv_sub hl ks h)
end ZKL
def zk_Pc (D : va_G) (cl : List vw_C) (av : List Value) (wc : va_W) (tys : List (ClassId × FieldType)) (sz : Nat) : Array Value → State → Prop :=
  va_Pc av (fun U => U.heap.size = sz ∧ va_P D cl wc U.heap ∧ va_K D cl tys U ∧ va_D (fun _ => True) wc ∧ zk_N U)
def zk_B {S : Type} (D : va_G) (cl : List vw_C) (A : Nat → Prop) (w1 : S → va_W) : S → State → Prop := fun u t => va_P D cl (w1 u) t.heap ∧ va_D A (w1 u)
/-- contracts of methods that make nothing: answer and new world by post and w1 -/
def zk_Ci {S : Type} (l : Launch) (y : MethodName) (wy : List Cond) (rm : Room) (D : va_G) (cl : List vw_C) (av : List Value) (wc : va_W) (tys : List (ClassId × FieldType)) (post : Int32 → S → Prop) (w1 : S → va_W) : Prop :=
  ∀ sz : Nat, Met l y wy rm (zk_Pc D cl av wc tys sz) (va_Qi post (zk_B D cl (va_A wc sz) w1) (va_A wc sz)) 0 0 (va_A wc sz)
def zk_Cl {S : Type} (l : Launch) (y : MethodName) (wy : List Cond) (rm : Room) (D : va_G) (cl : List vw_C) (av : List Value) (wc : va_W) (tys : List (ClassId × FieldType)) (post : Int64 → S → Prop) (w1 : S → va_W) : Prop :=
  ∀ sz : Nat, Met l y wy rm (zk_Pc D cl av wc tys sz) (va_Ql post (zk_B D cl (va_A wc sz) w1) (va_A wc sz)) 0 0 (va_A wc sz)
def zk_Cv {S : Type} (l : Launch) (y : MethodName) (wy : List Cond) (rm : Room) (D : va_G) (cl : List vw_C) (av : List Value) (wc : va_W) (tys : List (ClassId × FieldType)) (post : S → Prop) (w1 : S → va_W) : Prop :=
  ∀ sz : Nat, Met l y wy rm (zk_Pc D cl av wc tys sz) (va_Qv post (zk_B D cl (va_A wc sz) w1) (va_A wc sz)) 0 0 (va_A wc sz)
def zk_Cq {S : Type} (l : Launch) (y : MethodName) (wy : List Cond) (rm : Room) (D : va_G) (cl : List vw_C) (av : List Value) (wc : va_W) (tys : List (ClassId × FieldType)) (post : Option Nat → S → Prop) (w1 : S → va_W) : Prop :=
  ∀ sz : Nat, Met l y wy rm (zk_Pc D cl av wc tys sz) (va_Qq post (zk_B D cl (va_A wc sz) w1) (va_A wc sz)) 0 0 (va_A wc sz)
theorem zk_blind {D : va_G} {cl : List vw_C} {av : List Value} {wc : va_W} {tys : List (ClassId × FieldType)} {sz : Nat} : FrameBlind (zk_Pc D cl av wc tys sz) := fun a U g mk q => by
  obtain ⟨q0, q1, qP, qK, qD, qN⟩ := q
  exact ⟨q0, q1, qP, va_K.moved (u := U) (U := U.calling g mk a) (Vm.Alike.refl U.vm) qK, qD, zk_N.same (u := U) rfl qN⟩
section ZKC
variable {p : Program} {l : Launch} {e : Env} {R : Room} {s : State} {m : MethodId} {args : Array Value} {below : List Frame} {meth : Method} {c : Code} {Q : State → Prop} {A : Nat → Prop} {D : va_G} {cl : List vw_C} {tys tysC : List (ClassId × FieldType)} {nL cells slots pc : Nat} {cc : ByteArray} {Ts : List Cond} {own : String} {ws wc wr : va_W} {lv : List (Nat × Value)} {st : List Value}
theorem zk_pre {H : Heap} {av : List Value} (X : zk_X p s m args c cc nL own Ts D cl tys A) (hP : va_P D cl wc H) (hD : va_D A wc) (hK : va_K D cl tysC s) : ∀ U : State, U.heap = H → s.WarmedH U.vm → zk_Pc D cl av wc tysC H.size av.toArray U := fun U hU hW =>
  ⟨rfl, by rw [hU], by rw [hU]; exact hP, va_K.moved hW.alike hK, hD.weaken (fun _ _ _ _ => trivial), zk_N.warm hW X.2.2.2⟩
/-- a call is on its way: from every heap that holds the world, with the callee's cells wc cut out of it -/
def zk_Run (p : Program) (l : Launch) (e : Env) (R : Room) (s : State) (m : MethodId) (args : Array Value) (below : List Frame) (meth : Method) (c : Code) (A : Nat → Prop) (D : va_G) (cl : List vw_C) (nL cells slots : Nat) (ws wc : va_W) (lv : List (Nat × Value)) (st rest : List Value) (pc : Nat) (Qf : Nat → State → Outcome → State → Prop) : Prop :=
  ∀ (H : Heap) (locs : List Loc) (ls : Array Slot), va_P D cl ws H → va_P D cl wc H → va_D A wc → lv_has ls nL lv → va_Run p l e R s m args below meth c H locs cells slots 0 0 (F0 m pc ls st) rest (Qf H.size) (va_A wc H.size)
theorem zk_goodT {c0 w : Cond} (h : w ∈ zk_T) : GoodIn (c0 :: zk_T) (w :: zk_T) := fun v hv => by
  rcases List.mem_cons.mp hv with rfl | hv
  · exact ⟨List.mem_cons_of_mem _ h, zk_ok _ h⟩
  · exact ⟨List.mem_cons_of_mem _ hv, zk_ok _ hv⟩
theorem zk_cwV {y : MethodName} {bytes : ByteArray} {maxL index : Nat} {ret : Option FieldType} {wy ws' : List Cond} {rm : Room} {C : String} (n : Nat) (ht : ∀ w ∈ Ts, w.before args s = true) (hG : GoodIn Ts wy) (hw : wy = Cond.code y bytes maxL ret :: ws') (hrc : rm.cells = 0) (hrs : rm.slots = 0) (h1 : Cond.methodLink own index y ∈ Ts) (h2 : Cond.instanceMethod y ∈ Ts) (h3 : Cond.selects C y y ∈ Ts) (h4 : Cond.initialized C ∈ Ts) (hC : y.cls = C)
    (hd : y.cls ≠ "java/lang/invoke/MethodHandle" ∧ y.cls ≠ "java/lang/invoke/VarHandle" ∧ (parseMethodDescriptor y.desc).map (fun d => d.parameters.length) = some n) (hR : rm.frames + 1 ≤ R.frames ∧ 8 + (maxL + 11) + rm.locals ≤ R.locals) : CallW R s args own C index y bytes maxL ret wy rm 0 0 n :=
  ⟨callB_of n ht hG hw hrc hrs (by rw [hC]; exact ht _ h4) (ht _ h1) hd hR, ht _ h2, ht _ h3⟩
theorem zk_cwS {y : MethodName} {bytes : ByteArray} {maxL index : Nat} {ret : Option FieldType} {wy ws' : List Cond} {rm : Room} (n : Nat) (ht : ∀ w ∈ Ts, w.before args s = true) (hG : GoodIn Ts wy) (hw : wy = Cond.code y bytes maxL ret :: ws') (hrc : rm.cells = 0) (hrs : rm.slots = 0) (h1 : Cond.methodLink own index y ∈ Ts) (h2 : Cond.static y ∈ Ts) (h3 : Cond.initialized y.cls ∈ Ts)
    (hd : y.cls ≠ "java/lang/invoke/MethodHandle" ∧ y.cls ≠ "java/lang/invoke/VarHandle" ∧ (parseMethodDescriptor y.desc).map (fun d => d.parameters.length) = some n) (hR : rm.frames + 1 ≤ R.frames ∧ 8 + (maxL + 11) + rm.locals ≤ R.locals) : CallB R s args own index y bytes maxL ret wy rm 0 0 n ∧ (Cond.static y).before args s = true :=
  ⟨callB_of n ht hG hw hrc hrs (ht _ h3) (ht _ h1) hd hR, ht _ h2⟩
theorem zk_cwA {x y : MethodName} {bytes : ByteArray} {maxL index : Nat} {ret : Option FieldType} {wy ws' : List Cond} {rm : Room} {C owner : String} (n : Nat) (ht : ∀ w ∈ Ts, w.before args s = true) (hG : GoodIn Ts wy) (hw : wy = Cond.code y bytes maxL ret :: ws') (hrc : rm.cells = 0) (hrs : rm.slots = 0) (h1 : Cond.methodLink own index x ∈ Ts) (h2 : Cond.sameMethod x.cls owner x.name x.desc ∈ Ts) (h3 : Cond.selects C x y ∈ Ts) (h4 : Cond.instanceMethod y ∈ Ts) (h5 : Cond.initialized y.cls ∈ Ts) (hz : va_Nw (.declares ⟨owner, x.name, x.desc⟩) s)
    (hd : owner ≠ "java/lang/invoke/MethodHandle" ∧ owner ≠ "java/lang/invoke/VarHandle" ∧ (parseMethodDescriptor x.desc).map (fun d => d.parameters.length) = some n) (hR : rm.frames + 1 ≤ R.frames ∧ 8 + (maxL + 11) + rm.locals ≤ R.locals) : va_CU R s args own C owner index x y bytes maxL ret wy rm 0 0 n := by
  have hc : Cond.code y bytes maxL ret ∈ wy := by rw [hw]; exact List.mem_cons_self
  refine ⟨⟨hrc, hrs, hR.1, hR.2, pay_in ht hG, hc⟩, ht _ (hG _ hc).1, ht _ h5, ⟨hd.1, hd.2.1⟩, fun sig h => ?_, ht _ h1, ht _ h2, va_Decl.abs hz, ht _ h3, ht _ h4⟩
  have h2 := hd.2.2
  rw [h] at h2
  exact (Option.some.inj h2).symm
theorem zk_runV (X : zk_X p s m args c cc nL own Ts D cl tys A) {y : MethodName} {bytes : ByteArray} {maxL n index : Nat} {ret : Option FieldType} {wy : List Cond} {rm : Room} {As rest : List Value} {b : Nat} {Qf : Nat → Array Value → State → Outcome → State → Prop} (hM : ∀ sz : Nat, Met l y wy rm (zk_Pc D cl (.ref b :: As) wc tysC sz) (Qf sz) 0 0 (va_A wc sz)) (tc : List Nat) (hT : tc.filterMap (fun i => tys[i]?) = tysC) {C : String} {T : u_T} {N ci : Nat} {fs : List Value} (hc : cl[ci]? = some (C, T, N)) (q0 : Nat) (he : ws[q0]? = some (b, .inr (ci, fs))) (cw : CallW R s args own C index y bytes maxL ret wy rm 0 0 n) (hn : As.length = n) (hst : st = As.reverse ++ .ref b :: rest) (hr : (rest.map fun v => v.category).sum ≤ 8) (hf : cells ≤ R.cells ∧ slots ≤ R.slots) (hdg : decode cc pc = .ok (.invokevirtual index, 3)) : zk_Run p l e R s m args below meth c A D cl nL cells slots ws wc lv st rest pc (fun sz => Qf sz (.ref b :: As).toArray) := by
  subst hst
  exact fun H locs ls hP hPc hDc hl => va_runV X.1 (hM H.size) cw ⟨zk_blind, va_recv X.2.1 hP hc he, zk_pre X hPc hDc (X.2.1.sub tc hT)⟩ rfl hn hl.1 rfl (lv_room hr) hdg hf
theorem zk_runS (X : zk_X p s m args c cc nL own Ts D cl tys A) {y : MethodName} {bytes : ByteArray} {maxL n index : Nat} {ret : Option FieldType} {wy : List Cond} {rm : Room} {As rest : List Value} {Qf : Nat → Array Value → State → Outcome → State → Prop} (hM : ∀ sz : Nat, Met l y wy rm (zk_Pc D cl As wc tysC sz) (Qf sz) 0 0 (va_A wc sz)) (tc : List Nat) (hT : tc.filterMap (fun i => tys[i]?) = tysC) (cw : CallB R s args own index y bytes maxL ret wy rm 0 0 n ∧ (Cond.static y).before args s = true) (hn : As.length = n) (hst : st = As.reverse ++ rest) (hr : (rest.map fun v => v.category).sum ≤ 8) (hf : cells ≤ R.cells ∧ slots ≤ R.slots) (hdg : decode cc pc = .ok (.invokestatic index, 3)) : zk_Run p l e R s m args below meth c A D cl nL cells slots ws wc lv st rest pc (fun sz => Qf sz As.toArray) := by
  subst hst
  exact fun H locs ls hP hPc hDc hl => va_runS X.1 (hM H.size) cw ⟨zk_blind, zk_pre X hPc hDc (X.2.1.sub tc hT)⟩ rfl hn hl.1 rfl (lv_room hr) hdg hf
theorem zk_runSN (X : zk_X p s m args c cc nL own Ts D cl tys A) {y : MethodName} {bytes : ByteArray} {maxL n index : Nat} {ret : Option FieldType} {wy : List Cond} {rm : Room} {As rest : List Value} {host : String} {Qf : Nat → Array Value → State → Outcome → State → Prop} (hM : ∀ sz : Nat, Met l y wy rm (zk_Pc D cl As wc tysC sz) (Qf sz) 0 0 (va_A wc sz)) (tc : List Nat) (hT : tc.filterMap (fun i => tys[i]?) = tysC) (cw : va_CN R s args own index y host bytes maxL ret wy rm 0 0 n ∧ (Cond.static y).before args s = true ∧ True) (hn : As.length = n) (hst : st = As.reverse ++ rest) (hr : (rest.map fun v => v.category).sum ≤ 8) (hf : cells ≤ R.cells ∧ slots ≤ R.slots) (hdg : decode cc pc = .ok (.invokestatic index, 3)) : zk_Run p l e R s m args below meth c A D cl nL cells slots ws wc lv st rest pc (fun sz => Qf sz As.toArray) := by
  subst hst
  exact fun H locs ls hP hPc hDc hl => va_runSN X.1 (hM H.size) cw ⟨zk_blind, zk_pre X hPc hDc (X.2.1.sub tc hT)⟩ rfl hn hl.1 rfl (lv_room hr) hdg hf
theorem zk_runU (X : zk_X p s m args c cc nL own Ts D cl tys A) {y : MethodName} {bytes : ByteArray} {maxL n index : Nat} {ret : Option FieldType} {wy : List Cond} {rm : Room} {As rest : List Value} {x : MethodName} {owner : String} {b : Nat} {Qf : Nat → Array Value → State → Outcome → State → Prop} (hM : ∀ sz : Nat, Met l y wy rm (zk_Pc D cl (.ref b :: As) wc tysC sz) (Qf sz) 0 0 (va_A wc sz)) (tc : List Nat) (hT : tc.filterMap (fun i => tys[i]?) = tysC) {C : String} {T : u_T} {N ci : Nat} {fs : List Value} (hc : cl[ci]? = some (C, T, N)) (q0 : Nat) (he : ws[q0]? = some (b, .inr (ci, fs))) (cw : va_CU R s args own C owner index x y bytes maxL ret wy rm 0 0 n) (hn : As.length = n) (hst : st = As.reverse ++ .ref b :: rest) (hr : (rest.map fun v => v.category).sum ≤ 8) (hf : cells ≤ R.cells ∧ slots ≤ R.slots) (hdg : decode cc pc = .ok (.invokevirtual index, 3)) : zk_Run p l e R s m args below meth c A D cl nL cells slots ws wc lv st rest pc (fun sz => Qf sz (.ref b :: As).toArray) := by
  subst hst
  exact fun H locs ls hP hPc hDc hl => va_runU X.1 (hM H.size) cw ⟨zk_blind, va_recv X.2.1 hP hc he, zk_pre X hPc hDc (X.2.1.sub tc hT)⟩ rfl hn hl.1 rfl (lv_room hr) hdg hf
theorem zk_calli (X : zk_X p s m args c cc nL own Ts D cl tys A) {S : Type} {post : Int32 → S → Prop} {w1 : S → va_W} {rest : List Value} {a : Array Value} (isC isR : List Nat) (hC : isC.map (fun i => ws[i]?) = wc.map some) (hR : isR.map (fun i => ws[i]?) = wr.map some) (hnC : va_nd isC = true) (hnR : va_nd isR = true) (hdis : ∀ i ∈ isR, i ∉ isC)
    (hrun : zk_Run p l e R s m args below meth c A D cl nL cells slots ws wc lv st rest pc (fun sz => va_Qi post (zk_B D cl (va_A wc sz) w1) (va_A wc sz) a))
    (k : ∀ (r : Int32) (u : S), post r u → zk_Z p l e R s m args below meth c Q A D cl nL cells slots (wr ++ w1 u) lv (.int r :: rest) (pc + 3)) : zk_Z p l e R s m args below meth c Q A D cl nL cells slots ws lv st pc := by
  intro H locs ls hP hD hS hl
  have hPc := hP.sub isC (zk_fm hC)
  have hDc := hD.sub isC hnC hC
  have hFc := va_free (wc := wc) hD hS X.2.2.1 isC hC
  refine va_calli (hrun H locs ls hP hPc hDc hl) hS (fun q _ h => hFc q h) hFc (fun r u t H1 locs1 ht hvm hp hB hz1 hk1 hS1 => ?_)
  obtain ⟨hP1, hD1⟩ := hB
  rw [ht] at hP1
  obtain ⟨hP2, hD2⟩ := va_join (wr := wr) (w1 := w1 u) hP hD isC isR hC hR hnR hdis hk1 hFc hP1 hD1
  exact k r u hp H1 locs1 ls hP2 hD2 hS1 hl
theorem zk_calll (X : zk_X p s m args c cc nL own Ts D cl tys A) {S : Type} {post : Int64 → S → Prop} {w1 : S → va_W} {rest : List Value} {a : Array Value} (isC isR : List Nat) (hC : isC.map (fun i => ws[i]?) = wc.map some) (hR : isR.map (fun i => ws[i]?) = wr.map some) (hnC : va_nd isC = true) (hnR : va_nd isR = true) (hdis : ∀ i ∈ isR, i ∉ isC)
    (hrun : zk_Run p l e R s m args below meth c A D cl nL cells slots ws wc lv st rest pc (fun sz => va_Ql post (zk_B D cl (va_A wc sz) w1) (va_A wc sz) a))
    (k : ∀ (r : Int64) (u : S), post r u → zk_Z p l e R s m args below meth c Q A D cl nL cells slots (wr ++ w1 u) lv (.long r :: rest) (pc + 3)) : zk_Z p l e R s m args below meth c Q A D cl nL cells slots ws lv st pc := by
  intro H locs ls hP hD hS hl
  have hPc := hP.sub isC (zk_fm hC)
  have hDc := hD.sub isC hnC hC
  have hFc := va_free (wc := wc) hD hS X.2.2.1 isC hC
  refine va_calll (hrun H locs ls hP hPc hDc hl) hS (fun q _ h => hFc q h) hFc (fun r u t H1 locs1 ht hvm hp hB hz1 hk1 hS1 => ?_)
  obtain ⟨hP1, hD1⟩ := hB
  rw [ht] at hP1
  obtain ⟨hP2, hD2⟩ := va_join (wr := wr) (w1 := w1 u) hP hD isC isR hC hR hnR hdis hk1 hFc hP1 hD1
  exact k r u hp H1 locs1 ls hP2 hD2 hS1 hl
theorem zk_callv (X : zk_X p s m args c cc nL own Ts D cl tys A) {S : Type} {post : S → Prop} {w1 : S → va_W} {rest : List Value} {a : Array Value} (isC isR : List Nat) (hC : isC.map (fun i => ws[i]?) = wc.map some) (hR : isR.map (fun i => ws[i]?) = wr.map some) (hnC : va_nd isC = true) (hnR : va_nd isR = true) (hdis : ∀ i ∈ isR, i ∉ isC)
    (hrun : zk_Run p l e R s m args below meth c A D cl nL cells slots ws wc lv st rest pc (fun sz => va_Qv post (zk_B D cl (va_A wc sz) w1) (va_A wc sz) a))
    (k : ∀ (u : S), post u → zk_Z p l e R s m args below meth c Q A D cl nL cells slots (wr ++ w1 u) lv rest (pc + 3)) : zk_Z p l e R s m args below meth c Q A D cl nL cells slots ws lv st pc := by
  intro H locs ls hP hD hS hl
  have hPc := hP.sub isC (zk_fm hC)
  have hDc := hD.sub isC hnC hC
  have hFc := va_free (wc := wc) hD hS X.2.2.1 isC hC
  refine va_callv (hrun H locs ls hP hPc hDc hl) hS (fun q _ h => hFc q h) hFc (fun u t H1 locs1 ht hvm hp hB hz1 hk1 hS1 => ?_)
  obtain ⟨hP1, hD1⟩ := hB
  rw [ht] at hP1
  obtain ⟨hP2, hD2⟩ := va_join (wr := wr) (w1 := w1 u) hP hD isC isR hC hR hnR hdis hk1 hFc hP1 hD1
  exact k u hp H1 locs1 ls hP2 hD2 hS1 hl
theorem zk_callq (X : zk_X p s m args c cc nL own Ts D cl tys A) {S : Type} {post : Option Nat → S → Prop} {w1 : S → va_W} {rest : List Value} {a : Array Value} (isC isR : List Nat) (hC : isC.map (fun i => ws[i]?) = wc.map some) (hR : isR.map (fun i => ws[i]?) = wr.map some) (hnC : va_nd isC = true) (hnR : va_nd isR = true) (hdis : ∀ i ∈ isR, i ∉ isC)
    (hrun : zk_Run p l e R s m args below meth c A D cl nL cells slots ws wc lv st rest pc (fun sz => va_Qq post (zk_B D cl (va_A wc sz) w1) (va_A wc sz) a))
    (k : ∀ (r : Option Nat) (u : S), post r u → zk_Z p l e R s m args below meth c Q A D cl nL cells slots (wr ++ w1 u) lv (va_rf r :: rest) (pc + 3)) : zk_Z p l e R s m args below meth c Q A D cl nL cells slots ws lv st pc := by
  intro H locs ls hP hD hS hl
  have hPc := hP.sub isC (zk_fm hC)
  have hDc := hD.sub isC hnC hC
  have hFc := va_free (wc := wc) hD hS X.2.2.1 isC hC
  refine va_callq (hrun H locs ls hP hPc hDc hl) hS (fun q _ h => hFc q h) hFc (fun r u t H1 locs1 ht hvm hp hB hz1 hk1 hS1 => ?_)
  obtain ⟨hP1, hD1⟩ := hB
  rw [ht] at hP1
  obtain ⟨hP2, hD2⟩ := va_join (wr := wr) (w1 := w1 u) hP hD isC isR hC hR hnR hdis hk1 hFc hP1 hD1
  exact k r u hp H1 locs1 ls hP2 hD2 hS1 hl
theorem zk_enteri {S : Type} {y : MethodName} {wy ws' : List Cond} {rm : Room} {av : List Value} {maxL : Nat} {ret : Option FieldType} {post : Int32 → S → Prop} {w1 : S → va_W} (hy : plainName y.cls = true) (hw : wy = Cond.code y cc maxL ret :: ws') (hlen : (lg_sl av).length ≤ maxL)
    (body : ∀ (p : Program) (e : Env) (s : State) (m : MethodId) (args : Array Value) (below : List Frame) (meth : Method) (c : Code) (A : Nat → Prop) (Q : State → Prop), Q = MQ below (va_Qi post (zk_B D cl A w1) A) args s 0 0 A → zk_X p s m args c cc maxL y.cls wy D cl tys A → meth.sig.returnType = ret → meth.locks = false → zk_Z p l e rm s m args below meth c Q A D cl maxL 0 0 wc (lv_args 0 av) [] 0) : zk_Ci l y wy rm D cl av wc tys post w1 := by
  intro sz
  refine Met.ofW (cc := cc) (maxL := maxL) (ret := ret) hy hw ?_
  intro p e s m args below meth c s₁ B hml hv
  obtain ⟨rfl, hsz, hP, hK, hD0, hN⟩ := hv
  have hts := atoms_spec (ws := wy) B.pre
  have hown : s.vm.findClass y.cls = some m.cls := findClass_of_methodNamed B.named
  subst hsz
  have hD := hD0.self (sz := s.heap.size)
  generalize hAe : va_A wc s.heap.size = A at hD ⊢
  have hA : ∀ q : Nat, s.heap.size ≤ q → A q := fun q h => by rw [← hAe]; exact Or.inr h
  have hS : va_S A s.heap s.heap [] := va_S.rf
  have hl := lv_entry av (n := maxL) hlen
  rw [lg_entry_eq]
  exact body p e s m av.toArray below meth c A _ rfl ⟨⟨B.exec, B.bytes, hml, hown, hts⟩, hK, hA, hN⟩ B.returns B.notSynchronized s.heap [] _ hP hD hS hl
theorem zk_enterl {S : Type} {y : MethodName} {wy ws' : List Cond} {rm : Room} {av : List Value} {maxL : Nat} {ret : Option FieldType} {post : Int64 → S → Prop} {w1 : S → va_W} (hy : plainName y.cls = true) (hw : wy = Cond.code y cc maxL ret :: ws') (hlen : (lg_sl av).length ≤ maxL)
    (body : ∀ (p : Program) (e : Env) (s : State) (m : MethodId) (args : Array Value) (below : List Frame) (meth : Method) (c : Code) (A : Nat → Prop) (Q : State → Prop), Q = MQ below (va_Ql post (zk_B D cl A w1) A) args s 0 0 A → zk_X p s m args c cc maxL y.cls wy D cl tys A → meth.sig.returnType = ret → meth.locks = false → zk_Z p l e rm s m args below meth c Q A D cl maxL 0 0 wc (lv_args 0 av) [] 0) : zk_Cl l y wy rm D cl av wc tys post w1 := by
  intro sz
  refine Met.ofW (cc := cc) (maxL := maxL) (ret := ret) hy hw ?_
  intro p e s m args below meth c s₁ B hml hv
  obtain ⟨rfl, hsz, hP, hK, hD0, hN⟩ := hv
  have hts := atoms_spec (ws := wy) B.pre
  have hown : s.vm.findClass y.cls = some m.cls := findClass_of_methodNamed B.named
  subst hsz
  have hD := hD0.self (sz := s.heap.size)
  generalize hAe : va_A wc s.heap.size = A at hD ⊢
  have hA : ∀ q : Nat, s.heap.size ≤ q → A q := fun q h => by rw [← hAe]; exact Or.inr h
  have hS : va_S A s.heap s.heap [] := va_S.rf
  have hl := lv_entry av (n := maxL) hlen
  rw [lg_entry_eq]
  exact body p e s m av.toArray below meth c A _ rfl ⟨⟨B.exec, B.bytes, hml, hown, hts⟩, hK, hA, hN⟩ B.returns B.notSynchronized s.heap [] _ hP hD hS hl
theorem zk_enterv {S : Type} {y : MethodName} {wy ws' : List Cond} {rm : Room} {av : List Value} {maxL : Nat} {ret : Option FieldType} {post : S → Prop} {w1 : S → va_W} (hy : plainName y.cls = true) (hw : wy = Cond.code y cc maxL ret :: ws') (hlen : (lg_sl av).length ≤ maxL)
    (body : ∀ (p : Program) (e : Env) (s : State) (m : MethodId) (args : Array Value) (below : List Frame) (meth : Method) (c : Code) (A : Nat → Prop) (Q : State → Prop), Q = MQ below (va_Qv post (zk_B D cl A w1) A) args s 0 0 A → zk_X p s m args c cc maxL y.cls wy D cl tys A → meth.sig.returnType = ret → meth.locks = false → zk_Z p l e rm s m args below meth c Q A D cl maxL 0 0 wc (lv_args 0 av) [] 0) : zk_Cv l y wy rm D cl av wc tys post w1 := by
  intro sz
  refine Met.ofW (cc := cc) (maxL := maxL) (ret := ret) hy hw ?_
  intro p e s m args below meth c s₁ B hml hv
  obtain ⟨rfl, hsz, hP, hK, hD0, hN⟩ := hv
  have hts := atoms_spec (ws := wy) B.pre
  have hown : s.vm.findClass y.cls = some m.cls := findClass_of_methodNamed B.named
  subst hsz
  have hD := hD0.self (sz := s.heap.size)
  generalize hAe : va_A wc s.heap.size = A at hD ⊢
  have hA : ∀ q : Nat, s.heap.size ≤ q → A q := fun q h => by rw [← hAe]; exact Or.inr h
  have hS : va_S A s.heap s.heap [] := va_S.rf
  have hl := lv_entry av (n := maxL) hlen
  rw [lg_entry_eq]
  exact body p e s m av.toArray below meth c A _ rfl ⟨⟨B.exec, B.bytes, hml, hown, hts⟩, hK, hA, hN⟩ B.returns B.notSynchronized s.heap [] _ hP hD hS hl
theorem zk_enterq {S : Type} {y : MethodName} {wy ws' : List Cond} {rm : Room} {av : List Value} {maxL : Nat} {ret : Option FieldType} {post : Option Nat → S → Prop} {w1 : S → va_W} (hy : plainName y.cls = true) (hw : wy = Cond.code y cc maxL ret :: ws') (hlen : (lg_sl av).length ≤ maxL)
    (body : ∀ (p : Program) (e : Env) (s : State) (m : MethodId) (args : Array Value) (below : List Frame) (meth : Method) (c : Code) (A : Nat → Prop) (Q : State → Prop), Q = MQ below (va_Qq post (zk_B D cl A w1) A) args s 0 0 A → zk_X p s m args c cc maxL y.cls wy D cl tys A → meth.sig.returnType = ret → meth.locks = false → zk_Z p l e rm s m args below meth c Q A D cl maxL 0 0 wc (lv_args 0 av) [] 0) : zk_Cq l y wy rm D cl av wc tys post w1 := by
  intro sz
  refine Met.ofW (cc := cc) (maxL := maxL) (ret := ret) hy hw ?_
  intro p e s m args below meth c s₁ B hml hv
  obtain ⟨rfl, hsz, hP, hK, hD0, hN⟩ := hv
  have hts := atoms_spec (ws := wy) B.pre
  have hown : s.vm.findClass y.cls = some m.cls := findClass_of_methodNamed B.named
  subst hsz
  have hD := hD0.self (sz := s.heap.size)
  generalize hAe : va_A wc s.heap.size = A at hD ⊢
  have hA : ∀ q : Nat, s.heap.size ≤ q → A q := fun q h => by rw [← hAe]; exact Or.inr h
  have hS : va_S A s.heap s.heap [] := va_S.rf
  have hl := lv_entry av (n := maxL) hlen
  rw [lg_entry_eq]
  exact body p e s m av.toArray below meth c A _ rfl ⟨⟨B.exec, B.bytes, hml, hown, hts⟩, hK, hA, hN⟩ B.returns B.notSynchronized s.heap [] _ hP hD hS hl
theorem zk_iret (X : zk_X p s m args c cc nL own Ts D cl tys A) {S : Type} {post : Int32 → S → Prop} {w1 : S → va_W} {v : Int32} (hQ : Q = MQ below (va_Qi post (zk_B D cl A w1) A) args s 0 0 A) (hr : meth.sig.returnType = some .int) (hlocks : meth.locks = false) (u : S) (hp : post v u) (is : List Nat) (hs : is.map (fun i => ws[i]?) = (w1 u).map some) (hn : va_nd is = true) (hdg : decode cc pc = .ok (.ireturn, 1)) : zk_Z p l e R s m args below meth c Q A D cl nL 0 0 ws lv [.int v] pc := by
  subst hQ
  exact fun H locs ls hP hD hS hl => W.iret X.1.1 X.1.2.1 hr (fun t ht hW => ⟨⟨v, u, rfl, hp, by rw [ht]; exact hP.sub is (zk_fm hs), hD.sub is hn hs⟩, hS.F ht⟩) hS.2.2 hdg hlocks
theorem zk_zret (X : zk_X p s m args c cc nL own Ts D cl tys A) {S : Type} {post : Int32 → S → Prop} {w1 : S → va_W} {v : Int32} (hQ : Q = MQ below (va_Qi post (zk_B D cl A w1) A) args s 0 0 A) (hr : meth.sig.returnType = some .boolean) (hlocks : meth.locks = false) (hnw : narrow .boolean (.int v) = .int v) (u : S) (hp : post v u) (is : List Nat) (hs : is.map (fun i => ws[i]?) = (w1 u).map some) (hn : va_nd is = true) (hdg : decode cc pc = .ok (.ireturn, 1)) : zk_Z p l e R s m args below meth c Q A D cl nL 0 0 ws lv [.int v] pc := by
  subst hQ
  exact fun H locs ls hP hD hS hl => W.zret X.1.1 X.1.2.1 hr hnw (fun t ht hW => ⟨⟨v, u, rfl, hp, by rw [ht]; exact hP.sub is (zk_fm hs), hD.sub is hn hs⟩, hS.F ht⟩) hS.2.2 hdg hlocks
theorem zk_lret (X : zk_X p s m args c cc nL own Ts D cl tys A) {S : Type} {post : Int64 → S → Prop} {w1 : S → va_W} {v : Int64} (hQ : Q = MQ below (va_Ql post (zk_B D cl A w1) A) args s 0 0 A) (hr : meth.sig.returnType = some .long) (hlocks : meth.locks = false) (u : S) (hp : post v u) (is : List Nat) (hs : is.map (fun i => ws[i]?) = (w1 u).map some) (hn : va_nd is = true) (hdg : decode cc pc = .ok (.lreturn, 1)) : zk_Z p l e R s m args below meth c Q A D cl nL 0 0 ws lv [.long v] pc := by
  subst hQ
  exact fun H locs ls hP hD hS hl => W.lret X.1.1 X.1.2.1 hr (fun t ht hW => ⟨⟨v, u, rfl, hp, by rw [ht]; exact hP.sub is (zk_fm hs), hD.sub is hn hs⟩, hS.F ht⟩) hS.2.2 hdg hlocks
theorem zk_vret (X : zk_X p s m args c cc nL own Ts D cl tys A) {S : Type} {post : S → Prop} {w1 : S → va_W}  (hQ : Q = MQ below (va_Qv post (zk_B D cl A w1) A) args s 0 0 A) (hr : meth.sig.returnType = none) (hlocks : meth.locks = false) (u : S) (hp : post u) (is : List Nat) (hs : is.map (fun i => ws[i]?) = (w1 u).map some) (hn : va_nd is = true) (hdg : decode cc pc = .ok (.return_, 1)) : zk_Z p l e R s m args below meth c Q A D cl nL 0 0 ws lv [] pc := by
  subst hQ
  exact fun H locs ls hP hD hS hl => W.vret X.1.1 X.1.2.1 hr (fun t ht hW => ⟨⟨u, rfl, hp, by rw [ht]; exact hP.sub is (zk_fm hs), hD.sub is hn hs⟩, hS.F ht⟩) hS.2.2 hdg hlocks
theorem zk_aret (X : zk_X p s m args c cc nL own Ts D cl tys A) {S : Type} {post : Option Nat → S → Prop} {w1 : S → va_W} {v : Option Nat} {rt : FieldType} (hQ : Q = MQ below (va_Qq post (zk_B D cl A w1) A) args s 0 0 A) (hr : meth.sig.returnType = some rt) (hlocks : meth.locks = false) (hrt : (∃ n, rt = .object n) ∨ ∃ t, rt = .array t) (u : S) (hp : post v u) (is : List Nat) (hs : is.map (fun i => ws[i]?) = (w1 u).map some) (hn : va_nd is = true) (hdg : decode cc pc = .ok (.areturn, 1)) : zk_Z p l e R s m args below meth c Q A D cl nL 0 0 ws lv [va_rf v] pc := by
  subst hQ
  exact fun H locs ls hP hD hS hl => W.aret X.1.1 X.1.2.1 hr hrt (by cases v with | none => exact Or.inl rfl | some z => exact Or.inr ⟨z, rfl⟩) (fun t ht hW => ⟨⟨v, u, rfl, hp, by rw [ht]; exact hP.sub is (zk_fm hs), hD.sub is hn hs⟩, hS.F ht⟩) hS.2.2 hdg hlocks
end ZKC

