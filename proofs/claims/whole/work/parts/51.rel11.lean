/-! the calls: class and reference -/
def zr_R (N : Nat) (gm : Nat → Int32) (xb : Int32) (fo fs : Nat → Int32) (pn : Nat) (fr fc : Nat → Int32) (mp mb mi me ml mo mt : Int32) (mS : Nat) (kfr kfc : Nat → Int32) (kp kb ki ke kl ko kt : Int32) (kS : Nat) (rw : Nat) (rt rq rc : Int32) (jn : Nat) (jl : Int32) : Prop :=
  ∃ c0 c1 u, zr_L gm fr fc mp mb mi me ml mo mt mS c0 c1 rw jn u rq fo fs pn ∧ rt = nI c0 ∧ rc = nI c1 ∧ jl = nI u ∧ (∃ kz, zr_M 48 gm kfr kfc kp kb ki ke kz ko kt kS) ∧ (ki = 0 ∨ ki = 1) ∧ (ke = 0 ∨ ke = 1) ∧ zr_prog fo fs pn ∧ pn ≤ 24 ∧ (xb = 0 ∨ xb = 1) ∧ mS ≤ 101 * N ∧ c1 ≤ 1000000 * N
theorem zr_YP {fo fs : Nat → Int32} {pn : Nat} (h : zr_prog fo fs pn) : zk_YP fo fs pn := fun k hk => (h k hk).2
theorem zr_in1 {v lo hi : Int32} : sp_Y_in v lo hi = 0 ∨ sp_Y_in v lo hi = 1 := by
  unfold sp_Y_in
  split
  · exact Or.inl rfl
  · split
    · exact Or.inl rfl
    · exact Or.inr rfl
theorem zr_in0 {v lo hi : Int32} : sp_Y_in v lo hi = 0 ↔ (v < lo ∨ hi < v) := by
  unfold sp_Y_in
  rcases Decidable.em (v < lo) with h | h
  · rw [if_pos h]; exact ⟨fun _ => Or.inl h, fun _ => rfl⟩
  · rw [if_neg h]
    rcases Decidable.em (hi < v) with g | g
    · rw [if_pos g]; exact ⟨fun _ => Or.inr g, fun _ => rfl⟩
    · rw [if_neg g]; exact ⟨fun e => absurd e (by decide), fun e => by rcases e with e | e; exact absurd e h; exact absurd e g⟩
theorem zr_small {o : Int32} {n : Nat} (hn : n < 2 ^ 31) (h1 : ¬ o < 0) (h2 : o ≤ nI n) : ∃ q, q ≤ n ∧ o = nI q := nI_of2 (nI_toInt hn) h1 h2
theorem zr_opOf {o : Int32} (h1 : ¬ o < 0) (h2 : o ≤ 12) : zr_op o := by
  obtain ⟨q, hq, rfl⟩ := zr_small (n := 12) (by decide) h1 h2
  have : q = 0 ∨ q = 1 ∨ q = 2 ∨ q = 3 ∨ q = 4 ∨ q = 5 ∨ q = 6 ∨ q = 7 ∨ q = 8 ∨ q = 9 ∨ q = 10 ∨ q = 11 ∨ q = 12 := by omega
  unfold zr_op
  rcases this with rfl | rfl | rfl | rfl | rfl | rfl | rfl | rfl | rfl | rfl | rfl | rfl | rfl <;> decide
theorem zr_progAdd {fo fs : Nat → Int32} {pn : Nat} {o b : Int32} (h : zr_prog fo fs pn) (ho : zr_op o) (hj : o = 5 ∨ o = 6 → ∃ q, q < 24 ∧ b = nI q) : zr_prog (upd fo pn o) (upd fs pn b) (pn + 1) := by
  intro k hk
  rcases Decidable.em (k = pn) with e | e
  · subst e
    rw [pk_us, pk_us]
    exact ⟨ho, hj⟩
  · rw [pk_un e, pk_un e]
    exact h k (by omega)
theorem zr_b23 {b : Int32} (h1 : ¬ b < 0) (h2 : ¬ (24 : Int32) ≤ b) : ∃ q, q < 24 ∧ b = nI q := by
  obtain ⟨j, hj, rfl⟩ := nI_of h1
  exact ⟨j, Nat.lt_of_not_le (fun g => h2 (nI_le g hj)), rfl⟩
theorem zr_23 {b : Int32} : (24 : Int32) ≤ b ↔ 23 < b := by
  rw [Int32.le_iff_toInt_le, Int32.lt_iff_toInt_lt]
  have e1 : (24 : Int32).toInt = 24 := by decide
  have e2 : (23 : Int32).toInt = 23 := by decide
  omega
/-- add -/
theorem zr_add (o a b xb : Int32) (fo ff fs : Nat → Int32) (pn : Nat) (hpn : pn ≤ 24) (hP : zr_prog fo fs pn) :
    ∃ r fo' ff' fs' pn', sp_X_add o a b xb fo ff fs pn = (r, fo', ff', fs', pn') ∧ sp_Y_add o a b fo ff fs pn xb = (r, fo', ff', fs', pn') ∧ zr_prog fo' fs' pn' ∧ pn' ≤ 24 := by
  have e1 := sp_X_add.eq_1 o a b xb fo ff fs pn
  have e2 := sp_Y_add.eq_1 o a b fo ff fs pn xb
  have ei := sp_X_isInstruction.eq_1 o b
  have ea := sp_P_append.eq_1 o a b fo ff fs pn
  rcases Decidable.em (o < 0) with h0 | h0
  · rw [if_pos h0] at ei
    rw [if_pos (zr_in0.mpr (Or.inl h0))] at e2
    rw [ei] at e1
    rw [if_pos rfl, ite_self] at e1
    exact ⟨_, _, _, _, _, e1, e2, hP, hpn⟩
  rw [if_neg h0] at ei
  rcases Decidable.em (o ≤ 12) with h12 | h12
  · rw [if_pos h12] at ei
    rw [if_neg (fun g => by rcases zr_in0.mp g with q | q; exact h0 q; exact absurd h12 (Int32.not_le.mpr q))] at e2
    rcases Decidable.em (24 ≤ pn) with c | c
    · rw [if_pos c] at e2
      rw [if_neg (by omega)] at ea
      rw [ea] at e1
      dsimp only at e1
      rw [ite_self, ite_self] at e1
      exact ⟨_, _, _, _, _, e1, e2, hP, hpn⟩
    · rw [if_neg c] at e2
      rw [if_pos (by omega)] at ea
      rw [ea] at e1
      dsimp only at e1
      rcases Decidable.em (xb = 0) with x | x
      · rw [if_pos x] at e1 e2
        have ho := zr_opOf h0 h12
        have jump : (if b < 0 then (0 : Int32) else if (24 : Int32) ≤ b then 0 else 1) = sp_Y_in b 0 23 := by
          unfold sp_Y_in
          rcases Decidable.em (b < 0) with q | q
          · rw [if_pos q, if_pos q]
          · rw [if_neg q, if_neg q]
            rcases Decidable.em ((24 : Int32) ≤ b) with w | w
            · rw [if_pos w, if_pos (zr_23.mp w)]
            · rw [if_neg w, if_neg (fun g => w (zr_23.mpr g))]
        have jok : ¬ sp_Y_in b 0 23 = 0 → ∃ q, q < 24 ∧ b = nI q := fun g =>
          zr_b23 (fun q => g (zr_in0.mpr (Or.inl q))) (fun q => g (zr_in0.mpr (Or.inr (zr_23.mp q))))
        rcases Decidable.em (o = 5) with h5 | h5
        · rw [if_pos h5, jump] at ei
          rw [if_pos h5] at e2
          rw [ei] at e1
          rcases Decidable.em (sp_Y_in b 0 23 = 0) with w | w
          · rw [if_pos w] at e1 e2
            exact ⟨_, _, _, _, _, e1, e2, hP, hpn⟩
          · rw [if_neg w] at e1 e2
            exact ⟨_, _, _, _, _, e1, e2, zr_progAdd hP ho (fun _ => jok w), by omega⟩
        · rw [if_neg h5] at ei e2
          rcases Decidable.em (o = 6) with h6 | h6
          · rw [if_pos h6, jump] at ei
            rw [if_pos h6] at e2
            rw [ei] at e1
            rcases Decidable.em (sp_Y_in b 0 23 = 0) with w | w
            · rw [if_pos w] at e1 e2
              exact ⟨_, _, _, _, _, e1, e2, hP, hpn⟩
            · rw [if_neg w] at e1 e2
              exact ⟨_, _, _, _, _, e1, e2, zr_progAdd hP ho (fun _ => jok w), by omega⟩
          · rw [if_neg h6] at ei e2
            rw [ei, if_neg (by decide)] at e1
            exact ⟨_, _, _, _, _, e1, e2, zr_progAdd hP ho (fun q => by rcases q with q | q; exact absurd q h5; exact absurd q h6), by omega⟩
      · rw [if_neg x] at e1 e2
        exact ⟨_, _, _, _, _, e1, e2, hP, hpn⟩
  · rw [if_neg h12] at ei
    rw [if_pos (zr_in0.mpr (Or.inr (Int32.not_le.mp h12)))] at e2
    rw [ei, if_pos rfl, ite_self] at e1
    exact ⟨_, _, _, _, _, e1, e2, hP, hpn⟩
theorem zr_inp (v : Int32) (fi : Nat → Int32) (rw : Nat) : sp_X_input v fi rw = sp_Y_input v fi rw := by
  have e1 := sp_X_input.eq_1 v fi rw
  have e2 := sp_R_addInput.eq_1 v fi rw
  have e3 := sp_Y_input.eq_1 v fi rw
  rw [e1, e2, e3]
theorem zr_req {rq : Int32} (h : rq = 0 ∨ rq = 1) : sp_X_request rq = sp_Y_request rq := by
  unfold sp_X_request sp_Y_request
  rcases h with z | z
  · rw [if_pos z, if_pos z]
  · rw [if_neg (by rw [z]; decide), if_neg (by rw [z]; decide), z]
theorem zr_pass (n : Int32) {c1 N : Nat} (hc : c1 ≤ 1000000 * N) : ∃ r c1', sp_X_pass n (nI c1) = (r, nI c1') ∧ sp_Y_pass n (nI c1) = (r, nI c1') ∧ c1 ≤ c1' ∧ c1' ≤ 1000000 * (N + 1) := by
  have e1 := sp_X_pass.eq_1 n (nI c1)
  have e2 := sp_Y_pass.eq_1 n (nI c1)
  rcases Decidable.em (n < 1) with h | h
  · rw [if_pos h] at e1
    rw [if_pos (zr_in0.mpr (Or.inl h))] at e2
    exact ⟨_, c1, e1, e2, Nat.le_refl _, by omega⟩
  · rw [if_neg h] at e1
    rcases Decidable.em (n ≤ 1000000) with g | g
    · rw [if_pos g] at e1
      rw [if_neg (fun q => by rcases zr_in0.mp q with w | w; exact h w; exact absurd g (Int32.not_le.mpr w))] at e2
      have h0 : ¬ n < 0 := fun q => h (Int32.lt_iff_toInt_lt.mpr (by
        have := Int32.lt_iff_toInt_lt.mp q
        have a0 : (0 : Int32).toInt = 0 := by decide
        have a1 : (1 : Int32).toInt = 1 := by decide
        omega))
      obtain ⟨q, hq, rfl⟩ := zr_small (n := 1000000) (by decide) h0 g
      rw [nI_add] at e1 e2
      exact ⟨_, c1 + q, e1, e2, by omega, by omega⟩
    · rw [if_neg g] at e1
      rw [if_pos (zr_in0.mpr (Or.inr (Int32.not_le.mp g)))] at e2
      exact ⟨_, c1, e1, e2, Nat.le_refl _, by omega⟩
/-- has, against the reference's test of a place -/
theorem zr_hasIn {i : Int32} {n : Nat} (hn : n ≤ 300) : sp_J_has i n = sp_Y_in i 0 (nI n - 1) := by
  unfold sp_J_has sp_Y_in
  rcases Decidable.em (i < 0) with h | h
  · rw [if_pos h, if_pos h]
  · rw [if_neg h, if_neg h]
    obtain ⟨j, hj, rfl⟩ := nI_of h
    rcases n with _ | k
    · rw [if_pos (nI_le (Nat.zero_le _) hj), if_pos]
      rw [Int32.lt_iff_toInt_lt, nI_toInt hj]
      have : (nI 0 - 1).toInt = -1 := by decide
      omega
    · rw [nI_pred]
      rcases Decidable.em (k + 1 ≤ j) with c | c
      · rw [if_pos (nI_le c hj), if_pos (nI_lt (by omega) hj)]
      · rw [if_neg (fun q => c ((nI_leI (by omega) hj).mp q)), if_neg (nI_nlt (by omega) (by omega))]
theorem zr_at1 (i : Int32) (f : Nat → Int32) {n : Nat} (hn : n ≤ 300) : sp_X_at i f n = sp_Y_at i f n := by
  unfold sp_X_at sp_Y_at
  rw [zr_hasIn hn]
theorem zr_change (i v : Int32) (f : Nat → Int32) {n : Nat} (hn : n ≤ 300) : sp_X_change i v f n = sp_Y_change i v f n := by
  unfold sp_X_change sp_Y_change
  rw [zr_hasIn hn]
  rcases Decidable.em (sp_Y_in i 0 (nI n - 1) = 0) with c | c
  · rw [if_pos c, if_pos c]
  · rw [if_neg c, if_neg c]
    rcases Decidable.em (v < 0) with h | h
    · rw [if_pos h, if_pos (zr_in0.mpr (Or.inl h))]
    · rw [if_neg h]
      rcases Decidable.em (v ≤ 255) with g | g
      · rw [if_pos g, if_neg (fun q => by rcases zr_in0.mp q with w | w; exact h w; exact absurd g (Int32.not_le.mpr w))]
      · rw [if_neg g, if_pos (zr_in0.mpr (Or.inr (Int32.not_le.mp g)))]
theorem zr_out10 {fr : Nat → Int32} {mp mi me mo mt : Int32} {mS : Nat} {x : Int32} (h : x < 0 ∨ 9 < x) : sp_M_stateOf x fr mp mi me mo mt mS = 0 := by
  have ne : ∀ k : Nat, k ≤ 9 → ¬ x = nI k := fun k hk e => by
    rcases h with h | h
    · rw [e] at h; exact nI_pos (by omega) h
    · rw [e] at h; exact nI_nlt (a := 9) (b := k) hk (by decide) h
  have n4 : ¬ x = 4 := ne 4 (by decide)
  have n5 : ¬ x = 5 := ne 5 (by decide)
  have n6 : ¬ x = 6 := ne 6 (by decide)
  have n7 : ¬ x = 7 := ne 7 (by decide)
  have n8 : ¬ x = 8 := ne 8 (by decide)
  have n9 : ¬ x = 9 := ne 9 (by decide)
  rw [sp_M_stateOf.eq_1]
  rcases Decidable.em (x < 0) with c | c
  · rw [if_pos c, if_neg n4, if_neg n5, if_neg n6, if_neg n7, if_neg n8, if_neg n9]
  · rw [if_neg c]
    have h9 : 9 < x := by rcases h with h | h; exact absurd h c; exact h
    have h4 : (4 : Int32) ≤ x := by
      rw [Int32.le_iff_toInt_le]
      have := Int32.lt_iff_toInt_lt.mp h9
      have e4 : (4 : Int32).toInt = 4 := by decide
      have e9 : (9 : Int32).toInt = 9 := by decide
      omega
    rw [if_pos h4, if_neg n4, if_neg n5, if_neg n6, if_neg n7, if_neg n8, if_neg n9]
theorem zr_which {w : Int32} (h0 : ¬ w = 0) (h1 : ¬ w = 1) : sp_Y_in w 0 1 = 0 := by
  rcases Decidable.em (sp_Y_in w 0 1 = 0) with g | g
  · exact g
  · exfalso
    have a : ¬ w < 0 := fun q => g (zr_in0.mpr (Or.inl q))
    have b : w ≤ 1 := Int32.not_lt.mp (fun q => g (zr_in0.mpr (Or.inr q)))
    obtain ⟨q, hq, rfl⟩ := zr_small (n := 1) (by decide) a b
    have : q = 0 ∨ q = 1 := by omega
    rcases this with rfl | rfl
    · exact h0 rfl
    · exact h1 rfl
theorem zr_state (w x : Int32) {gm fr fc : Nat → Int32} {mp mb mi me ml mo mt : Int32} {mS : Nat} {kfr kfc : Nat → Int32} {kp kb ki ke kl ko kt : Int32} {kS : Nat} (h : zr_M 0 gm fr fc mp mb mi me ml mo mt mS) (hi : mi = 0 ∨ mi = 1) (he : me = 0 ∨ me = 1) (hk : zr_M 48 gm kfr kfc kp kb ki ke kl ko kt kS) (hki : ki = 0 ∨ ki = 1) (hke : ke = 0 ∨ ke = 1) :
    sp_X_state w x fr mp mi me mo mt mS kfr kp ki ke ko kt kS = sp_Y_state w x gm := by
  have e1 := sp_X_state.eq_1 w x fr mp mi me mo mt mS kfr kp ki ke ko kt kS
  have e2 := sp_Y_state.eq_1 w x gm
  rcases Decidable.em (sp_Y_in x 0 9 = 0) with c | c
  · have hx := zr_in0.mp c
    rw [if_pos c, ite_self] at e2
    rw [zr_out10 hx, zr_out10 hx, ite_self, ite_self] at e1
    rw [e1, e2]
  · obtain ⟨k, hk9, rfl⟩ := zr_small (n := 9) (o := x) (by decide) (fun q => c (zr_in0.mpr (Or.inl q))) (Int32.not_lt.mp (fun q => c (zr_in0.mpr (Or.inr q))))
    rw [if_neg c] at e2
    rcases Decidable.em (w = 0) with z | z
    · subst z
      rw [if_pos rfl, zr_st h hi he k (by omega)] at e1
      rw [if_neg (by decide)] at e2
      have e3 : (48 * 0 + nI k : Int32) = nI k := by
        show nI 48 * nI 0 + nI k = nI k
        rw [pk_mul, nI_add, Nat.mul_zero, Nat.zero_add]
      rw [e3, nI_clamp (by omega)] at e2
      rw [e1, e2, Nat.zero_add]
    · rw [if_neg z] at e1
      rcases Decidable.em (w = 1) with z1 | z1
      · subst z1
        rw [if_pos rfl, zr_st hk hki hke k (by omega)] at e1
        rw [if_neg (by decide)] at e2
        have e3 : (48 * 1 + nI k : Int32) = nI (48 + k) := by
          show nI 48 * nI 1 + nI k = _
          rw [pk_mul, nI_add]
        rw [e3, nI_clamp (by omega)] at e2
        rw [e1, e2]
      · rw [if_neg z1] at e1
        rw [if_pos (zr_which z z1)] at e2
        rw [e1, e2]
theorem zr_out32 {fc : Nat → Int32} {x : Int32} (h : x < 0 ∨ 31 < x) : sp_M_cellOf x fc = 0 := by
  rw [sp_M_cellOf.eq_1]
  rcases Decidable.em (x < 0) with c | c
  · rw [if_pos c]
  · rw [if_neg c]
    have h9 : 31 < x := by rcases h with h | h; exact absurd h c; exact h
    rw [if_pos]
    rw [Int32.le_iff_toInt_le]
    have := Int32.lt_iff_toInt_lt.mp h9
    have e4 : (32 : Int32).toInt = 32 := by decide
    have e9 : (31 : Int32).toInt = 31 := by decide
    omega
theorem zr_cellIn {fc : Nat → Int32} {k : Nat} (hk : k < 32) : sp_M_cellOf (nI k) fc = fc k := by
  rw [sp_M_cellOf.eq_1, if_neg (nI_pos (by omega)), if_neg (show ¬ (32 : Int32) ≤ nI k from nI_ge hk (by decide)), nI_clamp (by omega)]
theorem zr_cell1 (w x : Int32) {gm fr fc : Nat → Int32} {mp mb mi me ml mo mt : Int32} {mS : Nat} {kfr kfc : Nat → Int32} {kp kb ki ke kl ko kt : Int32} {kS : Nat} (h : zr_M 0 gm fr fc mp mb mi me ml mo mt mS) (hk : zr_M 48 gm kfr kfc kp kb ki ke kl ko kt kS) :
    sp_X_cell w x fc kfc = sp_Y_cell w x gm := by
  have e1 := sp_X_cell.eq_1 w x fc kfc
  have e2 := sp_Y_cell.eq_1 w x gm
  have hc0 := h.2.2.2.2.2.2.2.2.2
  have hc1 := hk.2.2.2.2.2.2.2.2.2
  rcases Decidable.em (sp_Y_in x 0 31 = 0) with c | c
  · have hx := zr_in0.mp c
    rw [if_pos c, ite_self] at e2
    rw [zr_out32 hx, zr_out32 hx, ite_self, ite_self] at e1
    rw [e1, e2]
  · obtain ⟨k, hk31, rfl⟩ := zr_small (n := 31) (o := x) (by decide) (fun q => c (zr_in0.mpr (Or.inl q))) (Int32.not_lt.mp (fun q => c (zr_in0.mpr (Or.inr q))))
    rw [if_neg c] at e2
    rw [zr_cellIn (by omega), zr_cellIn (by omega)] at e1
    rcases Decidable.em (w = 0) with z | z
    · subst z
      rw [if_pos rfl] at e1
      rw [if_neg (by decide)] at e2
      have e3 : (48 * 0 + 16 + nI k : Int32) = nI (16 + k) := by
        show nI 48 * nI 0 + nI 16 + nI k = _
        rw [pk_mul, nI_add, nI_add, Nat.mul_zero, Nat.zero_add]
      rw [e3, nI_clamp (by omega)] at e2
      rw [e1, e2, ← hc0 k (by omega), Nat.zero_add]
    · rw [if_neg z] at e1
      rcases Decidable.em (w = 1) with z1 | z1
      · subst z1
        rw [if_pos rfl] at e1
        rw [if_neg (by decide)] at e2
        have e3 : (48 * 1 + 16 + nI k : Int32) = nI (48 + 16 + k) := by
          show nI 48 * nI 1 + nI 16 + nI k = _
          rw [pk_mul, nI_add, nI_add]
        rw [e3, nI_clamp (by omega)] at e2
        rw [e1, e2, ← hc1 k (by omega)]
      · rw [if_neg z1] at e1
        rw [if_pos (zr_which z z1)] at e2
        rw [e1, e2]
