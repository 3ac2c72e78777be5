/-! numbers as they are written: class and reference write the same bytes -/
theorem zr_mix (h x : Int32) : sp_X_sealByte h x = sp_Y_mix h x := rfl
theorem zr_ush7 {q : Nat} (hq : q < 2 ^ 32) : zf_ushr (nI q) 7 = nI (q / 128) := pk_ushrN hq 7 7 (by decide)
theorem zr_and127 {q : Nat} (hq : q < 2 ^ 32) : nI q &&& 127 = nI (q % 128) := pk_andN hq 7 (by decide)
theorem zr_or128 : ∀ r, r < 128 → nI r ||| 128 = nI r + 128 := by decide +kernel
theorem zr_lrem {q : Nat} (hq : q < 2 ^ 63) : zf_lrem (lN q) 128 = lN (q % 128) := pk_lRem (b := 128) hq (by decide) (by decide)
theorem zr_ldiv {q : Nat} (hq : q < 2 ^ 63) : lN q / 128 = lN (q / 128) := pk_lDiv (b := 128) hq (by decide) (by decide)
theorem zr_wn : ∀ (k F j q : Nat) (f : Nat → Int32) (n : Nat) (S : Int32), q < 128 ^ k → q < 2 ^ 32 → 0 < k → j + k ≤ 5 → k ≤ F → n + k ≤ 300 → sp_J_writeNumber_4 F (nI q) j f n S = sp_Y_writeNumber_2 k (lN q) f n S := by
  intro k
  induction k with
  | zero => intro F j q f n S h1 h2 h3; exact absurd h3 (Nat.lt_irrefl 0)
  | succ k ih =>
    intro F j q f n S h1 h2 h3 h4 h5 h6
    obtain ⟨F', rfl⟩ : ∃ F', F = F' + 1 := ⟨F - 1, by omega⟩
    have h63 : q < 2 ^ 63 := Nat.lt_trans h2 (by decide)
    rw [sp_J_writeNumber_4, sp_Y_writeNumber_2, if_neg (by omega), if_neg (by omega), zr_ush7 h2, zr_and127 h2]
    rcases Decidable.em (q < 128) with hq | hq
    · have c1 : nI (q / 128) = 0 := by rw [Nat.div_eq_of_lt hq]; rfl
      have c2 : lN q < 128 := (pk_lLT (b := 128) h63 (by decide)).mpr hq
      rw [if_pos c1, if_pos c2, Nat.mod_eq_of_lt hq]
      show (upd f n (nI q), n + 1, sp_X_sealByte S (nI q)) = (upd f n (Int64.toInt32 (lN q)), n + 1, sp_Y_mix S (Int64.toInt32 (lN q)))
      rw [lN_i]
      rfl
    · have hd : 0 < q / 128 := Nat.div_pos (by omega) (by decide)
      have hd2 : q / 128 < 2 ^ 25 := by omega
      have c1 : ¬ nI (q / 128) = 0 := nI_ne0 hd (by omega)
      have c2 : ¬ lN q < 128 := fun g => hq ((pk_lLT (b := 128) h63 (by decide)).mp g)
      rw [if_neg c1, if_neg c2, zr_or128 _ (Nat.mod_lt _ (by decide))]
      show _ = sp_Y_writeNumber_2 k (lN q / 128) (upd f n (Int64.toInt32 (zf_lrem (lN q) 128) + 128)) (n + 1) (sp_Y_mix S (Int64.toInt32 (zf_lrem (lN q) 128) + 128))
      rw [zr_lrem h63, lN_i, zr_ldiv h63, zr_mix]
      have h7 : q / 128 < 128 ^ k := by
        rw [Nat.pow_succ] at h1
        exact (Nat.div_lt_iff_lt_mul (by decide)).mpr h1
      have h8 : 0 < k := by
        rcases k with _ | k
        · exfalso; omega
        · exact Nat.succ_pos k
      exact ih F' (j + 1) (q / 128) _ _ _ h7 (by omega) h8 (by omega) (by omega) (by omega)
theorem zr_wnle : ∀ (k : Nat) (r : Int64) (f : Nat → Int32) (n : Nat) (S : Int32), (sp_Y_writeNumber_2 k r f n S).2.1 ≤ n + k := by
  intro k
  induction k with
  | zero => intro r f n S; exact Nat.le_refl _
  | succ k ih =>
    intro r f n S
    rw [sp_Y_writeNumber_2]
    rcases Decidable.em (r < 128) with h | h
    · rw [if_pos h]
      show n + 1 ≤ n + (k + 1)
      omega
    · rw [if_neg h]
      have := ih (r / 128) (upd f n (Int64.toInt32 (zf_lrem r 128) + 128)) (n + 1) (sp_Y_mix S (Int64.toInt32 (zf_lrem r 128) + 128))
      show (sp_Y_writeNumber_2 k (r / 128) (upd f n (Int64.toInt32 (zf_lrem r 128) + 128)) (n + 1) (sp_Y_mix S (Int64.toInt32 (zf_lrem r 128) + 128))).2.1 ≤ n + (k + 1)
      omega
/-- a number written by both: one triple -/
theorem zr_write {q : Nat} (f : Nat → Int32) (n : Nat) (S : Int32) (hq : q < 2 ^ 32) (hn : n + 5 ≤ 300) : ∃ f' n' S', sp_J_writeNumber (nI q) f n S = (f', n', S') ∧ sp_Y_writeNumber (lN q) f n S = (f', n', S') ∧ n' ≤ n + 5 := by
  have h1 : sp_J_writeNumber (nI q) f n S = sp_Y_writeNumber (lN q) f n S := zr_wn 5 6 0 q f n S (Nat.lt_trans hq (by decide)) hq (by decide) (by decide) (by decide) hn
  have h2 := zr_wnle 5 (lN q) f n S
  have h3 : sp_Y_writeNumber (lN q) f n S = sp_Y_writeNumber_2 5 (lN q) f n S := rfl
  rw [← h3] at h2
  obtain ⟨⟨f', n', S'⟩, e⟩ : ∃ z, z = sp_Y_writeNumber (lN q) f n S := ⟨_, rfl⟩
  rw [← e] at h1 h2
  exact ⟨f', n', S', h1, e.symm, h2⟩
theorem zr_entry {t u kd : Nat} {kind : Int32} (f : Nat → Int32) (n : Nat) (S jm ye : Int32) (gm : Nat → Int32) (hk : kind = nI kd) (hu : u ≤ t) (hb : 4 * (t - u) + kd < 2 ^ 31) (ht : t < 2 ^ 31) (h9 : gm 9 = nI t) (hn : n + 5 ≤ 300) :
    ∃ f' n' S', sp_J_beginEntry (nI t) kind f n jm S (nI u) = (f', n', jm + 1, S', nI t) ∧ sp_Y_writeEntry kind gm f n ye (nI u) S = (f', n', S', nI t, ye + 1) ∧ n' ≤ n + 5 := by
  subst hk
  obtain ⟨f', n', S', e1, e2, e3⟩ := zr_write (q := 4 * (t - u) + kd) f n S (by omega) hn
  have a1 : 4 * (nI t - nI u) + nI kd = nI (4 * (t - u) + kd) := by
    show nI 4 * (nI t - nI u) + nI kd = _
    rw [pk_sub hu, pk_mul, nI_add]
  have a2 : (4 : Int64) * Int32.toInt64 (gm 9 - nI u) + Int32.toInt64 (nI kd) = lN (4 * (t - u) + kd) := by
    rw [h9, pk_sub hu, nI_l (by omega), nI_l (by omega)]
    show lN 4 * lN (t - u) + lN kd = _
    rw [lN_mul, lN_add]
  refine ⟨f', n', S', ?_, ?_, e3⟩
  · rw [sp_J_beginEntry.eq_1, a1, e1]
  · rw [sp_Y_writeEntry.eq_1, a2, e2, h9]
theorem zr_num0 {v : Int32} (h : ¬ v < 0) : ∃ q, q < 2 ^ 32 ∧ 2 * v = nI q ∧ (2 : Int64) * Int32.toInt64 v = lN q := by
  obtain ⟨j, hj, rfl⟩ := nI_of h
  refine ⟨2 * j, by omega, ?_, ?_⟩
  · show nI 2 * nI j = _
    rw [pk_mul]
  · rw [nI_l hj]
    show lN 2 * lN j = _
    rw [lN_mul]
theorem zr_num1 {v : Int32} (h : v < 0) : ∃ q, q < 2 ^ 32 ∧ (-2) * v - 1 = nI q ∧ (-2 : Int64) * Int32.toInt64 v - 1 = lN q := by
  have hv := zk_rng v
  have h1 : v.toInt < 0 := by
    have := Int32.lt_iff_toInt_lt.mp h
    have e0 : (0 : Int32).toInt = 0 := by decide
    omega
  have hq : ((-2 * v.toInt - 1).toNat : Int) = -2 * v.toInt - 1 := Int.toNat_of_nonneg (by omega)
  refine ⟨(-2 * v.toInt - 1).toNat, by omega, ?_, ?_⟩
  · have e : nI (-2 * v.toInt - 1).toNat = Int32.ofInt (-2 * v.toInt - 1) := by
      rw [← hq]; exact Int32.ofInt_eq_ofNat.symm
    rw [e, Int32.ofInt_sub, Int32.ofInt_mul, Int32.ofInt_toInt]
    rfl
  · have e : lN (-2 * v.toInt - 1).toNat = Int64.ofInt (-2 * v.toInt - 1) := by
      rw [← hq]; exact Int64.ofInt_eq_ofNat.symm
    rw [e, Int64.ofInt_sub, Int64.ofInt_mul, Int64.ofInt_int32ToInt]
    rfl
/-- the row of inputs moves down by one: by copy, or place by place -/
theorem zr_shift (gm gl : Nat → Int32) (yl : Nat) (ye yt yS : Int32) : ∀ (fuel : Nat) (v : Int32) (j : Nat) (gi : Nat → Int32) (n : Nat), j ≤ n → n - j < fuel → sp_Y_inputFor_57 gm gl yl ye yt yS fuel v j gi n = sp_Y_inputFor_57 gm gl yl ye yt yS 1 v n (fun k => if j ≤ k ∧ k < n then gi (k + 1) else gi k) n := by
  intro fuel
  induction fuel with
  | zero => intro v j gi n _ h; exact absurd h (Nat.not_lt_zero _)
  | succ fuel ih =>
    intro v j gi n hj h
    rcases Decidable.em (n ≤ j) with g | g
    · have e : j = n := by omega
      subst e
      have : (fun k => if j ≤ k ∧ k < j then gi (k + 1) else gi k) = gi := by
        funext k
        rw [if_neg (by omega)]
      rw [this, sp_Y_inputFor_57, sp_Y_inputFor_57, if_pos (Nat.le_refl _), if_pos (Nat.le_refl _)]
    · rw [sp_Y_inputFor_57, if_neg g, ih v (j + 1) _ n (by omega) (by omega)]
      congr 1
      funext k
      rcases Decidable.em (k = j) with e | e
      · subst e
        rw [if_neg (by omega), if_pos (by omega), pk_us]
      · rcases Decidable.em (j + 1 ≤ k ∧ k < n) with d | d
        · rw [if_pos d, if_pos (by omega), pk_un (by omega)]
        · rw [if_neg d, if_neg (by omega), pk_un e]
theorem zr_cpy (fi : Nat → Int32) (n : Nat) : (fun k => if 0 ≤ k ∧ k < n then fi (k + 1) else fi k) = va_cpy fi fi 1 0 n := by
  funext k
  unfold va_cpy
  rcases Decidable.em (k < n) with h | h
  · rw [if_pos (by omega), if_pos (by omega), Nat.sub_zero, Nat.add_comm]
  · rw [if_neg (by omega), if_neg (by omega)]
/-- an input taken: class and reference -/
theorem zr_input {t u : Nat} (fi : Nat → Int32) (w : Nat) (f : Nat → Int32) (n : Nat) (S jm : Int32) (gm : Nat → Int32) (gt : Nat → Int64) (gk gv : Nat → Int32) (yr : Nat) (hu : u ≤ t) (hb : 4 * (t - u) + 3 < 2 ^ 31) (ht : t < 2 ^ 31) (h9 : gm 9 = nI t) (hn : n + 10 ≤ 300) :
    ∃ r fi' w' f' n' jm' S' u', sp_R_takeInput (nI t) fi w f n jm S (nI u) = (r, fi', w', f', n', jm', S', nI u') ∧ sp_Y_inputFor 0 gm fi f gt gk gv w n jm (nI u) S yr = (r, fi', w', f', n', S', nI u', jm') ∧ n' ≤ n + 10 ∧ u' ≤ t ∧ (w ≤ 16 → w' ≤ 16) := by
  have e1 := sp_R_takeInput.eq_1 (nI t) fi w f n jm S (nI u)
  have e2 := sp_Y_inputFor.eq_1 0 gm fi f gt gk gv w n jm (nI u) S yr
  rw [if_pos (by omega)] at e2
  rcases Decidable.em (w = 0) with z | z
  · rw [if_pos z] at e1 e2
    exact ⟨_, _, _, _, _, _, _, _, e1, e2, by omega, hu, fun h => h⟩
  · rw [if_neg z] at e1 e2
    rw [zr_shift _ _ _ _ _ _ _ _ _ _ _ (by omega) (by omega), zr_cpy, sp_Y_inputFor_57, if_pos (Nat.le_refl _)] at e2
    obtain ⟨f1, n1, S1, b1, b2, b3⟩ := zr_entry (kind := 1) (kd := 1) f n S jm jm gm rfl hu (by omega) ht h9 (by omega)
    rw [b1] at e1
    rw [b2] at e2
    dsimp only at e1 e2
    rcases Decidable.em (fi 0 < 0) with c | c
    · rw [if_pos c] at e1 e2
      obtain ⟨q, hq, q1, q2⟩ := zr_num1 c
      obtain ⟨f2, n2, S2, d1, d2, d3⟩ := zr_write (q := q) f1 n1 S1 hq (by omega)
      rw [q1, d1] at e1
      rw [q2, d2] at e2
      dsimp only at e1 e2
      exact ⟨_, _, _, _, _, _, _, t, e1, e2, by omega, Nat.le_refl _, fun h => by omega⟩
    · rw [if_neg c] at e1 e2
      obtain ⟨q, hq, q1, q2⟩ := zr_num0 c
      obtain ⟨f2, n2, S2, d1, d2, d3⟩ := zr_write (q := q) f1 n1 S1 hq (by omega)
      rw [q1, d1] at e1
      rw [q2, d2] at e2
      dsimp only at e1 e2
      exact ⟨_, _, _, _, _, _, _, t, e1, e2, by omega, Nat.le_refl _, fun h => by omega⟩
/-- the clock read: class and reference -/
theorem zr_clock {t u c0 c1 : Nat} (f : Nat → Int32) (n : Nat) (S jm : Int32) (gm : Nat → Int32) (gt : Nat → Int64) (gk gv : Nat → Int32) (yr : Nat) (hu : u ≤ t) (hb : 4 * (t - u) + 3 < 2 ^ 31) (ht : t < 2 ^ 31) (h9 : gm 9 = nI t) (h12 : gm 12 = nI c0) (hc : c0 ≤ c1) (hc1 : c1 < 2 ^ 31) (hn : n + 10 ≤ 300) :
    ∃ f' n' jm' S' u', sp_R_readClock (nI t) (nI c0) (nI c1) f n jm S (nI u) = (nI c1, nI c1, f', n', jm', S', nI u') ∧ sp_Y_timeFor 0 gm f gt gk gv (nI c1) n jm (nI u) S yr = (nI c1, upd gm 12 (nI c1), f', n', S', nI u', jm') ∧ n' ≤ n + 10 ∧ u' ≤ t := by
  have e1 := sp_R_readClock.eq_1 (nI t) (nI c0) (nI c1) f n jm S (nI u)
  have e2 := sp_Y_timeFor.eq_1 0 gm f gt gk gv (nI c1) n jm (nI u) S yr
  have h12' : gm (0 + 12) = nI c0 := h12
  rw [if_pos rfl, h12'] at e2
  rcases Decidable.em (nI c1 = nI c0) with z | z
  · rw [if_pos z] at e1 e2
    exact ⟨f, n, jm, S, u, e1.trans (by rw [← z]), e2, by omega, hu⟩
  · rw [if_neg z] at e1 e2
    obtain ⟨f1, n1, S1, b1, b2, b3⟩ := zr_entry (kind := 2) (kd := 2) f n S jm jm gm rfl hu (by omega) ht h9 (by omega)
    rw [b1] at e1
    rw [b2] at e2
    dsimp only at e1 e2
    obtain ⟨f2, n2, S2, d1, d2, d3⟩ := zr_write (q := c1 - c0) f1 n1 S1 (by omega) (by omega)
    rw [pk_sub hc, d1] at e1
    rw [pk_sub hc, nI_l (by omega), d2] at e2
    dsimp only at e1 e2
    exact ⟨_, _, _, _, t, e1, e2, by omega, Nat.le_refl _⟩
