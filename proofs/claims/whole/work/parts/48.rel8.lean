/-! the log read again: all entries; the reader that goes through them, and the table that is searched -/
/-- what a read log is: places P, steps T (T i before entry i, T (i + 1) its own), kinds, numbers -/
def zr_seq (f : Nat → Int32) (n : Nat) (gt : Nat → Int64) (gk gv : Nat → Int32) (a b : Nat) (P T κ : Nat → Nat) (raw : Nat → Int32) : Prop :=
  ∀ i, a ≤ i → i < b → P i < n ∧ P i < P (i + 1) ∧ P (i + 1) ≤ n ∧ (∀ dk dv, sp_D_readEntry (P i) 0 (lN (T i)) dk dv f n = (P (i + 1), 1, 0, lN (T (i + 1)), nI (κ i), raw i)) ∧ gt i = lN (T (i + 1)) ∧ gk i = nI (κ i) ∧ (κ i = 1 ∨ κ i = 2 ∨ κ i = 3) ∧ gv i = zr_val (κ i) (raw i) ∧ T i < T (i + 1) ∧ T (i + 1) ≤ (i + 1) * 2 ^ 30
theorem zr_end0 (f : Nat → Int32) (n dp : Nat) (ds : Int64) (dk dv : Int32) (hn : n ≤ 300) (hd : n ≤ dp) (hdp : dp ≤ 300) : sp_D_readEntry dp 0 ds dk dv f n = (dp, 0, 0, ds, dk, dv) := by
  have hh : sp_J_has (nI dp) n = 0 := by rw [zr_hasJ (by omega) (by omega), if_neg (by omega)]
  rw [sp_D_readEntry.eq_1, if_pos rfl, hh, if_pos rfl]
theorem zr_all (f : Nat → Int32) (n : Nat) (hn : n ≤ 300) : ∀ (fuel dp yr σ : Nat) (gt : Nat → Int64) (gk gv : Nat → Int32), dp ≤ n → n - dp < fuel → yr ≤ dp → σ ≤ yr * 2 ^ 30 →
    (∃ gt' gk' gv' yr', sp_Y_readAll_12 f n fuel (lN σ) gt gk gv yr dp = (1, gt', gk', gv', yr', n) ∧ (∀ i, i < yr → gt' i = gt i ∧ gk' i = gk i ∧ gv' i = gv i) ∧ yr ≤ yr' ∧ yr' ≤ n ∧ (∃ P T κ raw, P yr = dp ∧ T yr = σ ∧ P yr' = n ∧ zr_seq f n gt' gk' gv' yr yr' P T κ raw) ∧
      ∀ (ds : Int64) (dk dv : Int32) (fuelX j : Nat), j + (n - dp) ≤ 300 → n - dp < fuelX → ∃ z, (match sp_D_readEntry dp 0 ds dk dv f n with | (a, b, c, d, e, g) => sp_T_isReadable_9 f n fuelX j a b c d e g) = (1, z)) ∨
    (∃ z', sp_Y_readAll_12 f n fuel (lN σ) gt gk gv yr dp = (0, z') ∧
      ∀ (ds : Int64) (dk dv : Int32) (fuelX j : Nat), j + (n - dp) ≤ 300 → n - dp < fuelX → ∃ z, (match sp_D_readEntry dp 0 ds dk dv f n with | (a, b, c, d, e, g) => sp_T_isReadable_9 f n fuelX j a b c d e g) = (0, z)) := by
  intro fuel
  induction fuel with
  | zero => intro dp yr σ gt gk gv hd hf; exact absurd hf (Nat.not_lt_zero _)
  | succ fuel ih =>
    intro dp yr σ gt gk gv hd hf hy hσ
    rcases Decidable.em (dp < n) with c | c
    · rcases zr_one f n dp hn c with ⟨d', h⟩ | ⟨d', dist, kd, raw0, k1, k2, k3, k4, k5, k6, k7⟩
      · right
        obtain ⟨y, hy0⟩ := (h 0 0 0).2 fuel (lN σ) gt gk gv yr
        refine ⟨_, hy0, fun ds dk dv fuelX j hj hfx => ?_⟩
        obtain ⟨x1, x2, x3, hx⟩ := (h ds dk dv).1
        obtain ⟨F, rfl⟩ : ∃ F, fuelX = F + 1 := ⟨fuelX - 1, by omega⟩
        rw [hx]
        dsimp only
        rw [sp_T_isReadable_9, if_neg (by omega), if_pos rfl, if_neg (by decide)]
        exact ⟨_, rfl⟩
      · have e := k7 fuel (lN σ) gt gk gv yr
        rw [lN_add] at e
        have goX : ∀ (r : Int32), (∀ (ds : Int64) (dk dv : Int32) (fuelX j : Nat), j + (n - d') ≤ 300 → n - d' < fuelX → ∃ z, (match sp_D_readEntry d' 0 ds dk dv f n with | (a, b, c, d, e, g) => sp_T_isReadable_9 f n fuelX j a b c d e g) = (r, z)) →
            ∀ (ds : Int64) (dk dv : Int32) (fuelX j : Nat), j + (n - dp) ≤ 300 → n - dp < fuelX → ∃ z, (match sp_D_readEntry dp 0 ds dk dv f n with | (a, b, c, d, e, g) => sp_T_isReadable_9 f n fuelX j a b c d e g) = (r, z) := by
          intro r hr ds dk dv fuelX j hj hfx
          obtain ⟨F, rfl⟩ : ∃ F, fuelX = F + 1 := ⟨fuelX - 1, by omega⟩
          rw [k6 ds dk dv]
          dsimp only
          rw [sp_T_isReadable_9, if_neg (by omega), if_neg (by decide)]
          exact hr (ds + lN dist) (nI kd) raw0 F (j + 1) (by omega) (by omega)
        rcases ih d' (yr + 1) (σ + dist) (vp_updL gt yr (lN (σ + dist))) (upd gk yr (nI kd)) (upd gv yr (zr_val kd raw0)) k2 (by omega) (by omega) (by omega) with ⟨gt', gk', gv', yr', m1, m2, m3, m4, ⟨P, T, κ, raw, p1, p2, p3, p4⟩, m5⟩ | ⟨z', m1, m5⟩
        · left
          refine ⟨gt', gk', gv', yr', e.trans m1, ?_, by omega, m4, ⟨fun i => if i = yr then dp else P i, fun i => if i = yr then σ else T i, fun i => if i = yr then kd else κ i, fun i => if i = yr then raw0 else raw i, if_pos rfl, if_pos rfl, ?_, ?_⟩, goX 1 m5⟩
          · intro i hi
            obtain ⟨q1, q2, q3⟩ := m2 i (by omega)
            refine ⟨q1.trans ?_, q2.trans (pk_un (by omega)), q3.trans (pk_un (by omega))⟩
            exact pk_uLn (by omega)
          · show (if yr' = yr then dp else P yr') = n
            rw [if_neg (by omega)]; exact p3
          · intro i h1 h2
            dsimp only
            rcases Decidable.em (i = yr) with ei | ei
            · subst ei
              obtain ⟨q1, q2, q3⟩ := m2 i (by omega)
              rw [if_pos rfl, if_neg (show ¬ i + 1 = i by omega), if_pos rfl, if_neg (show ¬ i + 1 = i by omega), if_pos rfl, if_pos rfl, p1, p2]
              refine ⟨c, k1, k2, fun dk dv => ?_, ?_, ?_, k5, ?_, by omega, by omega⟩
              · rw [k6, lN_add]
              · rw [q1]; exact pk_uLs
              · rw [q2]; exact pk_us
              · rw [q3]; exact pk_us
            · rw [if_neg ei, if_neg (show ¬ i + 1 = yr by omega), if_neg ei, if_neg (show ¬ i + 1 = yr by omega), if_neg ei, if_neg ei]
              exact p4 i (by omega) h2
        · right
          exact ⟨z', e.trans m1, goX 0 m5⟩
    · left
      have ed : dp = n := by omega
      subst ed
      refine ⟨gt, gk, gv, yr, ?_, fun _ _ => ⟨rfl, rfl, rfl⟩, Nat.le_refl _, hy, ⟨fun _ => dp, fun _ => σ, fun _ => 1, fun _ => 0, rfl, rfl, rfl, fun i h1 h2 => by omega⟩, ?_⟩
      · rw [sp_Y_readAll_12, if_pos (Nat.le_refl _)]
      · intro ds dk dv fuelX j hj hfx
        obtain ⟨F, rfl⟩ : ∃ F, fuelX = F + 1 := ⟨fuelX - 1, by omega⟩
        rw [zr_end0 f dp dp ds dk dv hn (Nat.le_refl _) (by omega)]
        dsimp only
        rw [sp_T_isReadable_9]
        rcases Decidable.em (300 ≤ j) with g | g
        · rw [if_pos g, if_pos rfl]; exact ⟨_, rfl⟩
        · rw [if_neg g, if_pos rfl, if_pos rfl]; exact ⟨_, rfl⟩
theorem zr_rew (dk dv : Int32) (f : Nat → Int32) (n : Nat) : sp_D_rewind dk dv f n = sp_D_readEntry 0 0 0 dk dv f n := rfl
/-- readable to both, with what was read, or to neither -/
theorem zr_readable (f : Nat → Int32) (n : Nat) (hn : n ≤ 300) (gt : Nat → Int64) (gk gv : Nat → Int32) (dk dv : Int32) :
    (∃ gt' gk' gv' yr' z, sp_Y_readAll f gt gk gv n = (1, gt', gk', gv', yr', n) ∧ sp_T_isReadable dk dv f n = (1, z) ∧ yr' ≤ n ∧ ∃ P T κ raw, P 0 = 0 ∧ T 0 = 0 ∧ P yr' = n ∧ zr_seq f n gt' gk' gv' 0 yr' P T κ raw) ∨
    (∃ z z', sp_Y_readAll f gt gk gv n = (0, z') ∧ sp_T_isReadable dk dv f n = (0, z)) := by
  rcases zr_all f n hn (n + 1) 0 0 0 gt gk gv (Nat.zero_le _) (by omega) (Nat.le_refl _) (by omega) with ⟨gt', gk', gv', yr', m1, m2, m3, m4, m5, m6⟩ | ⟨z', m1, m6⟩
  · obtain ⟨z, hz⟩ := m6 0 dk dv 301 0 (by omega) (by omega)
    exact Or.inl ⟨gt', gk', gv', yr', z, m1, hz, m4, m5⟩
  · obtain ⟨z, hz⟩ := m6 0 dk dv 301 0 (by omega) (by omega)
    exact Or.inr ⟨z, z', m1, hz⟩
/-- the reader stands at entry e (or behind the last) -/
def zr_at (Y : Nat) (P T κ : Nat → Nat) (raw : Nat → Int32) (e dp : Nat) (de dB : Int32) (ds : Int64) (dk dv : Int32) : Prop :=
  e ≤ Y ∧ dB = 0 ∧ (e < Y → dp = P (e + 1) ∧ de = 1 ∧ ds = lN (T (e + 1)) ∧ dk = nI (κ e) ∧ dv = raw e) ∧ (e = Y → dp = P Y ∧ de = 0)
theorem zr_next {f : Nat → Int32} {n : Nat} {gt : Nat → Int64} {gk gv : Nat → Int32} {Y : Nat} {P T κ : Nat → Nat} {raw : Nat → Int32} (hn : n ≤ 300) (hs : zr_seq f n gt gk gv 0 Y P T κ raw) (hY : P Y = n) {e : Nat} (he : e < Y) (ds : Int64) (hds : ds = lN (T e)) (dk dv : Int32) :
    ∃ dp' de' dB' ds' dk' dv', sp_D_readEntry (P e) 0 ds dk dv f n = (dp', de', dB', ds', dk', dv') ∧ zr_at Y P T κ raw e dp' de' dB' ds' dk' dv' := by
  subst hds
  obtain ⟨a1, a2, a3, a4, _⟩ := hs e (Nat.zero_le _) he
  exact ⟨_, _, _, _, _, _, a4 dk dv, by omega, rfl, fun _ => ⟨rfl, rfl, rfl, rfl, rfl⟩, fun h => absurd h (by omega)⟩
theorem zr_hasE {f : Nat → Int32} {n : Nat} {gt : Nat → Int64} {gk gv : Nat → Int32} {Y : Nat} {P T κ : Nat → Nat} {raw : Nat → Int32} (hn : n ≤ 300) (hs : zr_seq f n gt gk gv 0 Y P T κ raw) (hY : P Y = n) (hYn : Y ≤ n) {t : Nat} (ht : t < 2 ^ 31) (kind : Int32) :
    ∀ (fuel j e dp : Nat) (de dB : Int32) (ds : Int64) (dk dv : Int32), zr_at Y P T κ raw e dp de dB ds dk dv → (∀ i, i < e → T (i + 1) < t) → j + (Y - e) ≤ 300 → Y - e < fuel →
    ∃ r e' dp' de' dB' ds' dk' dv', sp_T_hasEntry_2 (nI t) kind f n fuel j dp de dB ds dk dv = (r, dp', de', dB', ds', dk', dv') ∧ zr_at Y P T κ raw e' dp' de' dB' ds' dk' dv' ∧ (∀ i, i < e' → T (i + 1) < t) ∧ (e' < Y → t ≤ T (e' + 1)) ∧ (r = if e' < Y ∧ T (e' + 1) = t ∧ nI (κ e') = kind then 1 else 0) := by
  intro fuel
  induction fuel with
  | zero => intro j e dp de dB ds dk dv _ _ _ h; exact absurd h (Nat.not_lt_zero _)
  | succ fuel ih =>
    intro j e dp de dB ds dk dv hat hlt hj hf
    have e64 : Int32.toInt64 (nI t) = lN t := nI_l ht
    have hat' := hat
    obtain ⟨h1, h2, h3, h4⟩ := hat'
    rcases Decidable.em (e < Y) with c | c
    · obtain ⟨x1, x2, x3, x4, x5⟩ := h3 c
      obtain ⟨_, _, _, _, _, _, _, _, _, hb⟩ := hs e (Nat.zero_le _) c
      have hT : T (e + 1) < 2 ^ 63 := by omega
      have ht63 : t < 2 ^ 63 := by omega
      rw [sp_T_hasEntry_2, if_neg (by omega), x2, if_neg (by decide), e64, x3]
      rcases Decidable.em (t ≤ T (e + 1)) with g | g
      · rw [if_pos ((pk_lLE ht63 hT).mpr g), sp_T_hasEntry_45.eq_1, if_neg (by decide), e64, x4]
        rcases Decidable.em (T (e + 1) = t) with w | w
        · rw [if_pos (by rw [w])]
          rcases Decidable.em (nI (κ e) = kind) with v | v
          · rw [if_pos v]
            exact ⟨_, e, _, _, _, _, _, _, rfl, by rw [← x2, ← x3, ← x4]; exact hat, hlt, fun _ => g, by rw [if_pos ⟨c, w, v⟩]⟩
          · rw [if_neg v]
            exact ⟨_, e, _, _, _, _, _, _, rfl, by rw [← x2, ← x3, ← x4]; exact hat, hlt, fun _ => g, by rw [if_neg (fun q => v q.2.2)]⟩
        · rw [if_neg (fun q => w ((pk_lEQ hT ht63).mp q))]
          exact ⟨_, e, _, _, _, _, _, _, rfl, by rw [← x2, ← x3, ← x4]; exact hat, hlt, fun _ => g, by rw [if_neg (fun q => w q.2.1)]⟩
      · rw [if_neg (fun q => g ((pk_lLE ht63 hT).mp q)), x1, h2]
        have hlt2 : ∀ i, i < e + 1 → T (i + 1) < t := fun i hi => by
          rcases Nat.lt_or_eq_of_le (Nat.le_of_lt_succ hi) with q | q
          · exact hlt i q
          · rw [q]; omega
        rcases Decidable.em (e + 1 < Y) with c2 | c2
        · obtain ⟨dp', de', dB', ds', dk', dv', k1, k2⟩ := zr_next hn hs hY c2 (lN (T (e + 1))) rfl dk dv
          rw [k1]
          dsimp only
          exact ih (j + 1) (e + 1) dp' de' dB' ds' dk' dv' k2 hlt2 (by omega) (by omega)
        · have eY : e + 1 = Y := by omega
          rw [eY, hY, zr_end0 f n n _ dk dv hn (Nat.le_refl _) hn]
          dsimp only
          exact ih (j + 1) (e + 1) n 0 0 _ dk dv ⟨by omega, rfl, fun h => absurd h (by omega), fun _ => ⟨hY.symm, rfl⟩⟩ hlt2 (by omega) (by omega)
    · have eY : e = Y := by omega
      obtain ⟨y1, y2⟩ := h4 eY
      have done : sp_T_hasEntry_45 (nI t) kind dp de dB ds dk dv = (0, dp, de, dB, ds, dk, dv) := by rw [sp_T_hasEntry_45.eq_1, if_pos y2]
      have hres : sp_T_hasEntry_2 (nI t) kind f n (fuel + 1) j dp de dB ds dk dv = (0, dp, de, dB, ds, dk, dv) := by
        rw [sp_T_hasEntry_2]
        rcases Decidable.em (300 ≤ j) with g | g
        · rw [if_pos g, done]
        · rw [if_neg g, if_pos y2, done]
      exact ⟨_, e, _, _, _, _, _, _, hres, hat, hlt, fun h => absurd h c, by rw [if_neg (fun q => c q.1)]⟩
theorem zr_mono {f : Nat → Int32} {n : Nat} {gt : Nat → Int64} {gk gv : Nat → Int32} {Y : Nat} {P T κ : Nat → Nat} {raw : Nat → Int32} (hs : zr_seq f n gt gk gv 0 Y P T κ raw) : ∀ (d i : Nat), i + d < Y → T (i + 1) ≤ T (i + d + 1) := by
  intro d
  induction d with
  | zero => intro i _; exact Nat.le_refl _
  | succ d ih =>
    intro i h
    have h1 := ih i (by omega)
    obtain ⟨_, _, _, _, _, _, _, _, h2, _⟩ := hs (i + d + 1) (Nat.zero_le _) (by omega)
    have e : i + (d + 1) + 1 = i + d + 1 + 1 := by omega
    rw [e]
    omega
/-- the search in the reference's table finds the entry at which the reader stands, or none -/
theorem zr_found {f : Nat → Int32} {n : Nat} {gt : Nat → Int64} {gk gv : Nat → Int32} {Y : Nat} {P T κ : Nat → Nat} {raw : Nat → Int32} (hs : zr_seq f n gt gk gv 0 Y P T κ raw) (hY3 : Y ≤ 300) {t M : Nat} (ht : t < 2 ^ 31) (kind : Int32) (gm : Nat → Int32) (h9 : gm (M + 9) = nI t) {e : Nat} (hlt : ∀ i, i < e → T (i + 1) < t) (hge : e < Y → t ≤ T (e + 1)) :
    sp_Y_found M kind gm gt gk Y = if e < Y ∧ T (e + 1) = t ∧ nI (κ e) = kind then nI e else -1 := by
  have e64 : Int32.toInt64 (gm (M + 9)) = lN t := by rw [h9]; exact nI_l ht
  have key : ∀ (fuel j : Nat) (e1 : Int32), Y - j < fuel → sp_Y_found_5 M kind gm gt gk Y fuel e1 j = if j ≤ e ∧ (e < Y ∧ T (e + 1) = t ∧ nI (κ e) = kind) then nI e else e1 := by
    intro fuel
    induction fuel with
    | zero => intro j e1 h; exact absurd h (Nat.not_lt_zero _)
    | succ fuel ih =>
      intro j e1 hf
      rw [sp_Y_found_5]
      rcases Decidable.em (Y ≤ j) with c | c
      · rw [if_pos c, if_neg (fun q => by omega)]
      · rw [if_neg c, e64]
        obtain ⟨_, _, _, _, a5, a6, _, _, a9, a10⟩ := hs j (Nat.zero_le _) (by omega)
        rw [a5, a6]
        have hT : T (j + 1) < 2 ^ 63 := by omega
        rcases Decidable.em (T (j + 1) = t) with w | w
        · have ej : j = e := by
            rcases Nat.lt_trichotomy j e with q | q | q
            · have := hlt j q; omega
            · exact q
            · have h1 := hge (by omega)
              have h2 := zr_mono hs (j - e - 1) (e + 1) (by omega)
              obtain ⟨_, _, _, _, _, _, _, _, h3, _⟩ := hs (e + 1) (Nat.zero_le _) (by omega)
              have e3 : e + 1 + (j - e - 1) + 1 = j + 1 := by omega
              rw [e3] at h2
              omega
          rw [if_pos (by rw [w])]
          rcases Decidable.em (nI (κ j) = kind) with v | v
          · rw [if_pos v, ih (j + 1) _ (by omega), if_neg (fun q => by omega), if_pos ⟨by omega, by omega, by rw [← ej]; exact w, by rw [← ej]; exact v⟩, ej]
          · rw [if_neg v, ih (j + 1) _ (by omega), if_neg (fun q => by omega), if_neg (fun q => v (by rw [ej]; exact q.2.2.2))]
        · rw [if_neg (fun q => w ((pk_lEQ hT (by omega)).mp q)), ih (j + 1) _ (by omega)]
          rcases Decidable.em (j = e) with ej | ej
          · rw [if_neg (fun q => by omega), if_neg (fun q => w (by rw [ej]; exact q.2.2.1))]
          · rcases Decidable.em (j ≤ e ∧ (e < Y ∧ T (e + 1) = t ∧ nI (κ e) = kind)) with q | q
            · rw [if_pos q, if_pos ⟨by omega, q.2⟩]
            · rw [if_neg q, if_neg (fun p => q ⟨by omega, p.2⟩)]
  have h := key (Y + 1) 0 (-1) (by omega)
  show sp_Y_found_5 M kind gm gt gk Y (Y + 1) (-1) 0 = _
  rw [h]
  rcases Decidable.em (e < Y ∧ T (e + 1) = t ∧ nI (κ e) = kind) with q | q
  · rw [if_pos q, if_pos ⟨Nat.zero_le _, q⟩]
  · rw [if_neg q, if_neg (fun p => q p.2)]
