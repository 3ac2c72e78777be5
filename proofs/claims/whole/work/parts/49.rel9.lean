/-! a step of the told machine: class and reference -/
section ZR9
variable {f : Nat → Int32} {n : Nat} {gt : Nat → Int64} {gk gv : Nat → Int32} {Y : Nat} {P T κ : Nat → Nat} {raw : Nat → Int32}
/-- the question for an entry of this step and kind -/
theorem zr_ask (hn : n ≤ 300) (hs : zr_seq f n gt gk gv 0 Y P T κ raw) (hY : P Y = n) (hYn : Y ≤ n) {t M : Nat} (ht : t < 2 ^ 31) (kind : Int32) (gm : Nat → Int32) (h9 : gm (M + 9) = nI t) {e dp : Nat} {de dB : Int32} {ds : Int64} {dk dv : Int32} (hat : zr_at Y P T κ raw e dp de dB ds dk dv) (hlt : ∀ i, i < e → T (i + 1) < t) :
    ∃ e' dp' de' dB' ds' dk' dv', zr_at Y P T κ raw e' dp' de' dB' ds' dk' dv' ∧ (∀ i, i < e' → T (i + 1) < t) ∧
      ((sp_T_hasEntry (nI t) kind dp de dB ds dk dv f n = (0, dp', de', dB', ds', dk', dv') ∧ sp_Y_found M kind gm gt gk Y = -1) ∨
       (sp_T_hasEntry (nI t) kind dp de dB ds dk dv f n = (1, dp', de', dB', ds', dk', dv') ∧ sp_Y_found M kind gm gt gk Y = nI e' ∧ e' < Y ∧ nI (κ e') = kind ∧ dv' = raw e')) := by
  obtain ⟨r, e', dp', de', dB', ds', dk', dv', k1, k2, k3, k4, k5⟩ := zr_hasE hn hs hY hYn ht kind 301 0 e dp de dB ds dk dv hat hlt (by omega) (by omega)
  have hf := zr_found hs (by omega) ht kind gm h9 k3 k4
  refine ⟨e', dp', de', dB', ds', dk', dv', k2, k3, ?_⟩
  rcases Decidable.em (e' < Y ∧ T (e' + 1) = t ∧ nI (κ e') = kind) with q | q
  · rw [if_pos q] at k5 hf
    subst k5
    exact Or.inr ⟨k1, hf, q.1, q.2.2, (k2.2.2.1 q.1).2.2.2.2⟩
  · rw [if_neg q] at k5 hf
    subst k5
    exact Or.inl ⟨k1, hf⟩
theorem zr_perfK (hn : n ≤ 300) (hs : zr_seq f n gt gk gv 0 Y P T κ raw) (hY : P Y = n) (hYn : Y ≤ n) (o a b : Int32) (gm gi gl : Nat → Int32) (yc : Int32) (yw yl : Nat) (ye yt yS : Int32) (fr fc : Nat → Int32) (mp mb mi me ml mo mt : Int32) (t : Nat) (tt : Int32) {e dp : Nat} {de dB : Int32} {ds : Int64} {dk dv : Int32}
    (ho : zr_op o) (hi : mi = 0 ∨ mi = 1) (h : zr_M 48 gm fr fc mp mb mi me ml mo mt t) (h12 : gm (48 + 12) = tt) (ht : t < 2 ^ 31) (hat : zr_at Y P T κ raw e dp de dB ds dk dv) (hlt : ∀ i, i < e → T (i + 1) < t) :
    ∃ (g fr' fc' : Nat → Int32) (mp' mi' me' ml' mo' tt' : Int32) (e' dp' : Nat) (de' dB' : Int32) (ds' : Int64) (dk' dv' : Int32),
      sp_Y_perform 48 o a b gm gi gl gt gk gv yc yw yl ye yt yS Y = (g, gi, yw, gl, yl, yS, yt, ye) ∧
      sp_M_performT o a b fr fc (mp + 1) mb mi me ml mo t tt dp de dB ds dk dv f n = (fr', fc', mp', mi', me', ml', mo', tt', dp', de', dB', ds', dk', dv') ∧
      zr_M 48 g fr' fc' mp' mb mi' me' ml' mo' mt t ∧ (mi' = 0 ∨ mi' = 1) ∧ (me' = me ∨ me' = 1) ∧ g (48 + 12) = tt' ∧ zr_at Y P T κ raw e' dp' de' dB' ds' dk' dv' ∧ (∀ i, i < e' → T (i + 1) < t) := by
  have h9 : gm (48 + 9) = nI t := h.2.2.2.2.2.2.1
  have h4 : gm (48 + 4) = mp := h.2.1
  have hpl := zr_place h (mp + 1)
  have ha := zk_ix3_lt a
  have u9 : (upd gm (48 + 4) (mp + 1)) (48 + 9) = nI t := by rw [pk_un (by omega)]; exact h9
  have u12 : (upd gm (48 + 4) (mp + 1)) (48 + 12) = tt := by rw [pk_un (by omega)]; exact h12
  rcases Decidable.em (o = 7) with c7 | c7
  · subst c7
    have e1 := sp_Y_perform.eq_1 48 7 a b gm gi gl gt gk gv yc yw yl ye yt yS Y
    have e2 := sp_M_performT.eq_1 7 a b fr fc (mp + 1) mb mi me ml mo t tt dp de dB ds dk dv f n
    rw [if_neg (by decide), if_neg (by decide), if_neg (by decide), if_neg (by decide), if_neg (by decide), if_neg (by decide), if_neg (by decide), if_pos rfl] at e1 e2
    rw [h4, sp_Y_inputFor.eq_1, if_neg (by omega)] at e1
    rw [sp_T_takeInput.eq_1] at e2
    obtain ⟨e', dp', de', dB', ds', dk', dv', k1, k2, ⟨k3, k4⟩ | ⟨k3, k4, k5, k6, k7⟩⟩ := zr_ask hn hs hY hYn ht 1 _ u9 hat hlt
    · rw [k3] at e2
      rw [k4, if_pos (by decide)] at e1
      dsimp only at e1 e2
      rw [if_pos rfl] at e2
      dsimp only at e2
      exact ⟨_, _, _, _, _, _, _, _, _, e', _, _, _, _, _, _, e1, e2, zr_reg hpl ha, hi, Or.inl rfl, by rw [pk_un (by omega)]; exact u12, k1, k2⟩
    · rw [k3] at e2
      rw [k4, if_neg (nI_pos (by omega)), nI_clamp (by omega)] at e1
      dsimp only at e1 e2
      rw [if_neg (by decide)] at e2
      obtain ⟨_, _, _, _, _, _, a7, a8, _, _⟩ := hs e' (Nat.zero_le _) k5
      have κ1 : κ e' = 1 := (nI_eq (b := 1) (by omega) (by decide)).mp k6
      rw [a8, κ1] at e1
      have hv : zr_val 1 (raw e') = if (dv' &&& 1) = 0 then zf_ushr dv' 1 else (-(zf_ushr dv' 1)) - 1 := by rw [k7]; rfl
      rw [hv] at e1
      rcases Decidable.em ((dv' &&& 1) = 0) with w | w
      · rw [if_pos w] at e1 e2
        dsimp only at e2
        exact ⟨_, _, _, _, _, _, _, _, _, e', _, _, _, _, _, _, e1, e2, zr_reg hpl ha, hi, Or.inl rfl, by rw [pk_un (by omega)]; exact u12, k1, k2⟩
      · rw [if_neg w] at e1 e2
        dsimp only at e2
        exact ⟨_, _, _, _, _, _, _, _, _, e', _, _, _, _, _, _, e1, e2, zr_reg hpl ha, hi, Or.inl rfl, by rw [pk_un (by omega)]; exact u12, k1, k2⟩
  rcases Decidable.em (o = 8) with c8 | c8
  · subst c8
    have e1 := sp_Y_perform.eq_1 48 8 a b gm gi gl gt gk gv yc yw yl ye yt yS Y
    have e2 := sp_M_performT.eq_1 8 a b fr fc (mp + 1) mb mi me ml mo t tt dp de dB ds dk dv f n
    rw [if_neg (by decide), if_neg (by decide), if_neg (by decide), if_neg (by decide), if_neg (by decide), if_neg (by decide), if_neg (by decide), if_neg (by decide), if_pos rfl] at e1 e2
    rw [h4, sp_Y_timeFor.eq_1, if_neg (by decide), u12] at e1
    rw [sp_T_readClock.eq_1] at e2
    obtain ⟨e', dp', de', dB', ds', dk', dv', k1, k2, ⟨k3, k4⟩ | ⟨k3, k4, k5, k6, k7⟩⟩ := zr_ask hn hs hY hYn ht 2 _ u9 hat hlt
    · rw [k3] at e2
      rw [k4, if_pos (by decide)] at e1
      dsimp only at e1 e2
      rw [if_pos rfl] at e2
      dsimp only at e2
      exact ⟨_, _, _, _, _, _, _, _, _, e', _, _, _, _, _, _, e1, e2, zr_reg (zr_clk hpl tt) ha, hi, Or.inl rfl, by rw [pk_un (by omega), pk_us], k1, k2⟩
    · rw [k3] at e2
      rw [k4, if_neg (nI_pos (by omega)), nI_clamp (by omega)] at e1
      dsimp only at e1 e2
      rw [if_neg (by decide)] at e2
      dsimp only at e2
      obtain ⟨_, _, _, _, _, _, a7, a8, _, _⟩ := hs e' (Nat.zero_le _) k5
      have κ2 : κ e' = 2 := (nI_eq (b := 2) (by omega) (by decide)).mp k6
      have hv : zr_val 2 (raw e') = dv' := by rw [k7]; rfl
      rw [a8, κ2, hv] at e1
      exact ⟨_, _, _, _, _, _, _, _, _, e', _, _, _, _, _, _, e1, e2, zr_reg (zr_clk hpl _) ha, hi, Or.inl rfl, by rw [pk_un (by omega), pk_us], k1, k2⟩
  obtain ⟨g, fr', fc', mp', mi', me', ml', mo', e1, e2, hz, hi', hme, hg⟩ := zr_perfT 48 o a b gm gi gl gt gk gv yc yw yl ye yt yS Y fr fc mp mb mi me ml mo mt t t tt dp de dB ds dk dv f n ho c7 c8 hi h
  exact ⟨g, fr', fc', mp', mi', me', ml', mo', tt, e, dp, de, dB, ds, dk, dv, e1, e2, hz, hi', hme, hg.trans h12, hat, hlt⟩
theorem zr_68K (hn : n ≤ 300) (hs : zr_seq f n gt gk gv 0 Y P T κ raw) (hY : P Y = n) (hYn : Y ≤ n) (gm gi gl : Nat → Int32) (yc : Int32) (yw : Nat) (yq : Int32) (yl : Nat) (ye yt yS : Int32) (fo ff fs : Nat → Int32) (pn : Nat) (fr fc : Nat → Int32) (mp mb mi me ml mo mt : Int32) (mS : Nat) (tt : Int32) (p : Nat) {e dp : Nat} {de dB : Int32} {ds : Int64} {dk dv : Int32}
    (hP : zr_prog fo fs pn) (hpn : pn ≤ 24) (hp : mp = nI p) (hp24 : p ≤ 24) (hi : mi = 0 ∨ mi = 1) (hme : me = 0) (h : zr_M 48 gm fr fc mp mb mi me ml mo mt (mS + 1)) (h12 : gm (48 + 12) = tt) (ht : mS + 1 < 2 ^ 31) (hat : zr_at Y P T κ raw e dp de dB ds dk dv) (hlt : ∀ i, i < e → T (i + 1) < mS + 1) :
    ∃ (g fr' fc' : Nat → Int32) (mp' mi' me' ml' mo' mt' tt' : Int32) (e' dp' : Nat) (de' dB' : Int32) (ds' : Int64) (dk' dv' : Int32),
      (if mp < nI pn then
        (match sp_Y_perform 48 (fo mp.toNatClampNeg) (ff mp.toNatClampNeg) (fs mp.toNatClampNeg) gm gi gl gt gk gv yc yw yl ye yt yS Y with
        | (gm_111, gi_111, yw_111, gl_111, yl_111, yS_111, yt_111, ye_111) => sp_Y_step_114 48 gm_111 gi_111 gl_111 yw_111 yq yl_111 ye_111 yt_111 yS_111)
      else sp_Y_step_114 48 (upd gm (48 + 8) 1) gi gl yw yq yl ye yt yS) = (g, gi, yw, yq, gl, yl, yS, yt, ye) ∧
      sp_M_stepT_68 fr fc mp mb mi me ml mo mt mS fo ff fs pn tt f n dp de dB ds dk dv = (1, fr', fc', mp', mb, mi', me', ml', mo', mt', mS + 1, tt', dp', de', dB', ds', dk', dv') ∧
      zr_M 48 g fr' fc' mp' mb mi' me' ml' mo' mt' (mS + 1) ∧ (mi' = 0 ∨ mi' = 1) ∧ (me' = 0 ∨ me' = 1) ∧ g (48 + 12) = tt' ∧ zr_at Y P T κ raw e' dp' de' dB' ds' dk' dv' ∧ (∀ i, i < e' → T (i + 1) < mS + 1) := by
  subst hp
  have e2 := sp_M_stepT_68.eq_1 fr fc (nI p) mb mi me ml mo mt mS fo ff fs pn tt f n dp de dB ds dk dv
  rw [zr_has (by omega) (by omega), nI_clamp (show p < 2 ^ 31 by omega)] at e2
  rw [nI_clamp (show p < 2 ^ 31 by omega)]
  rcases Decidable.em (p < pn) with c | c
  · rw [if_pos (show nI p < nI pn from nI_lt c (by omega))]
    rw [if_pos c, if_neg (by decide)] at e2
    obtain ⟨g, fr', fc', mp', mi', me', ml', mo', tt', e', dp', de', dB', ds', dk', dv', d1, d2, hz, hi', hme', hg, k1, k2⟩ := zr_perfK hn hs hY hYn (fo p) (ff p) (fs p) gm gi gl yc yw yl ye yt yS fr fc (nI p) mb mi me ml mo mt (mS + 1) tt (hP p c).1 hi h h12 ht hat hlt
    rw [d1]
    rw [d2] at e2
    dsimp only at e2 ⊢
    obtain ⟨g', e3, hz', hg'⟩ := zr_tr hz gi gl yw yq yl ye yt yS
    rw [sp_M_stepT_125.eq_1] at e2
    refine ⟨g', fr', fc', mp', mi', me', ml', mo', _, tt', e', dp', de', dB', ds', dk', dv', e3, e2, hz', hi', ?_, hg'.trans hg, k1, k2⟩
    rcases hme' with z | z
    · exact Or.inl (z.trans hme)
    · exact Or.inr z
  · rw [if_neg (show ¬ nI p < nI pn from nI_nlt (by omega) (by omega))]
    rw [if_neg c, if_pos rfl] at e2
    obtain ⟨g', e3, hz', hg'⟩ := zr_tr (zr_end h 1) gi gl yw yq yl ye yt yS
    rw [sp_M_stepT_125.eq_1] at e2
    exact ⟨g', fr, fc, nI p, mi, 1, ml, mo, _, tt, e, dp, de, dB, ds, dk, dv, e3, e2, hz', hi, Or.inr rfl, hg'.trans ((pk_un (by omega)).trans h12), hat, hlt⟩
theorem zr_stepK (hn : n ≤ 300) (hs : zr_seq f n gt gk gv 0 Y P T κ raw) (hY : P Y = n) (hYn : Y ≤ n) (gm gi gl : Nat → Int32) (yc : Int32) (yw : Nat) (yq : Int32) (yl : Nat) (ye yt yS : Int32) (fo ff fs : Nat → Int32) (pn : Nat) (fr fc : Nat → Int32) (mp mb mi me ml mo mt : Int32) (mS : Nat) (tt : Int32) (p : Nat) {e dp : Nat} {de dB : Int32} {ds : Int64} {dk dv : Int32}
    (hP : zr_prog fo fs pn) (hpn : pn ≤ 24) (hp : mp = nI p) (hp24 : p ≤ 24) (hi : mi = 0 ∨ mi = 1) (hme : me = 0) (h : zr_M 48 gm fr fc mp mb mi me ml mo mt mS) (h12 : gm (48 + 12) = tt) (ht : mS + 1 < 2 ^ 31) (hat : zr_at Y P T κ raw e dp de dB ds dk dv) (hlt : ∀ i, i < e → T (i + 1) < mS + 1) :
    ∃ (g fr' fc' : Nat → Int32) (mp' mb' mi' me' ml' mo' mt' tt' : Int32) (e' dp' : Nat) (de' dB' : Int32) (ds' : Int64) (dk' dv' : Int32),
      sp_Y_step 48 fo ff fs gm gi gl gt gk gv pn yc yw yq yl ye yt yS Y = (g, gi, yw, yq, gl, yl, yS, yt, ye) ∧
      sp_M_stepT fr fc mp mb mi me ml mo mt mS fo ff fs pn tt dp de dB ds dk dv f n = (1, fr', fc', mp', mb', mi', me', ml', mo', mt', mS + 1, tt', dp', de', dB', ds', dk', dv') ∧
      zr_M 48 g fr' fc' mp' mb' mi' me' ml' mo' mt' (mS + 1) ∧ (mi' = 0 ∨ mi' = 1) ∧ (me' = 0 ∨ me' = 1) ∧ g (48 + 12) = tt' ∧ zr_at Y P T κ raw e' dp' de' dB' ds' dk' dv' ∧ (∀ i, i < e' → T (i + 1) < mS + 1) := by
  have e1 := sp_Y_step.eq_1 48 fo ff fs gm gi gl gt gk gv pn yc yw yq yl ye yt yS Y
  have e2 := sp_M_stepT.eq_1 fr fc mp mb mi me ml mo mt mS fo ff fs pn tt dp de dB ds dk dv f n
  rw [if_pos hme] at e2
  have hst := zr_steps h
  have i0 := sp_Y_interrupts.eq_1 48 (upd gm (48 + 9) (gm (48 + 9) + 1)) gl gt gk pn yq yl ye yt yS Y
  generalize hG : upd gm (48 + 9) (gm (48 + 9) + 1) = G at e1 hst i0
  have g12 : G (48 + 12) = tt := by rw [← hG, pk_un (by omega)]; exact h12
  have g4 : G (48 + 4) = mp := hst.2.1
  have g7 : G (48 + 7) = mi := hst.2.2.2.2.1
  have g9 : G (48 + 9) = nI (mS + 1) := hst.2.2.2.2.2.2.1
  rw [g7] at i0
  rw [g4] at e1
  have go : ∀ (e1' dp1 : Nat) (de1 dB1 : Int32) (ds1 : Int64) (dk1 dv1 : Int32), zr_at Y P T κ raw e1' dp1 de1 dB1 ds1 dk1 dv1 → (∀ i, i < e1' → T (i + 1) < mS + 1) → sp_Y_interrupts 48 G gl gt gk pn yq yl ye yt yS Y = (0, yq, gl, yl, yS, yt, ye) → sp_M_stepT fr fc mp mb mi me ml mo mt mS fo ff fs pn tt dp de dB ds dk dv f n = sp_M_stepT_68 fr fc mp mb mi me ml mo mt mS fo ff fs pn tt f n dp1 de1 dB1 ds1 dk1 dv1 →
      ∃ (g fr' fc' : Nat → Int32) (mp' mb' mi' me' ml' mo' mt' tt' : Int32) (e' dp' : Nat) (de' dB' : Int32) (ds' : Int64) (dk' dv' : Int32),
      sp_Y_step 48 fo ff fs gm gi gl gt gk gv pn yc yw yq yl ye yt yS Y = (g, gi, yw, yq, gl, yl, yS, yt, ye) ∧
      sp_M_stepT fr fc mp mb mi me ml mo mt mS fo ff fs pn tt dp de dB ds dk dv f n = (1, fr', fc', mp', mb', mi', me', ml', mo', mt', mS + 1, tt', dp', de', dB', ds', dk', dv') ∧
      zr_M 48 g fr' fc' mp' mb' mi' me' ml' mo' mt' (mS + 1) ∧ (mi' = 0 ∨ mi' = 1) ∧ (me' = 0 ∨ me' = 1) ∧ g (48 + 12) = tt' ∧ zr_at Y P T κ raw e' dp' de' dB' ds' dk' dv' ∧ (∀ i, i < e' → T (i + 1) < mS + 1) := by
    intro e1' dp1 de1 dB1 ds1 dk1 dv1 hat1 hlt1 i1 i2
    rw [i1] at e1
    dsimp only at e1
    rw [if_pos rfl] at e1
    obtain ⟨g, fr', fc', mp', mi', me', ml', mo', mt', tt', e', dp', de', dB', ds', dk', dv', d1, d2, hz, hi', hme', hg, k1, k2⟩ := zr_68K hn hs hY hYn G gi gl yc yw yq yl ye yt yS fo ff fs pn fr fc mp mb mi me ml mo mt mS tt p hP hpn hp hp24 hi hme hst g12 ht hat1 hlt1
    exact ⟨g, fr', fc', mp', mb, mi', me', ml', mo', mt', tt', e', dp', de', dB', ds', dk', dv', e1.trans d1, i2.trans d2, hz, hi', hme', hg, k1, k2⟩
  have hh : sp_P_has 16 pn = if 16 < pn then 1 else 0 := zr_has (p := 16) (by decide) (by omega)
  rcases hi with z | z
  · rw [if_pos z] at i0 e2
    rw [hh] at e2
    rcases Decidable.em (16 < pn) with c | c
    · rw [if_pos c, if_neg (by decide)] at e2
      rw [if_neg (by omega), if_neg (by omega)] at i0
      rw [sp_T_takeInterrupt.eq_1] at e2
      obtain ⟨e', dp', de', dB', ds', dk', dv', k1, k2, ⟨k3, k4⟩ | ⟨k3, k4, k5, k6, k7⟩⟩ := zr_ask hn hs hY hYn ht 3 G g9 hat hlt
      · rw [k3] at e2
        rw [k4, if_pos (by decide)] at i0
        dsimp only at e2
        rw [if_pos rfl] at e2
        exact go e' dp' de' dB' ds' dk' dv' k1 k2 i0 e2
      · rw [k3] at e2
        rw [k4, if_neg (nI_pos (by omega))] at i0
        dsimp only at e2
        rw [i0] at e1
        dsimp only at e1
        rw [if_neg (by decide)] at e1 e2
        have hz := zr_in (zr_place (zr_back hst mp) 16) 1
        obtain ⟨g', e4, hz', hg'⟩ := zr_tr hz gi gl yw yq yl ye yt yS
        rw [sp_M_stepT_125.eq_1] at e2
        exact ⟨g', fr, fc, 16, mp, 1, me, ml, mo, _, tt, e', dp', de', dB', ds', dk', dv', e1.trans e4, e2, hz', Or.inr rfl, Or.inl hme, hg'.trans (by rw [pk_un (by omega), pk_un (by omega), pk_un (by omega)]; exact g12), k1, k2⟩
    · rw [if_neg c, if_pos rfl] at e2
      rw [if_pos (by omega), if_neg (by omega)] at i0
      exact go e dp de dB ds dk dv hat hlt i0 e2
  · rw [if_neg (by rw [z]; decide)] at i0 e2
    rw [if_neg (by omega)] at i0
    exact go e dp de dB ds dk dv hat hlt i0 e2
end ZR9
