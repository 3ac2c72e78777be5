/-- a whole step of the live machine -/
theorem zr_68 (gm : Nat → Int32) (gt : Nat → Int64) (gk gv : Nat → Int32) (yr : Nat) (fo ff fs : Nat → Int32) (pn : Nat) (fr fc : Nat → Int32) (mp mb mi me ml mo mt : Int32) (mS : Nat) (fi : Nat → Int32) (w c0 c1 : Nat) (rq : Int32) (f : Nat → Int32) (n : Nat) (jm S : Int32) (u p : Nat)
    (hP : zr_prog fo fs pn) (hpn : pn ≤ 24) (hp : mp = nI p) (hp24 : p ≤ 24) (hi : mi = 0 ∨ mi = 1) (hme : me = 0) (h : zr_M 0 gm fr fc mp mb mi me ml mo mt (mS + 1)) (h12 : gm 12 = nI c0) (hc : c0 ≤ c1) (hc1 : c1 < 2 ^ 31) (hu : u ≤ mS + 1) (ht : mS + 1 < 2 ^ 28) (hn : n + 10 ≤ 300) (hw : w ≤ 16) :
    ∃ (g fr' fc' : Nat → Int32) (mp' mi' me' ml' mo' mt' : Int32) (fi' : Nat → Int32) (w' c0' : Nat) (f' : Nat → Int32) (n' : Nat) (jm' S' : Int32) (u' : Nat),
      (if mp < nI pn then
        (match sp_Y_perform 0 (fo mp.toNatClampNeg) (ff mp.toNatClampNeg) (fs mp.toNatClampNeg) gm fi f gt gk gv (nI c1) w n jm (nI u) S yr with
        | (gm_111, gi_111, yw_111, gl_111, yl_111, yS_111, yt_111, ye_111) => sp_Y_step_114 0 gm_111 gi_111 gl_111 yw_111 rq yl_111 ye_111 yt_111 yS_111)
      else sp_Y_step_114 0 (upd gm (0 + 8) 1) fi f w rq n jm (nI u) S) = (g, fi', w', rq, f', n', S', nI u', jm') ∧
      sp_M_stepR_68 fr fc mp mb mi me ml mo mt mS fo ff fs pn fi w (nI c0) (nI c1) rq f n jm S (nI u) = (1, fr', fc', mp', mb, mi', me', ml', mo', mt', mS + 1, rq, fi', w', nI c0', f', n', jm', S', nI u') ∧
      zr_M 0 g fr' fc' mp' mb mi' me' ml' mo' mt' (mS + 1) ∧ (mi' = 0 ∨ mi' = 1) ∧ (me' = 0 ∨ me' = 1) ∧ g 12 = nI c0' ∧ c0' ≤ c1 ∧ n' ≤ n + 10 ∧ u' ≤ mS + 1 ∧ w' ≤ 16 := by
  subst hp
  have e2 := sp_M_stepR_68.eq_1 fr fc (nI p) mb mi me ml mo mt mS fo ff fs pn fi w (nI c0) (nI c1) rq f n jm S (nI u)
  rw [zr_has (by omega) (by omega), nI_clamp (show p < 2 ^ 31 by omega)] at e2
  rw [nI_clamp (show p < 2 ^ 31 by omega)]
  rcases Decidable.em (p < pn) with c | c
  · rw [if_pos (show nI p < nI pn from nI_lt c (by omega))]
    rw [if_pos c, if_neg (by decide)] at e2
    obtain ⟨g, fr', fc', mp', mi', me', ml', mo', fi', w', c0', f', n', jm', S', u', d1, d2, hz, hi', hme', hg, hc', hn', hu', hw'⟩ := zr_perfL (fo p) (ff p) (fs p) gm gt gk gv yr fr fc (nI p) mb mi me ml mo mt (mS + 1) fi w c0 c1 f n jm S u (hP p c).1 hi h h12 hc hc1 hu (by omega) (by omega) hn hw
    rw [d1]
    rw [d2] at e2
    dsimp only at e2 ⊢
    obtain ⟨g', e3, hz', hg'⟩ := zr_tr hz fi' f' w' rq n' jm' (nI u') S'
    rw [sp_M_stepR_125.eq_1] at e2
    refine ⟨g', fr', fc', mp', mi', me', ml', mo', _, fi', w', c0', f', n', jm', S', u', e3, e2, hz', hi', ?_, hg'.trans hg, hc', hn', hu', hw'⟩
    rcases hme' with z | z
    · exact Or.inl (z.trans hme)
    · exact Or.inr z
  · rw [if_neg (show ¬ nI p < nI pn from nI_nlt (by omega) (by omega))]
    rw [if_neg c, if_pos rfl] at e2
    obtain ⟨g', e3, hz', hg'⟩ := zr_tr (zr_end h 1) fi f w rq n jm (nI u) S
    rw [sp_M_stepR_125.eq_1] at e2
    exact ⟨g', fr, fc, nI p, mi, 1, ml, mo, _, fi, w, c0, f, n, jm, S, u, e3, e2, hz', hi, Or.inr rfl, hg'.trans ((pk_un (by omega)).trans h12), hc, by omega, hu, hw⟩
theorem zr_stepL (gm : Nat → Int32) (gt : Nat → Int64) (gk gv : Nat → Int32) (yr : Nat) (fo ff fs : Nat → Int32) (pn : Nat) (fr fc : Nat → Int32) (mp mb mi me ml mo mt : Int32) (mS : Nat) (fi : Nat → Int32) (w c0 c1 : Nat) (rq : Int32) (f : Nat → Int32) (n : Nat) (jm S : Int32) (u p : Nat)
    (hP : zr_prog fo fs pn) (hpn : pn ≤ 24) (hp : mp = nI p) (hp24 : p ≤ 24) (hi : mi = 0 ∨ mi = 1) (hme : me = 0) (h : zr_M 0 gm fr fc mp mb mi me ml mo mt mS) (h12 : gm 12 = nI c0) (hc : c0 ≤ c1) (hc1 : c1 < 2 ^ 31) (hu : u ≤ mS) (ht : mS + 1 < 2 ^ 28) (hn : n + 10 ≤ 300) (hw : w ≤ 16) :
    ∃ (g fr' fc' : Nat → Int32) (mp' mb' mi' me' ml' mo' mt' : Int32) (fi' : Nat → Int32) (w' c0' : Nat) (rq' : Int32) (f' : Nat → Int32) (n' : Nat) (jm' S' : Int32) (u' : Nat),
      sp_Y_step 0 fo ff fs gm fi f gt gk gv pn (nI c1) w rq n jm (nI u) S yr = (g, fi', w', rq', f', n', S', nI u', jm') ∧
      sp_M_stepR fr fc mp mb mi me ml mo mt mS fo ff fs pn fi w (nI c0) rq (nI c1) f n jm S (nI u) = (1, fr', fc', mp', mb', mi', me', ml', mo', mt', mS + 1, rq', fi', w', nI c0', f', n', jm', S', nI u') ∧
      zr_M 0 g fr' fc' mp' mb' mi' me' ml' mo' mt' (mS + 1) ∧ (mi' = 0 ∨ mi' = 1) ∧ (me' = 0 ∨ me' = 1) ∧ g 12 = nI c0' ∧ c0' ≤ c1 ∧ n' ≤ n + 10 ∧ u' ≤ mS + 1 ∧ w' ≤ 16 ∧ (rq' = rq ∨ rq' = 0) := by
  have e1 := sp_Y_step.eq_1 0 fo ff fs gm fi f gt gk gv pn (nI c1) w rq n jm (nI u) S yr
  have e2 := sp_M_stepR.eq_1 fr fc mp mb mi me ml mo mt mS fo ff fs pn fi w (nI c0) rq (nI c1) f n jm S (nI u)
  rw [if_pos hme] at e2
  have hs := zr_steps h
  have i0 := sp_Y_interrupts.eq_1 0 (upd gm (0 + 9) (gm (0 + 9) + 1)) f gt gk pn rq n jm (nI u) S yr
  generalize hG : upd gm (0 + 9) (gm (0 + 9) + 1) = G at e1 hs i0
  have g12 : G 12 = nI c0 := by rw [← hG, pk_un (by omega)]; exact h12
  have g4 : G (0 + 4) = mp := hs.2.1
  have g7 : G (0 + 7) = mi := hs.2.2.2.2.1
  have g9 : G 9 = nI (mS + 1) := hs.2.2.2.2.2.2.1
  rw [g7] at i0
  rw [g4] at e1
  -- no interrupt is taken: the instruction
  have go : ∀ (rq1 : Int32), sp_Y_interrupts 0 G f gt gk pn rq n jm (nI u) S yr = (0, rq1, f, n, S, nI u, jm) → (rq1 = rq ∨ rq1 = 0) → sp_M_stepR fr fc mp mb mi me ml mo mt mS fo ff fs pn fi w (nI c0) rq (nI c1) f n jm S (nI u) = sp_M_stepR_68 fr fc mp mb mi me ml mo mt mS fo ff fs pn fi w (nI c0) (nI c1) rq1 f n jm S (nI u) →
      ∃ (g fr' fc' : Nat → Int32) (mp' mb' mi' me' ml' mo' mt' : Int32) (fi' : Nat → Int32) (w' c0' : Nat) (rq' : Int32) (f' : Nat → Int32) (n' : Nat) (jm' S' : Int32) (u' : Nat),
      sp_Y_step 0 fo ff fs gm fi f gt gk gv pn (nI c1) w rq n jm (nI u) S yr = (g, fi', w', rq', f', n', S', nI u', jm') ∧
      sp_M_stepR fr fc mp mb mi me ml mo mt mS fo ff fs pn fi w (nI c0) rq (nI c1) f n jm S (nI u) = (1, fr', fc', mp', mb', mi', me', ml', mo', mt', mS + 1, rq', fi', w', nI c0', f', n', jm', S', nI u') ∧
      zr_M 0 g fr' fc' mp' mb' mi' me' ml' mo' mt' (mS + 1) ∧ (mi' = 0 ∨ mi' = 1) ∧ (me' = 0 ∨ me' = 1) ∧ g 12 = nI c0' ∧ c0' ≤ c1 ∧ n' ≤ n + 10 ∧ u' ≤ mS + 1 ∧ w' ≤ 16 ∧ (rq' = rq ∨ rq' = 0) := by
    intro rq1 i1 hr i2
    rw [i1] at e1
    dsimp only at e1
    rw [if_pos rfl] at e1
    obtain ⟨g, fr', fc', mp', mi', me', ml', mo', mt', fi', w', c0', f', n', jm', S', u', d1, d2, hz, hi', hme', hg, hc', hn', hu', hw'⟩ := zr_68 G gt gk gv yr fo ff fs pn fr fc mp mb mi me ml mo mt mS fi w c0 c1 rq1 f n jm S u p hP hpn hp hp24 hi hme hs g12 hc hc1 (by omega) ht hn hw
    exact ⟨g, fr', fc', mp', mb, mi', me', ml', mo', mt', fi', w', c0', rq1, f', n', jm', S', u', e1.trans d1, i2.trans d2, hz, hi', hme', hg, hc', hn', hu', hw', hr⟩
  have hh : sp_P_has 16 pn = if 16 < pn then 1 else 0 := zr_has (p := 16) (by decide) (by omega)
  rcases hi with z | z
  · rw [if_pos z] at i0 e2
    rw [hh] at e2
    rcases Decidable.em (16 < pn) with c | c
    · rw [if_pos c, if_neg (by decide)] at e2
      rw [if_neg (by omega), if_pos (by omega)] at i0
      have e3 := sp_R_takeInterrupt.eq_1 (nI (mS + 1)) rq f n jm S (nI u)
      rcases Decidable.em (rq = 0) with q | q
      · rw [if_pos q] at i0 e3
        rw [e3] at e2
        dsimp only at e2
        rw [if_pos rfl] at e2
        exact go rq i0 (Or.inl rfl) e2
      · rw [if_neg q] at i0 e3
        obtain ⟨f', n', S', b1, b2, b3⟩ := zr_entry (t := mS + 1) (u := u) (kind := 3) (kd := 3) f n S jm jm G rfl (by omega) (by omega) (by omega) g9 (by omega)
        rw [b1] at e3
        rw [b2] at i0
        dsimp only at i0 e3
        rw [e3] at e2
        rw [i0] at e1
        dsimp only at e1 e2
        rw [if_neg (by decide)] at e1 e2
        have hz := zr_in (zr_place (zr_back hs mp) 16) 1
        obtain ⟨g', e4, hz', hg'⟩ := zr_tr hz fi f' w 0 n' (jm + 1) (nI (mS + 1)) S'
        rw [sp_M_stepR_125.eq_1] at e2
        exact ⟨g', fr, fc, 16, mp, 1, me, ml, mo, _, fi, w, c0, 0, f', n', jm + 1, S', mS + 1, e1.trans e4, e2, hz', Or.inr rfl, Or.inl hme, hg'.trans (by rw [pk_un (by omega), pk_un (by omega), pk_un (by omega)]; exact g12), hc, by omega, Nat.le_refl _, hw, Or.inr rfl⟩
    · rw [if_neg c, if_pos rfl] at e2
      rw [if_pos (by omega), if_pos (by omega)] at i0
      exact go rq i0 (Or.inl rfl) e2
  · rw [if_neg (by rw [z]; decide)] at i0 e2
    rw [if_pos (by omega)] at i0
    exact go rq i0 (Or.inl rfl) e2
