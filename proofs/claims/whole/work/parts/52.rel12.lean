/-! the calls over the whole relation -/
theorem zr_shift8 {k : Nat} (hk : k < 4) (w : Int32) : (zf_ushr w (8 * nI k)) &&& 255 = (zf_shr w (8 * nI k)) &&& 255 := by
  have e : 8 * nI k = nI (8 * k) := pk_mul 8 k
  apply b_ext
  intro i hi
  rw [b_and, b_and, b_255, e]
  unfold zf_ushr zf_shr
  rw [b_ushr (8 * k) (by omega), b_sshr (8 * k) (by omega) w hi]
  rcases Nat.lt_or_ge i 8 with h | h
  · rw [if_pos (by omega)]
  · rw [decide_eq_false (by omega), Bool.and_false, Bool.and_false]
theorem zr_seal1 (w : Int32) : ∀ (fuel : Nat) (h i : Int32), i.toInt < 4 → sp_X_sealed_20 w fuel h i = sp_Y_sealed_19 w fuel h i := by
  intro fuel
  induction fuel with
  | zero => intro h i _; rfl
  | succ fuel ih =>
    intro h i hi
    rw [sp_X_sealed_20, sp_Y_sealed_19]
    rcases Decidable.em (i < 0) with c | c
    · rw [if_pos c, if_pos c]
    · rw [if_neg c, if_neg c]
      obtain ⟨e1, e2⟩ := zk_dec c
      obtain ⟨j, hj, rfl⟩ := nI_of c
      rw [nI_toInt hj] at hi
      rw [zr_shift8 (by omega), zr_mix]
      exact ih _ _ (by rw [e1, nI_toInt hj]; omega)
theorem zr_sealed (h w n : Int32) : sp_X_sealed h w n = sp_Y_sealed h w n := by
  have e1 := sp_X_sealed.eq_1 h w n
  have e2 := sp_Y_sealed.eq_1 h w n
  rcases Decidable.em (n < 1) with c | c
  · rw [if_pos c] at e1
    rw [if_pos (zr_in0.mpr (Or.inl c))] at e2
    rw [e1, e2]
  · rw [if_neg c] at e1
    rcases Decidable.em (n ≤ 4) with d | d
    · rw [if_pos d] at e1
      rw [if_neg (fun q => by rcases zr_in0.mp q with w | w; exact c w; exact absurd d (Int32.not_le.mpr w))] at e2
      rw [e1, e2]
      exact zr_seal1 w 5 h (n - 1) (zk_n1 c d).1
    · rw [if_neg d] at e1
      rw [if_pos (zr_in0.mpr (Or.inr (Int32.not_le.mp d)))] at e2
      rw [e1, e2]
theorem zr_sealNow1 (f : Nat → Int32) (n : Nat) : ∀ (fuel : Nat) (h : Int32) (j : Nat), sp_J_sealNow_4 f n fuel h j = sp_Y_sealNow_4 f n fuel h j := by
  intro fuel
  induction fuel with
  | zero => intro h j; rfl
  | succ fuel ih =>
    intro h j
    rw [sp_J_sealNow_4, sp_Y_sealNow_4]
    rcases Decidable.em (n ≤ j) with c | c
    · rw [if_pos c, if_pos c]
    · rw [if_neg c, if_neg c, zr_mix]
      exact ih _ _
theorem zr_sealNow (f : Nat → Int32) (n : Nat) : sp_J_sealNow f n = sp_Y_sealNow f n := zr_sealNow1 f n (n + 1) 1 0
theorem zr_fill1 (v : Int32) (n : Nat) : ∀ (fuel j : Nat) (f : Nat → Int32), n - j < fuel → ∀ k, sp_A_fill_5 v n fuel j f k = if j ≤ k ∧ k < n then v else f k := by
  intro fuel
  induction fuel with
  | zero => intro j f h; exact absurd h (Nat.not_lt_zero _)
  | succ fuel ih =>
    intro j f h k
    rw [sp_A_fill_5]
    rcases Decidable.em (n ≤ j) with c | c
    · rw [if_pos c, if_neg (by omega)]
    · rw [if_neg c, ih (j + 1) _ (by omega)]
      rcases Decidable.em (k = j) with e | e
      · subst e
        rw [if_neg (by omega), if_pos (by omega), pk_us]
      · rw [pk_un e]
        rcases Decidable.em (j + 1 ≤ k ∧ k < n) with d | d
        · rw [if_pos d, if_pos (by omega)]
        · rw [if_neg d, if_neg (by omega)]
theorem zr_fill {f : Nat → Int32} {n k : Nat} (hk : k < n) : sp_A_fill 0 f n k = 0 := by
  show sp_A_fill_5 0 n (n + 1) 0 f k = 0
  rw [zr_fill1 0 n (n + 1) 0 f (by omega) k, if_pos ⟨Nat.zero_le _, hk⟩]
/-- a machine anew -/
theorem zr_anew (M : Nat) (gm fr fc : Nat → Int32) (ys : Int32) : zr_M M (sp_Y_anew M gm ys) (sp_A_fill 0 fr 4) (sp_A_fill 0 fc 32) 0 0 0 0 ys 0 0 0 := by
  refine ⟨fun k hk => ?_, ?_, ?_, ?_, ?_, ?_, ?_, ?_, ?_, fun k hk => ?_⟩
  · rw [zf_anew, if_neg (by omega), if_pos (by omega), zr_fill hk]
  · rw [zf_anew, if_neg (by omega), if_pos (by omega)]
  · rw [zf_anew, if_neg (by omega), if_pos (by omega)]
  · rw [zf_anew, if_neg (by omega), if_pos (by omega)]
  · rw [zf_anew, if_neg (by omega), if_pos (by omega)]
  · rw [zf_anew, if_neg (by omega), if_pos (by omega)]
  · rw [zf_anew, if_neg (by omega), if_pos (by omega)]; rfl
  · rw [zf_anew, if_neg (by omega), if_pos (by omega)]
  · rw [zf_anew, if_pos rfl]
  · rw [zf_anew, if_neg (by omega), if_pos (by omega), zr_fill hk]
section ZRC
variable {N : Nat} {gm : Nat → Int32} {xb : Int32} {fo ff fs : Nat → Int32} {pn : Nat} {fr fc : Nat → Int32} {mp mb mi me ml mo mt : Int32} {mS : Nat} {kfr kfc : Nat → Int32} {kp kb ki ke kl ko kt : Int32} {kS : Nat} {fi : Nat → Int32} {w : Nat} {rt rq rc : Int32} {fb : Nat → Int32} {jn : Nat} {jm jS jl : Int32}
theorem zr_R.up (h : zr_R N gm xb fo fs pn fr fc mp mb mi me ml mo mt mS kfr kfc kp kb ki ke kl ko kt kS w rt rq rc jn jl) : zr_R (N + 1) gm xb fo fs pn fr fc mp mb mi me ml mo mt mS kfr kfc kp kb ki ke kl ko kt kS w rt rq rc jn jl := by
  obtain ⟨c0, c1, u, h1, h2, h3, h4, h5, h6, h7, h8, h9, h10, h11, h12⟩ := h
  exact ⟨c0, c1, u, h1, h2, h3, h4, h5, h6, h7, h8, h9, h10, by omega, by omega⟩
theorem zc_add (o a b : Int32) (h : zr_R N gm xb fo fs pn fr fc mp mb mi me ml mo mt mS kfr kfc kp kb ki ke kl ko kt kS w rt rq rc jn jl) :
    ∃ r fo' ff' fs' pn', sp_X_add o a b xb fo ff fs pn = (r, fo', ff', fs', pn') ∧ sp_Y_add o a b fo ff fs pn xb = (r, fo', ff', fs', pn') ∧ zr_R (N + 1) gm xb fo' fs' pn' fr fc mp mb mi me ml mo mt mS kfr kfc kp kb ki ke kl ko kt kS w rt rq rc jn jl := by
  obtain ⟨c0, c1, u, ⟨a1, a2, a3⟩, h2, h3, h4, h5, h6, h7, h8, h9, h10, h11, h12⟩ := h
  obtain ⟨r, fo', ff', fs', pn', e1, e2, e3, e4⟩ := zr_add o a b xb fo ff fs pn h9 h8
  exact ⟨r, fo', ff', fs', pn', e1, e2, c0, c1, u, ⟨a1, ⟨zr_YP e3, a2.2⟩, a3⟩, h2, h3, h4, h5, h6, h7, e3, e4, h10, by omega, by omega⟩
theorem zc_clear (xs : Int32) (h : zr_R N gm xb fo fs pn fr fc mp mb mi me ml mo mt mS kfr kfc kp kb ki ke kl ko kt kS w rt rq rc jn jl) :
    ∃ gm' fr' fc', sp_X_clear xs pn fr fc = (nI pn, 0, 0, fr', fc', 0, 0, 0, 0, xs, 0, 0, 0, 0, 0, 1, 0, 0, 0, 0, 0) ∧ sp_Y_clear gm xs pn = (nI pn, gm', 0, 0, 0, 0, 0, 0, 0, 0, 1) ∧ zr_R (N + 1) gm' 0 fo fs 0 fr' fc' 0 0 0 0 xs 0 0 0 kfr kfc kp kb ki ke kl ko kt kS 0 0 0 0 0 0 := by
  obtain ⟨c0, c1, u, ⟨a1, a2, a3⟩, h2, h3, h4, h5, h6, h7, h8, h9, h10, h11, h12⟩ := h
  refine ⟨sp_Y_anew 0 gm xs, sp_A_fill 0 fr 4, sp_A_fill 0 fc 32, rfl, rfl, 0, 0, 0, ⟨zr_anew 0 gm fr fc xs, zf_anewI 0 (fun k hk => absurd hk (Nat.not_lt_zero _)), ?_, Nat.le_refl _, Or.inl rfl, Or.inl rfl, Or.inl rfl, by omega, Nat.le_refl _, by omega⟩, rfl, rfl, rfl, ?_, h6, h7, fun k hk => absurd hk (Nat.not_lt_zero _), by omega, Or.inl rfl, by omega, by omega⟩
  · rw [zf_anew, if_neg (by omega), if_pos (by omega)]; rfl
  · obtain ⟨kz, h5⟩ := h5
    exact ⟨kz, zr_frame h5 (fun k h1 h2 => by rw [zf_anew, if_neg (by omega), if_neg (by omega)])⟩
theorem zc_input (v : Int32) (h : zr_R N gm xb fo fs pn fr fc mp mb mi me ml mo mt mS kfr kfc kp kb ki ke kl ko kt kS w rt rq rc jn jl) :
    ∃ r fi' w', sp_X_input v fi w = (r, fi', w') ∧ sp_Y_input v fi w = (r, fi', w') ∧ zr_R (N + 1) gm xb fo fs pn fr fc mp mb mi me ml mo mt mS kfr kfc kp kb ki ke kl ko kt kS w' rt rq rc jn jl := by
  obtain ⟨c0, c1, u, ⟨a1, a2, a3, a4, a5, a6, a7, a8, a9, a10⟩, h2, h3, h4, h5, h6, h7, h8, h9, h10, h11, h12⟩ := h
  have e1 := zr_inp v fi w
  have e2 := sp_Y_input.eq_1 v fi w
  rcases Decidable.em (w < 16) with c | c
  · rw [if_pos c] at e2
    exact ⟨_, _, _, e1.trans e2, e2, c0, c1, u, ⟨a1, a2, a3, a4, a5, a6, a7, a8, a9, by omega⟩, h2, h3, h4, h5, h6, h7, h8, h9, h10, by omega, by omega⟩
  · rw [if_neg c] at e2
    exact ⟨_, _, _, e1.trans e2, e2, c0, c1, u, ⟨a1, a2, a3, a4, a5, a6, a7, a8, a9, a10⟩, h2, h3, h4, h5, h6, h7, h8, h9, h10, by omega, by omega⟩
theorem zc_request (h : zr_R N gm xb fo fs pn fr fc mp mb mi me ml mo mt mS kfr kfc kp kb ki ke kl ko kt kS w rt rq rc jn jl) :
    ∃ r rq', sp_X_request rq = (r, rq') ∧ sp_Y_request rq = (r, rq') ∧ zr_R (N + 1) gm xb fo fs pn fr fc mp mb mi me ml mo mt mS kfr kfc kp kb ki ke kl ko kt kS w rt rq' rc jn jl := by
  obtain ⟨c0, c1, u, ⟨a1, a2, a3, a4, a5, a6, a7, a8⟩, h2, h3, h4, h5, h6, h7, h8, h9, h10, h11, h12⟩ := h
  have e1 := zr_req a7
  have e2 := sp_Y_request.eq_1 rq
  rcases Decidable.em (rq = 0) with c | c
  · rw [if_pos c] at e2
    exact ⟨_, _, e1.trans e2, e2, c0, c1, u, ⟨a1, a2, a3, a4, a5, a6, Or.inr rfl, a8⟩, h2, h3, h4, h5, h6, h7, h8, h9, h10, by omega, by omega⟩
  · rw [if_neg c] at e2
    exact ⟨_, _, e1.trans e2, e2, c0, c1, u, ⟨a1, a2, a3, a4, a5, a6, Or.inr rfl, a8⟩, h2, h3, h4, h5, h6, h7, h8, h9, h10, by omega, by omega⟩
theorem zc_pass (n : Int32) (h : zr_R N gm xb fo fs pn fr fc mp mb mi me ml mo mt mS kfr kfc kp kb ki ke kl ko kt kS w rt rq rc jn jl) :
    ∃ r rc', sp_X_pass n rc = (r, rc') ∧ sp_Y_pass n rc = (r, rc') ∧ zr_R (N + 1) gm xb fo fs pn fr fc mp mb mi me ml mo mt mS kfr kfc kp kb ki ke kl ko kt kS w rt rq rc' jn jl := by
  obtain ⟨c0, c1, u, ⟨a1, a2, a3, a4, a5⟩, h2, h3, h4, h5, h6, h7, h8, h9, h10, h11, h12⟩ := h
  subst h3
  obtain ⟨r, c1', e1, e2, e3, e4⟩ := zr_pass n h12
  exact ⟨r, _, e1, e2, c0, c1', u, ⟨a1, a2, a3, by omega, a5⟩, h2, rfl, h4, h5, h6, h7, h8, h9, h10, by omega, e4⟩
theorem zc_run (n : Int32) (gt : Nat → Int64) (gk gv : Nat → Int32) (yr : Nat) (hN : N ≤ 512) (h : zr_R N gm xb fo fs pn fr fc mp mb mi me ml mo mt mS kfr kfc kp kb ki ke kl ko kt kS w rt rq rc jn jl) :
    ∃ r gm' xb' fr' fc' mp' mb' mi' me' ml' mo' mt' mS' fi' w' rt' rq' fb' jn' jm' jS' jl', sp_X_run n xb fo ff fs pn fr fc mp mb mi me ml mo mt mS fi w rt rq rc fb jn jm jS jl = (r, xb', fr', fc', mp', mb', mi', me', ml', mo', mt', mS', fi', w', rt', rq', fb', jn', jm', jS', jl') ∧
      sp_Y_run n fo ff fs gm fi fb gt gk gv pn xb rc w rq jn jm jl jS yr = (r, xb', gm', fi', w', rq', fb', jn', jS', jl', jm') ∧ zr_R (N + 1) gm' xb' fo fs pn fr' fc' mp' mb' mi' me' ml' mo' mt' mS' kfr kfc kp kb ki ke kl ko kt kS w' rt' rq' rc jn' jl' := by
  have h' := h
  obtain ⟨c0, c1, u, a1, rfl, rfl, rfl, h5, h6, h7, h8, h9, h10, h11, h12⟩ := h'
  have e1 := sp_X_run.eq_1 n xb fo ff fs pn fr fc mp mb mi me ml mo mt mS fi w (nI c0) rq (nI c1) fb jn jm jS (nI u)
  have e2 := sp_Y_run.eq_1 n fo ff fs gm fi fb gt gk gv pn xb (nI c1) w rq jn jm (nI u) jS yr
  have out : sp_Y_in n 1 100 = 0 → sp_X_run n xb fo ff fs pn fr fc mp mb mi me ml mo mt mS fi w (nI c0) rq (nI c1) fb jn jm jS (nI u) = ((-1), xb, fr, fc, mp, mb, mi, me, ml, mo, mt, mS, fi, w, nI c0, rq, fb, jn, jm, jS, nI u) → _ := fun hin e => by
    rw [if_pos hin] at e2
    exact (⟨_, gm, _, _, _, _, _, _, _, _, _, _, _, _, _, _, _, _, _, _, _, _, e, e2, h.up⟩ : ∃ r gm' xb' fr' fc' mp' mb' mi' me' ml' mo' mt' mS' fi' w' rt' rq' fb' jn' jm' jS' jl', sp_X_run n xb fo ff fs pn fr fc mp mb mi me ml mo mt mS fi w (nI c0) rq (nI c1) fb jn jm jS (nI u) = (r, xb', fr', fc', mp', mb', mi', me', ml', mo', mt', mS', fi', w', rt', rq', fb', jn', jm', jS', jl') ∧
      sp_Y_run n fo ff fs gm fi fb gt gk gv pn xb (nI c1) w rq jn jm (nI u) jS yr = (r, xb', gm', fi', w', rq', fb', jn', jS', jl', jm') ∧ zr_R (N + 1) gm' xb' fo fs pn fr' fc' mp' mb' mi' me' ml' mo' mt' mS' kfr kfc kp kb ki ke kl ko kt kS w' rt' rq' (nI c1) jn' jl')
  rcases Decidable.em (n < 1) with c | c
  · rw [if_pos c] at e1
    exact out (zr_in0.mpr (Or.inl c)) e1
  · rw [if_neg c] at e1
    rcases Decidable.em (n ≤ 100) with d | d
    · rw [if_pos d] at e1
      rw [if_neg (fun q => by rcases zr_in0.mp q with w | w; exact c w; exact absurd d (Int32.not_le.mpr w))] at e2
      obtain ⟨r, g, x1, x2, x3, x4, x5, x6, x7, x8, x9, x10, x11, x12, c0', x14, x15, x16, x17, x18, u', k1, k2, k3, k4, k5⟩ := zr_run n gt gk gv yr fo ff fs pn c1 h8 h9 (by omega) 101 0 gm fr fc mp mb mi me ml mo mt mS fi w c0 rq fb jn jm jS u a1 (by omega)
      exact ⟨r, g, 1, x1, x2, x3, x4, x5, x6, x7, x8, x9, x10, x11, x12, _, x14, x15, x16, x17, x18, _, e1.trans k2, e2.trans k1, c0', c1, u', k3, rfl, rfl, rfl, (by obtain ⟨kz, h5⟩ := h5; exact ⟨kz, zr_frame h5 (fun k q1 q2 => k5 k q1)⟩), h6, h7, h8, h9, Or.inr rfl, by omega, by omega⟩
    · rw [if_neg d] at e1
      exact out (zr_in0.mpr (Or.inr (Int32.not_le.mp d))) e1
theorem zc_tell (sv n xs : Int32) (gt : Nat → Int64) (gk gv : Nat → Int32) (yr ya : Nat) (tt : Int32) (dp : Nat) (de dB : Int32) (ds : Int64) (dk dv : Int32) (hN : N ≤ 512) (h : zr_R N gm xb fo fs pn fr fc mp mb mi me ml mo mt mS kfr kfc kp kb ki ke kl ko kt kS w rt rq rc jn jl) :
    ∃ r gm' kfr' kfc' kp' kb' ki' ke' kl' ko' kt' kS' tt' dp' de' dB' ds' dk' dv' gt' gk' gv' yr' ya', sp_X_tell sv n xs fo ff fs pn fr fc mp mi me mo mt mS kfr kfc kp kb ki ke kl ko kt kS tt dp de dB ds dk dv fb jn = (r, kfr', kfc', kp', kb', ki', ke', kl', ko', kt', kS', tt', dp', de', dB', ds', dk', dv') ∧
      sp_Y_tell sv n mS fo ff fs gm fi fb gt gk gv xs pn rc w rq jn jm jl jS yr ya = (r, gm', fi, w, rq, fb, jn, jS, jl, jm, gt', gk', gv', yr', ya') ∧ zr_R (N + 1) gm' xb fo fs pn fr fc mp mb mi me ml mo mt mS kfr' kfc' kp' kb' ki' ke' kl' ko' kt' kS' w rt rq rc jn jl := by
  have h' := h
  obtain ⟨c0, c1, u, a1, rfl, rfl, rfl, h5, h6, h7, h8, h9, h10, h11, h12⟩ := h'
  obtain ⟨b1, b2, b3, b4, b5, b6, b7, b8, b9, b10⟩ := a1
  have e1 := sp_X_tell.eq_1 sv n xs fo ff fs pn fr fc mp mi me mo mt mS kfr kfc kp kb ki ke kl ko kt kS tt dp de dB ds dk dv fb jn
  have e2 := sp_Y_tell.eq_1 sv n mS fo ff fs gm fi fb gt gk gv xs pn (nI c1) w rq jn jm (nI u) jS yr ya
  rcases Decidable.em (n = nI jn) with c | c
  · rw [if_pos c] at e1 e2
    rw [zr_sealNow] at e1
    rcases Decidable.em (sv = sp_Y_sealNow fb jn) with d | d
    · rw [if_pos d] at e1 e2
      rcases zr_readable fb jn b8 gt gk gv dk dv with ⟨gt', gk', gv', Y, ⟨z1, z2, z3, z4, z5, z6⟩, q1, q2, q3, P, T, κ, raw, q4, q5, q6, q7⟩ | ⟨⟨z1, z2, z3, z4, z5, z6⟩, ⟨y1, y2, y3, y4, y5⟩, q1, q2⟩
      · rw [q2] at e1
        rw [q1] at e2
        dsimp only at e1 e2
        rw [if_neg (by decide)] at e1 e2
        have hre : sp_T_restart z5 z6 fb jn = (match sp_D_readEntry 0 0 0 z5 z6 fb jn with | (a, b, c, d, e, g) => (0, a, b, c, d, e, g)) := rfl
        obtain ⟨dp1, de1, dB1, ds1, dk1, dv1, k1, k2⟩ : ∃ dp1 de1 dB1 ds1 dk1 dv1, sp_D_readEntry 0 0 0 z5 z6 fb jn = (dp1, de1, dB1, ds1, dk1, dv1) ∧ zr_at Y P T κ raw 0 dp1 de1 dB1 ds1 dk1 dv1 := by
          rcases Nat.eq_zero_or_pos Y with y0 | y0
          · subst y0
            have hn0 : jn = 0 := q6.symm.trans q4
            exact ⟨_, _, _, _, _, _, zr_end0 fb jn 0 0 z5 z6 b8 (by omega) (by omega), Nat.le_refl _, rfl, fun hh => absurd hh (Nat.lt_irrefl _), fun _ => ⟨q4.symm, rfl⟩⟩
          · have hx := zr_next b8 q7 q6 y0 0 (by rw [q5]; rfl) z5 z6
            rw [q4] at hx
            exact hx
        rw [k1] at hre
        dsimp only at hre
        rw [hre, sp_M_restart.eq_1] at e1
        dsimp only at e1
        have h48 := zr_anew 48 gm kfr kfc xs
        have h0 : zr_M 0 (sp_Y_anew 48 gm xs) fr fc mp mb mi me ml mo mt mS := zr_frame b1 (fun k r1 r2 => by rw [zf_anew, if_neg (by omega), if_neg (by omega)])
        obtain ⟨r, g, x1, x2, x3, x4, x5, x6, x7, x8, x9, x10, ⟨t1, t2, t3, t4, t5, t6, t7⟩, m1, m2, m3, m4, m5, m6⟩ := zr_told b8 q7 q6 q3 fi fb (nI c1) w rq jn jm (nI u) jS jn fo ff fs pn h8 h9 fr fc mp mb mi me ml mo mt mS b5 b6 (by omega) (mS + 1) 0 (sp_Y_anew 48 gm xs) (sp_A_fill 0 kfr 4) (sp_A_fill 0 kfc 32) 0 0 0 0 xs 0 0 0 0 dp1 de1 dB1 ds1 dk1 dv1 (by omega) (Nat.zero_le _) h0 h48 (zf_anewI 48 (zr_YP h8)) (Or.inl rfl) (Or.inl rfl) (by rw [zf_anew, if_neg (by omega), if_pos (by omega)]) k2 (fun i hi => absurd hi (Nat.not_lt_zero _))
        have g0 : ∀ k, k < 48 → g k = gm k := fun k hk => (m6 k hk).trans (by rw [zf_anew, if_neg (by omega), if_neg (by omega)])
        refine ⟨r, g, x1, x2, x3, x4, x5, x6, x7, x8, x9, x10, t1, t2, t3, t4, t5, t6, t7, gt', gk', gv', Y, jn, e1.trans m2, e2.trans m1, c0, c1, u, ⟨zr_frame b1 (fun k _ hk => g0 k (by omega)), ⟨b2.1, ?_, ?_⟩, (g0 12 (by omega)).trans b3, b4, b5, b6, b7, b8, b9, b10⟩, rfl, rfl, rfl, ⟨_, m3⟩, m4, m5, h8, h9, h10, by omega, by omega⟩
        · obtain ⟨q, hq, eq⟩ := b2.2.1
          exact ⟨q, hq, (g0 _ (by omega)).trans eq⟩
        · obtain ⟨q, hq, eq⟩ := b2.2.2
          exact ⟨q, hq, (g0 _ (by omega)).trans eq⟩
      · rw [q2] at e1
        rw [q1] at e2
        dsimp only at e1 e2
        rw [if_pos rfl] at e1 e2
        exact ⟨_, gm, _, _, _, _, _, _, _, _, _, _, _, _, _, _, _, _, _, _, _, _, _, _, e1, e2, h.up⟩
    · rw [if_neg d] at e1 e2
      exact ⟨_, gm, _, _, _, _, _, _, _, _, _, _, _, _, _, _, _, _, _, _, _, _, _, _, e1, e2, h.up⟩
  · rw [if_neg c] at e1 e2
    exact ⟨_, gm, _, _, _, _, _, _, _, _, _, _, _, _, _, _, _, _, _, _, _, _, _, _, e1, e2, h.up⟩
end ZRC
/-- two new objects -/
theorem zr_R0 (xs : Int32) : zr_R 0 (upd (fun _ => 0) 11 xs) 0 (fun _ => 0) (fun _ => 0) 0 (fun _ => 0) (fun _ => 0) 0 0 0 0 xs 0 0 0 (fun _ => 0) (fun _ => 0) 0 0 0 0 xs 0 0 0 0 0 0 0 0 0 := by
  have u : ∀ k, k ≠ 11 → upd (fun _ => 0) 11 xs k = 0 := fun k hk => pk_un hk
  refine ⟨0, 0, 0, ⟨⟨fun k hk => u _ (by omega), u _ (by omega), u _ (by omega), u _ (by omega), u _ (by omega), u _ (by omega), u _ (by omega), u _ (by omega), pk_us, fun k hk => u _ (by omega)⟩, ⟨fun k hk => absurd hk (Nat.not_lt_zero _), ⟨0, by omega, u _ (by omega)⟩, ⟨0, by omega, u _ (by omega)⟩⟩, u _ (by omega), Nat.le_refl _, Or.inl rfl, Or.inl rfl, Or.inl rfl, by omega, Nat.le_refl _, by omega⟩, rfl, rfl, rfl, ⟨0, fun k hk => u _ (by omega), u _ (by omega), u _ (by omega), u _ (by omega), u _ (by omega), u _ (by omega), u _ (by omega), u _ (by omega), u _ (by omega), fun k hk => u _ (by omega)⟩, Or.inl rfl, Or.inl rfl, fun k hk => absurd hk (Nat.not_lt_zero _), by omega, Or.inl rfl, by omega, by omega⟩
