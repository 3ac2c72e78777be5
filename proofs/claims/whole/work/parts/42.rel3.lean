/-! a step of the live machine: class and reference -/
section ZR3
variable {M : Nat} {g : Nat → Int32} {fr fc : Nat → Int32} {mp mb mi me ml mo mt : Int32} {mS : Nat}
theorem zr_t1 (h : zr_M M g fr fc mp mb mi me ml mo mt mS) (x : Int32) : zr_M M (sp_Y_trace M x g) fr fc mp mb mi me ml mo (sp_X_mix mt x) mS := by
  have h6 : g (M + 6) = mt := h.2.2.2.1
  unfold sp_Y_trace
  rw [h6]
  exact zr_trace h _
theorem zr_tl (mt0 : Int32) (gi gl : Nat → Int32) (yw : Nat) (yq : Int32) (yl : Nat) (ye yt yS : Int32) : ∀ (fuel j : Nat) (g : Nat → Int32) (mt : Int32), zr_M M g fr fc mp mb mi me ml mo mt mS → 4 - j < fuel →
    ∃ g', sp_Y_step_129 M fuel j g gi gl yw yq yl ye yt yS = (g', gi, yw, yq, gl, yl, yS, yt, ye) ∧ zr_M M g' fr fc mp mb mi me ml mo (sp_M_followTrace_14 fr mo mt0 fuel mt j) mS := by
  intro fuel
  induction fuel with
  | zero => intro j g mt h hf; exact absurd hf (Nat.not_lt_zero _)
  | succ fuel ih =>
    intro j g mt h hf
    rw [sp_Y_step_129, sp_M_followTrace_14]
    rcases Decidable.em (4 ≤ j) with c | c
    · rw [if_pos c, if_pos c]
      have h5 : g (M + 5) = mo := h.2.2.1
      refine ⟨sp_Y_trace M (g (M + 5)) g, rfl, ?_⟩
      rw [h5]
      exact zr_t1 h mo
    · rw [if_neg c, if_neg c]
      have hj : g (M + j) = fr j := h.1 j (by omega)
      have h2 := zr_t1 h (g (M + j))
      rw [hj] at h2
      obtain ⟨g', e, hz⟩ := ih (j + 1) _ _ h2 (by omega)
      refine ⟨g', ?_, hz⟩
      show sp_Y_step_129 M fuel (j + 1) (sp_Y_trace M (g (M + j)) g) gi gl yw yq yl ye yt yS = _
      rw [hj]
      exact e
/-- the trace behind a step -/
theorem zr_tr (h : zr_M M g fr fc mp mb mi me ml mo mt mS) (gi gl : Nat → Int32) (yw : Nat) (yq : Int32) (yl : Nat) (ye yt yS : Int32) :
    ∃ g', sp_Y_step_114 M g gi gl yw yq yl ye yt yS = (g', gi, yw, yq, gl, yl, yS, yt, ye) ∧ zr_M M g' fr fc mp mb mi me ml mo (sp_M_followTrace fr mp mo mt) mS ∧ g' (M + 12) = g (M + 12) := by
  have h4 : g (M + 4) = mp := h.2.1
  have h2 := zr_t1 h (g (M + 4))
  rw [h4] at h2
  obtain ⟨g', e, hz⟩ := zr_tl mt gi gl yw yq yl ye yt yS 5 0 _ _ h2 (by omega)
  have e2 : sp_Y_step_114 M g gi gl yw yq yl ye yt yS = (g', gi, yw, yq, gl, yl, yS, yt, ye) := by
    show sp_Y_step_129 M 5 0 (sp_Y_trace M (g (M + 4)) g) gi gl yw yq yl ye yt yS = _
    rw [h4]
    exact e
  refine ⟨g', e2, hz, ?_⟩
  have h3 := zf_step114 M g gi gl yw yq yl ye yt yS (M + 12) (by omega)
  rw [e2] at h3
  exact h3
end ZR3
def zr_prog (fo fs : Nat → Int32) (pn : Nat) : Prop := ∀ k, k < pn → zr_op (fo k) ∧ (fo k = 5 ∨ fo k = 6 → ∃ q, q < 24 ∧ fs k = nI q)
theorem zr_has {p pn : Nat} (hp : p < 2 ^ 31) (_hn : pn < 2 ^ 31) : sp_P_has (nI p) pn = if p < pn then 1 else 0 := by
  unfold sp_P_has
  rw [if_neg (nI_pos hp)]
  rcases Decidable.em (p < pn) with h | h
  · rw [if_pos h, if_neg (nI_ge h (by omega))]
  · rw [if_neg h, if_pos (nI_le (by omega) hp)]
theorem zr_hasJ {p pn : Nat} (hp : p < 2 ^ 31) (hn : pn < 2 ^ 31) : sp_J_has (nI p) pn = if p < pn then 1 else 0 := zr_has hp hn
/-- an instruction of the live machine -/
theorem zr_perfL (o a b : Int32) (gm : Nat → Int32) (gt : Nat → Int64) (gk gv : Nat → Int32) (yr : Nat) (fr fc : Nat → Int32) (mp mb mi me ml mo mt : Int32) (t : Nat) (fi : Nat → Int32) (w c0 c1 : Nat) (f : Nat → Int32) (n : Nat) (jm S : Int32) (u : Nat)
    (ho : zr_op o) (hi : mi = 0 ∨ mi = 1) (h : zr_M 0 gm fr fc mp mb mi me ml mo mt t) (h12 : gm 12 = nI c0) (hc : c0 ≤ c1) (hc1 : c1 < 2 ^ 31) (hu : u ≤ t) (hb : 4 * (t - u) + 3 < 2 ^ 31) (ht : t < 2 ^ 31) (hn : n + 10 ≤ 300) (hw : w ≤ 16) :
    ∃ (g fr' fc' : Nat → Int32) (mp' mi' me' ml' mo' : Int32) (fi' : Nat → Int32) (w' c0' : Nat) (f' : Nat → Int32) (n' : Nat) (jm' S' : Int32) (u' : Nat),
      sp_Y_perform 0 o a b gm fi f gt gk gv (nI c1) w n jm (nI u) S yr = (g, fi', w', f', n', S', nI u', jm') ∧
      sp_M_performR o a b fr fc (mp + 1) mb mi me ml mo t fi w (nI c0) (nI c1) f n jm S (nI u) = (fr', fc', mp', mi', me', ml', mo', fi', w', nI c0', f', n', jm', S', nI u') ∧
      zr_M 0 g fr' fc' mp' mb mi' me' ml' mo' mt t ∧ (mi' = 0 ∨ mi' = 1) ∧ (me' = me ∨ me' = 1) ∧ g 12 = nI c0' ∧ c0' ≤ c1 ∧ n' ≤ n + 10 ∧ u' ≤ t ∧ w' ≤ 16 := by
  have h9 : gm 9 = nI t := h.2.2.2.2.2.2.1
  have h4 : gm (0 + 4) = mp := h.2.1
  have hpl := zr_place h (mp + 1)
  have ha := zk_ix3_lt a
  rcases Decidable.em (o = 7) with c7 | c7
  · subst c7
    have e1 := sp_Y_perform.eq_1 0 7 a b gm fi f gt gk gv (nI c1) w n jm (nI u) S yr
    have e2 := sp_M_performR.eq_1 7 a b fr fc (mp + 1) mb mi me ml mo t fi w (nI c0) (nI c1) f n jm S (nI u)
    rw [if_neg (by decide), if_neg (by decide), if_neg (by decide), if_neg (by decide), if_neg (by decide), if_neg (by decide), if_neg (by decide), if_pos rfl] at e1 e2
    rw [h4] at e1
    obtain ⟨r, fi', w', f', n', jm', S', u', d1, d2, d3, d4, d5⟩ := zr_input fi w f n S jm (upd gm (0 + 4) (mp + 1)) gt gk gv yr hu hb ht (by rw [pk_un (by omega)]; exact h9) hn
    rw [d1] at e2
    rw [d2] at e1
    dsimp only at e1 e2
    exact ⟨_, _, _, _, _, _, _, _, _, _, c0, _, _, _, _, _, e1, e2, zr_reg hpl ha, hi, Or.inl rfl, by rw [pk_un (by omega), pk_un (by omega)]; exact h12, hc, d3, d4, d5 hw⟩
  rcases Decidable.em (o = 8) with c8 | c8
  · subst c8
    have e1 := sp_Y_perform.eq_1 0 8 a b gm fi f gt gk gv (nI c1) w n jm (nI u) S yr
    have e2 := sp_M_performR.eq_1 8 a b fr fc (mp + 1) mb mi me ml mo t fi w (nI c0) (nI c1) f n jm S (nI u)
    rw [if_neg (by decide), if_neg (by decide), if_neg (by decide), if_neg (by decide), if_neg (by decide), if_neg (by decide), if_neg (by decide), if_neg (by decide), if_pos rfl] at e1 e2
    rw [h4] at e1
    obtain ⟨f', n', jm', S', u', d1, d2, d3, d4⟩ := zr_clock f n S jm (upd gm (0 + 4) (mp + 1)) gt gk gv yr hu hb ht (by rw [pk_un (by omega)]; exact h9) (by rw [pk_un (by omega)]; exact h12) hc hc1 hn
    rw [d1] at e2
    rw [d2] at e1
    dsimp only at e1 e2
    have hk : zr_M 0 (upd (upd gm (0 + 4) (mp + 1)) 12 (nI c1)) fr fc (mp + 1) mb mi me ml mo mt t := zr_clk hpl (nI c1)
    exact ⟨_, _, _, _, _, _, _, _, _, _, c1, _, _, _, _, _, e1, e2, zr_reg hk ha, hi, Or.inl rfl, by rw [pk_un (by omega), pk_us], Nat.le_refl _, d3, d4, hw⟩
  obtain ⟨g, fr', fc', mp', mi', me', ml', mo', e1, e2, hz, hi', hme, hg⟩ := zr_perfR 0 o a b gm fi f gt gk gv (nI c1) w n jm (nI u) S yr fr fc mp mb mi me ml mo mt t t fi w (nI c0) (nI c1) f n jm S (nI u) ho c7 c8 hi h
  exact ⟨g, fr', fc', mp', mi', me', ml', mo', fi, w, c0, f, n, jm, S, u, e1, e2, hz, hi', hme, hg.trans h12, hc, by omega, hu, hw⟩
