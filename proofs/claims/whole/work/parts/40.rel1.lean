/-! the class's machine beside the reference's: the same numbers at their places -/
def zr_M (M : Nat) (gm : Nat → Int32) (fr fc : Nat → Int32) (mp mb mi me ml mo mt : Int32) (mS : Nat) : Prop := (∀ k, k < 4 → gm (M + k) = fr k) ∧ gm (M + 4) = mp ∧ gm (M + 5) = mo ∧ gm (M + 6) = mt ∧ gm (M + 7) = mi ∧ gm (M + 8) = me ∧ gm (M + 9) = nI mS ∧ gm (M + 10) = mb ∧ gm (M + 11) = ml ∧ ∀ k, k < 32 → gm (M + 16 + k) = fc k
section ZR
variable {M : Nat} {gm : Nat → Int32} {fr fc : Nat → Int32} {mp mb mi me ml mo mt : Int32} {mS : Nat}
theorem zr_reg (h : zr_M M gm fr fc mp mb mi me ml mo mt mS) {i : Nat} {x : Int32} (hi : i < 4) : zr_M M (upd gm (M + i) x) (upd fr i x) fc mp mb mi me ml mo mt mS := by
  obtain ⟨h0, h4, h5, h6, h7, h8, h9, h10, h11, hc⟩ := h
  refine ⟨fun k hk => ?_, ?_, ?_, ?_, ?_, ?_, ?_, ?_, ?_, fun k hk => ?_⟩
  · rcases Decidable.em (k = i) with e | e
    · rw [e, pk_us, pk_us]
    · rw [pk_un (by omega), pk_un e]; exact h0 k hk
  · rw [pk_un (by omega)]; exact h4
  · rw [pk_un (by omega)]; exact h5
  · rw [pk_un (by omega)]; exact h6
  · rw [pk_un (by omega)]; exact h7
  · rw [pk_un (by omega)]; exact h8
  · rw [pk_un (by omega)]; exact h9
  · rw [pk_un (by omega)]; exact h10
  · rw [pk_un (by omega)]; exact h11
  · rw [pk_un (by omega)]; exact hc k hk
theorem zr_cell (h : zr_M M gm fr fc mp mb mi me ml mo mt mS) {i : Nat} {x : Int32} (hi : i < 32) : zr_M M (upd gm (M + 16 + i) x) fr (upd fc i x) mp mb mi me ml mo mt mS := by
  obtain ⟨h0, h4, h5, h6, h7, h8, h9, h10, h11, hc⟩ := h
  refine ⟨fun k hk => ?_, ?_, ?_, ?_, ?_, ?_, ?_, ?_, ?_, fun k hk => ?_⟩
  · rw [pk_un (by omega)]; exact h0 k hk
  · rw [pk_un (by omega)]; exact h4
  · rw [pk_un (by omega)]; exact h5
  · rw [pk_un (by omega)]; exact h6
  · rw [pk_un (by omega)]; exact h7
  · rw [pk_un (by omega)]; exact h8
  · rw [pk_un (by omega)]; exact h9
  · rw [pk_un (by omega)]; exact h10
  · rw [pk_un (by omega)]; exact h11
  · rcases Decidable.em (k = i) with e | e
    · rw [e, pk_us, pk_us]
    · rw [pk_un (by omega), pk_un e]; exact hc k hk
theorem zr_place (h : zr_M M gm fr fc mp mb mi me ml mo mt mS) (x : Int32) : zr_M M (upd gm (M + 4) x) fr fc x mb mi me ml mo mt mS := by
  obtain ⟨h0, h4, h5, h6, h7, h8, h9, h10, h11, hc⟩ := h
  refine ⟨fun k hk => ?_, ?_, ?_, ?_, ?_, ?_, ?_, ?_, ?_, fun k hk => ?_⟩
  · rw [pk_un (by omega)]; exact h0 k hk
  · exact pk_us
  · rw [pk_un (by omega)]; exact h5
  · rw [pk_un (by omega)]; exact h6
  · rw [pk_un (by omega)]; exact h7
  · rw [pk_un (by omega)]; exact h8
  · rw [pk_un (by omega)]; exact h9
  · rw [pk_un (by omega)]; exact h10
  · rw [pk_un (by omega)]; exact h11
  · rw [pk_un (by omega)]; exact hc k hk
theorem zr_out (h : zr_M M gm fr fc mp mb mi me ml mo mt mS) (x : Int32) : zr_M M (upd gm (M + 5) x) fr fc mp mb mi me ml x mt mS := by
  obtain ⟨h0, h4, h5, h6, h7, h8, h9, h10, h11, hc⟩ := h
  refine ⟨fun k hk => ?_, ?_, ?_, ?_, ?_, ?_, ?_, ?_, ?_, fun k hk => ?_⟩
  · rw [pk_un (by omega)]; exact h0 k hk
  · rw [pk_un (by omega)]; exact h4
  · exact pk_us
  · rw [pk_un (by omega)]; exact h6
  · rw [pk_un (by omega)]; exact h7
  · rw [pk_un (by omega)]; exact h8
  · rw [pk_un (by omega)]; exact h9
  · rw [pk_un (by omega)]; exact h10
  · rw [pk_un (by omega)]; exact h11
  · rw [pk_un (by omega)]; exact hc k hk
theorem zr_trace (h : zr_M M gm fr fc mp mb mi me ml mo mt mS) (x : Int32) : zr_M M (upd gm (M + 6) x) fr fc mp mb mi me ml mo x mS := by
  obtain ⟨h0, h4, h5, h6, h7, h8, h9, h10, h11, hc⟩ := h
  refine ⟨fun k hk => ?_, ?_, ?_, ?_, ?_, ?_, ?_, ?_, ?_, fun k hk => ?_⟩
  · rw [pk_un (by omega)]; exact h0 k hk
  · rw [pk_un (by omega)]; exact h4
  · rw [pk_un (by omega)]; exact h5
  · exact pk_us
  · rw [pk_un (by omega)]; exact h7
  · rw [pk_un (by omega)]; exact h8
  · rw [pk_un (by omega)]; exact h9
  · rw [pk_un (by omega)]; exact h10
  · rw [pk_un (by omega)]; exact h11
  · rw [pk_un (by omega)]; exact hc k hk
theorem zr_in (h : zr_M M gm fr fc mp mb mi me ml mo mt mS) (x : Int32) : zr_M M (upd gm (M + 7) x) fr fc mp mb x me ml mo mt mS := by
  obtain ⟨h0, h4, h5, h6, h7, h8, h9, h10, h11, hc⟩ := h
  refine ⟨fun k hk => ?_, ?_, ?_, ?_, ?_, ?_, ?_, ?_, ?_, fun k hk => ?_⟩
  · rw [pk_un (by omega)]; exact h0 k hk
  · rw [pk_un (by omega)]; exact h4
  · rw [pk_un (by omega)]; exact h5
  · rw [pk_un (by omega)]; exact h6
  · exact pk_us
  · rw [pk_un (by omega)]; exact h8
  · rw [pk_un (by omega)]; exact h9
  · rw [pk_un (by omega)]; exact h10
  · rw [pk_un (by omega)]; exact h11
  · rw [pk_un (by omega)]; exact hc k hk
theorem zr_end (h : zr_M M gm fr fc mp mb mi me ml mo mt mS) (x : Int32) : zr_M M (upd gm (M + 8) x) fr fc mp mb mi x ml mo mt mS := by
  obtain ⟨h0, h4, h5, h6, h7, h8, h9, h10, h11, hc⟩ := h
  refine ⟨fun k hk => ?_, ?_, ?_, ?_, ?_, ?_, ?_, ?_, ?_, fun k hk => ?_⟩
  · rw [pk_un (by omega)]; exact h0 k hk
  · rw [pk_un (by omega)]; exact h4
  · rw [pk_un (by omega)]; exact h5
  · rw [pk_un (by omega)]; exact h6
  · rw [pk_un (by omega)]; exact h7
  · exact pk_us
  · rw [pk_un (by omega)]; exact h9
  · rw [pk_un (by omega)]; exact h10
  · rw [pk_un (by omega)]; exact h11
  · rw [pk_un (by omega)]; exact hc k hk
theorem zr_back (h : zr_M M gm fr fc mp mb mi me ml mo mt mS) (x : Int32) : zr_M M (upd gm (M + 10) x) fr fc mp x mi me ml mo mt mS := by
  obtain ⟨h0, h4, h5, h6, h7, h8, h9, h10, h11, hc⟩ := h
  refine ⟨fun k hk => ?_, ?_, ?_, ?_, ?_, ?_, ?_, ?_, ?_, fun k hk => ?_⟩
  · rw [pk_un (by omega)]; exact h0 k hk
  · rw [pk_un (by omega)]; exact h4
  · rw [pk_un (by omega)]; exact h5
  · rw [pk_un (by omega)]; exact h6
  · rw [pk_un (by omega)]; exact h7
  · rw [pk_un (by omega)]; exact h8
  · rw [pk_un (by omega)]; exact h9
  · exact pk_us
  · rw [pk_un (by omega)]; exact h11
  · rw [pk_un (by omega)]; exact hc k hk
theorem zr_lot (h : zr_M M gm fr fc mp mb mi me ml mo mt mS) (x : Int32) : zr_M M (upd gm (M + 11) x) fr fc mp mb mi me x mo mt mS := by
  obtain ⟨h0, h4, h5, h6, h7, h8, h9, h10, h11, hc⟩ := h
  refine ⟨fun k hk => ?_, ?_, ?_, ?_, ?_, ?_, ?_, ?_, ?_, fun k hk => ?_⟩
  · rw [pk_un (by omega)]; exact h0 k hk
  · rw [pk_un (by omega)]; exact h4
  · rw [pk_un (by omega)]; exact h5
  · rw [pk_un (by omega)]; exact h6
  · rw [pk_un (by omega)]; exact h7
  · rw [pk_un (by omega)]; exact h8
  · rw [pk_un (by omega)]; exact h9
  · rw [pk_un (by omega)]; exact h10
  · exact pk_us
  · rw [pk_un (by omega)]; exact hc k hk
theorem zr_clk (h : zr_M M gm fr fc mp mb mi me ml mo mt mS) (x : Int32) : zr_M M (upd gm (M + 12) x) fr fc mp mb mi me ml mo mt mS := by
  obtain ⟨h0, h4, h5, h6, h7, h8, h9, h10, h11, hc⟩ := h
  refine ⟨fun k hk => ?_, ?_, ?_, ?_, ?_, ?_, ?_, ?_, ?_, fun k hk => ?_⟩
  · rw [pk_un (by omega)]; exact h0 k hk
  · rw [pk_un (by omega)]; exact h4
  · rw [pk_un (by omega)]; exact h5
  · rw [pk_un (by omega)]; exact h6
  · rw [pk_un (by omega)]; exact h7
  · rw [pk_un (by omega)]; exact h8
  · rw [pk_un (by omega)]; exact h9
  · rw [pk_un (by omega)]; exact h10
  · rw [pk_un (by omega)]; exact h11
  · rw [pk_un (by omega)]; exact hc k hk
theorem zr_steps (h : zr_M M gm fr fc mp mb mi me ml mo mt mS) : zr_M M (upd gm (M + 9) (gm (M + 9) + 1)) fr fc mp mb mi me ml mo mt (mS + 1) := by
  obtain ⟨h0, h4, h5, h6, h7, h8, h9, h10, h11, hc⟩ := h
  refine ⟨fun k hk => ?_, ?_, ?_, ?_, ?_, ?_, ?_, ?_, ?_, fun k hk => ?_⟩
  · rw [pk_un (by omega)]; exact h0 k hk
  · rw [pk_un (by omega)]; exact h4
  · rw [pk_un (by omega)]; exact h5
  · rw [pk_un (by omega)]; exact h6
  · rw [pk_un (by omega)]; exact h7
  · rw [pk_un (by omega)]; exact h8
  · rw [pk_us, h9]; exact (nI_succ mS).symm
  · rw [pk_un (by omega)]; exact h10
  · rw [pk_un (by omega)]; exact h11
  · rw [pk_un (by omega)]; exact hc k hk
theorem zr_frame {g : Nat → Int32} (h : zr_M M gm fr fc mp mb mi me ml mo mt mS) (hg : ∀ k, M ≤ k → k < M + 48 → g k = gm k) : zr_M M g fr fc mp mb mi me ml mo mt mS := by
  obtain ⟨h0, h4, h5, h6, h7, h8, h9, h10, h11, hc⟩ := h
  refine ⟨fun k hk => ?_, ?_, ?_, ?_, ?_, ?_, ?_, ?_, ?_, fun k hk => ?_⟩
  · rw [hg _ (by omega) (by omega)]; exact h0 k hk
  · rw [hg _ (by omega) (by omega)]; exact h4
  · rw [hg _ (by omega) (by omega)]; exact h5
  · rw [hg _ (by omega) (by omega)]; exact h6
  · rw [hg _ (by omega) (by omega)]; exact h7
  · rw [hg _ (by omega) (by omega)]; exact h8
  · rw [hg _ (by omega) (by omega)]; exact h9
  · rw [hg _ (by omega) (by omega)]; exact h10
  · rw [hg _ (by omega) (by omega)]; exact h11
  · rw [hg _ (by omega) (by omega)]; exact hc k hk
end ZR
def zr_op (o : Int32) : Prop := o = 0 ∨ o = 1 ∨ o = 2 ∨ o = 3 ∨ o = 4 ∨ o = 5 ∨ o = 6 ∨ o = 7 ∨ o = 8 ∨ o = 9 ∨ o = 10 ∨ o = 11 ∨ o = 12
set_option maxHeartbeats 4000000 in
theorem zr_perfR (M : Nat) (o a b : Int32) (gm gi gl : Nat → Int32) (gt : Nat → Int64) (gk gv : Nat → Int32) (yc : Int32) (yw yl : Nat) (ye yt yS : Int32) (yr : Nat) (fr fc : Nat → Int32) (mp mb mi me ml mo mt : Int32) (mS : Nat) (mS' : Nat) (fi : Nat → Int32) (rw : Nat) (rt rc : Int32) (fb : Nat → Int32) (jn : Nat) (jm jS jl : Int32) (ho : zr_op o) (h7 : ¬ o = 7) (h8 : ¬ o = 8) (hi : mi = 0 ∨ mi = 1) (h : zr_M M gm fr fc mp mb mi me ml mo mt mS) :
    ∃ (g fr' fc' : Nat → Int32) (mp' mi' me' ml' mo' : Int32), sp_Y_perform M o a b gm gi gl gt gk gv yc yw yl ye yt yS yr = (g, gi, yw, gl, yl, yS, yt, ye) ∧ sp_M_performR o a b fr fc (mp + 1) mb mi me ml mo mS' fi rw rt rc fb jn jm jS jl = (fr', fc', mp', mi', me', ml', mo', fi, rw, rt, fb, jn, jm, jS, jl) ∧ zr_M M g fr' fc' mp' mb mi' me' ml' mo' mt mS ∧ (mi' = 0 ∨ mi' = 1) ∧ (me' = me ∨ me' = 1) ∧ g (M + 12) = gm (M + 12) := by
  have ha := zk_ix3_lt a
  have hb := zk_ix3_lt b
  have hs := zk_ix31_lt (fr (zk_ix3 b))
  have h' := h
  obtain ⟨g0, g4, g5, g6, g7, g8, g9, g10, g11, gc⟩ := h'
  have hpl := zr_place h (mp + 1)
  have e4 : gm (M + 4) + 1 = mp + 1 := by rw [g4]
  have e1 := sp_Y_perform.eq_1 M o a b gm gi gl gt gk gv yc yw yl ye yt yS yr
  have e2 := sp_M_performR.eq_1 o a b fr fc (mp + 1) mb mi me ml mo mS' fi rw rt rc fb jn jm jS jl
  rw [e4] at e1
  have ra : (upd gm (M + 4) (mp + 1)) (M + zk_ix3 a) = fr (zk_ix3 a) := by rw [pk_un (by omega)]; exact g0 _ ha
  have rb : gm (M + zk_ix3 b) = fr (zk_ix3 b) := g0 _ hb
  rw [rb] at e1
  rcases ho with rfl | rfl | rfl | rfl | rfl | rfl | rfl | rfl | rfl | rfl | rfl | rfl | rfl
  · rw [if_pos rfl] at e1
    rw [if_pos rfl] at e2
    exact ⟨_, _, _, _, _, _, _, _, e1, e2, zr_reg hpl ha, hi, Or.inl rfl, (by first | rw [pk_un (by omega), pk_un (by omega), pk_un (by omega)] | rw [pk_un (by omega), pk_un (by omega)] | rw [pk_un (by omega)])⟩
  · rw [if_neg (by decide), if_pos rfl] at e1
    rw [if_neg (by decide), if_pos rfl] at e2
    rw [ra] at e1
    exact ⟨_, _, _, _, _, _, _, _, e1, e2, zr_reg hpl ha, hi, Or.inl rfl, (by first | rw [pk_un (by omega), pk_un (by omega), pk_un (by omega)] | rw [pk_un (by omega), pk_un (by omega)] | rw [pk_un (by omega)])⟩
  · rw [if_neg (by decide), if_neg (by decide), if_pos rfl] at e1
    rw [if_neg (by decide), if_neg (by decide), if_pos rfl] at e2
    rw [ra] at e1
    exact ⟨_, _, _, _, _, _, _, _, e1, e2, zr_reg hpl ha, hi, Or.inl rfl, (by first | rw [pk_un (by omega), pk_un (by omega), pk_un (by omega)] | rw [pk_un (by omega), pk_un (by omega)] | rw [pk_un (by omega)])⟩
  · rw [if_neg (by decide), if_neg (by decide), if_neg (by decide), if_pos rfl] at e1
    rw [if_neg (by decide), if_neg (by decide), if_neg (by decide), if_pos rfl] at e2
    have rc : (upd gm (M + 4) (mp + 1)) (M + 16 + zk_ix31 (fr (zk_ix3 b))) = fc (zk_ix31 (fr (zk_ix3 b))) := by rw [pk_un (by omega)]; exact gc _ hs
    rw [rc] at e1
    exact ⟨_, _, _, _, _, _, _, _, e1, e2, zr_reg hpl ha, hi, Or.inl rfl, (by first | rw [pk_un (by omega), pk_un (by omega), pk_un (by omega)] | rw [pk_un (by omega), pk_un (by omega)] | rw [pk_un (by omega)])⟩
  · rw [if_neg (by decide), if_neg (by decide), if_neg (by decide), if_neg (by decide), if_pos rfl] at e1
    rw [if_neg (by decide), if_neg (by decide), if_neg (by decide), if_neg (by decide), if_pos rfl] at e2
    rw [ra] at e1
    exact ⟨_, _, _, _, _, _, _, _, e1, e2, zr_cell hpl hs, hi, Or.inl rfl, (by first | rw [pk_un (by omega), pk_un (by omega), pk_un (by omega)] | rw [pk_un (by omega), pk_un (by omega)] | rw [pk_un (by omega)])⟩
  · rw [if_neg (by decide), if_neg (by decide), if_neg (by decide), if_neg (by decide), if_neg (by decide), if_pos rfl] at e1
    rw [if_neg (by decide), if_neg (by decide), if_neg (by decide), if_neg (by decide), if_neg (by decide), if_pos rfl] at e2
    rw [sp_M_turn.eq_1, if_pos rfl] at e2
    dsimp only at e2
    exact ⟨_, _, _, _, _, _, _, _, e1, e2, zr_place hpl b, hi, Or.inl rfl, (by first | rw [pk_un (by omega), pk_un (by omega), pk_un (by omega)] | rw [pk_un (by omega), pk_un (by omega)] | rw [pk_un (by omega)])⟩
  · rw [if_neg (by decide), if_neg (by decide), if_neg (by decide), if_neg (by decide), if_neg (by decide), if_neg (by decide), if_pos rfl] at e1
    rw [if_neg (by decide), if_neg (by decide), if_neg (by decide), if_neg (by decide), if_neg (by decide), if_neg (by decide), if_pos rfl] at e2
    rw [sp_M_turn.eq_1, if_neg (by decide), if_pos rfl] at e2
    rw [ra] at e1
    rcases Decidable.em (fr (zk_ix3 a) = 0) with z | z
    · rw [if_pos z] at e1 e2
      dsimp only at e2
      exact ⟨_, _, _, _, _, _, _, _, e1, e2, zr_place hpl b, hi, Or.inl rfl, (by first | rw [pk_un (by omega), pk_un (by omega), pk_un (by omega)] | rw [pk_un (by omega), pk_un (by omega)] | rw [pk_un (by omega)])⟩
    · rw [if_neg z] at e1 e2
      dsimp only at e2
      exact ⟨_, _, _, _, _, _, _, _, e1, e2, hpl, hi, Or.inl rfl, (by first | rw [pk_un (by omega), pk_un (by omega), pk_un (by omega)] | rw [pk_un (by omega), pk_un (by omega)] | rw [pk_un (by omega)])⟩
  · exact absurd rfl h7
  · exact absurd rfl h8
  · rw [if_neg (by decide), if_neg (by decide), if_neg (by decide), if_neg (by decide), if_neg (by decide), if_neg (by decide), if_neg (by decide), if_neg (by decide), if_neg (by decide), if_pos rfl] at e1
    rw [if_neg (by decide), if_neg (by decide), if_neg (by decide), if_neg (by decide), if_neg (by decide), if_neg (by decide), if_neg (by decide), if_neg (by decide), if_neg (by decide), if_pos rfl] at e2
    have rl : (upd gm (M + 4) (mp + 1)) (M + 11) = ml := by rw [pk_un (by omega)]; exact g11
    rw [rl, pk_us] at e1
    exact ⟨_, _, _, _, _, _, _, _, e1, e2, zr_reg (zr_lot hpl _) ha, hi, Or.inl rfl, (by first | rw [pk_un (by omega), pk_un (by omega), pk_un (by omega)] | rw [pk_un (by omega), pk_un (by omega)] | rw [pk_un (by omega)])⟩
  · rw [if_neg (by decide), if_neg (by decide), if_neg (by decide), if_neg (by decide), if_neg (by decide), if_neg (by decide), if_neg (by decide), if_neg (by decide), if_neg (by decide), if_neg (by decide), if_pos rfl] at e1
    rw [if_neg (by decide), if_neg (by decide), if_neg (by decide), if_neg (by decide), if_neg (by decide), if_neg (by decide), if_neg (by decide), if_neg (by decide), if_neg (by decide), if_neg (by decide), if_pos rfl] at e2
    have ro : (upd gm (M + 4) (mp + 1)) (M + 5) = mo := by rw [pk_un (by omega)]; exact g5
    rw [ra, ro] at e1
    exact ⟨_, _, _, _, _, _, _, _, e1, e2, zr_out hpl _, hi, Or.inl rfl, (by first | rw [pk_un (by omega), pk_un (by omega), pk_un (by omega)] | rw [pk_un (by omega), pk_un (by omega)] | rw [pk_un (by omega)])⟩
  · rw [if_neg (by decide), if_neg (by decide), if_neg (by decide), if_neg (by decide), if_neg (by decide), if_neg (by decide), if_neg (by decide), if_neg (by decide), if_neg (by decide), if_neg (by decide), if_neg (by decide), if_pos rfl] at e1
    rw [if_neg (by decide), if_neg (by decide), if_neg (by decide), if_neg (by decide), if_neg (by decide), if_neg (by decide), if_neg (by decide), if_neg (by decide), if_neg (by decide), if_neg (by decide), if_neg (by decide)] at e2
    rw [sp_M_turn.eq_1, if_neg (by decide), if_neg (by decide), if_pos rfl] at e2
    have ri : (upd gm (M + 4) (mp + 1)) (M + 7) = mi := by rw [pk_un (by omega)]; exact g7
    have rk : (upd gm (M + 4) (mp + 1)) (M + 10) = mb := by rw [pk_un (by omega)]; exact g10
    rw [ri, rk] at e1
    rcases hi with z | z
    · rw [if_neg (by rw [z]; decide)] at e1
      rw [if_pos z] at e2
      dsimp only at e2
      exact ⟨_, _, _, _, _, _, _, _, e1, e2, hpl, Or.inl z, Or.inl rfl, (by first | rw [pk_un (by omega), pk_un (by omega), pk_un (by omega)] | rw [pk_un (by omega), pk_un (by omega)] | rw [pk_un (by omega)])⟩
    · rw [if_pos z] at e1
      rw [if_neg (by rw [z]; decide)] at e2
      dsimp only at e2
      exact ⟨_, _, _, _, _, _, _, _, e1, e2, zr_in (zr_place hpl mb) 0, Or.inl rfl, Or.inl rfl, (by first | rw [pk_un (by omega), pk_un (by omega), pk_un (by omega)] | rw [pk_un (by omega), pk_un (by omega)] | rw [pk_un (by omega)])⟩
  · rw [if_neg (by decide), if_neg (by decide), if_neg (by decide), if_neg (by decide), if_neg (by decide), if_neg (by decide), if_neg (by decide), if_neg (by decide), if_neg (by decide), if_neg (by decide), if_neg (by decide), if_neg (by decide), if_pos rfl] at e1
    rw [if_neg (by decide), if_neg (by decide), if_neg (by decide), if_neg (by decide), if_neg (by decide), if_neg (by decide), if_neg (by decide), if_neg (by decide), if_neg (by decide), if_neg (by decide), if_neg (by decide)] at e2
    rw [sp_M_turn.eq_1, if_neg (by decide), if_neg (by decide), if_neg (by decide)] at e2
    dsimp only at e2
    exact ⟨_, _, _, _, _, _, _, _, e1, e2, zr_end hpl 1, hi, Or.inr rfl, (by first | rw [pk_un (by omega), pk_un (by omega), pk_un (by omega)] | rw [pk_un (by omega), pk_un (by omega)] | rw [pk_un (by omega)])⟩
set_option maxHeartbeats 4000000 in
theorem zr_perfT (M : Nat) (o a b : Int32) (gm gi gl : Nat → Int32) (gt : Nat → Int64) (gk gv : Nat → Int32) (yc : Int32) (yw yl : Nat) (ye yt yS : Int32) (yr : Nat) (fr fc : Nat → Int32) (mp mb mi me ml mo mt : Int32) (mS : Nat) (mS' : Nat) (tt : Int32) (dp : Nat) (de dB : Int32) (ds : Int64) (dk dv : Int32) (fb : Nat → Int32) (jn : Nat) (ho : zr_op o) (h7 : ¬ o = 7) (h8 : ¬ o = 8) (hi : mi = 0 ∨ mi = 1) (h : zr_M M gm fr fc mp mb mi me ml mo mt mS) :
    ∃ (g fr' fc' : Nat → Int32) (mp' mi' me' ml' mo' : Int32), sp_Y_perform M o a b gm gi gl gt gk gv yc yw yl ye yt yS yr = (g, gi, yw, gl, yl, yS, yt, ye) ∧ sp_M_performT o a b fr fc (mp + 1) mb mi me ml mo mS' tt dp de dB ds dk dv fb jn = (fr', fc', mp', mi', me', ml', mo', tt, dp, de, dB, ds, dk, dv) ∧ zr_M M g fr' fc' mp' mb mi' me' ml' mo' mt mS ∧ (mi' = 0 ∨ mi' = 1) ∧ (me' = me ∨ me' = 1) ∧ g (M + 12) = gm (M + 12) := by
  have ha := zk_ix3_lt a
  have hb := zk_ix3_lt b
  have hs := zk_ix31_lt (fr (zk_ix3 b))
  have h' := h
  obtain ⟨g0, g4, g5, g6, g7, g8, g9, g10, g11, gc⟩ := h'
  have hpl := zr_place h (mp + 1)
  have e4 : gm (M + 4) + 1 = mp + 1 := by rw [g4]
  have e1 := sp_Y_perform.eq_1 M o a b gm gi gl gt gk gv yc yw yl ye yt yS yr
  have e2 := sp_M_performT.eq_1 o a b fr fc (mp + 1) mb mi me ml mo mS' tt dp de dB ds dk dv fb jn
  rw [e4] at e1
  have ra : (upd gm (M + 4) (mp + 1)) (M + zk_ix3 a) = fr (zk_ix3 a) := by rw [pk_un (by omega)]; exact g0 _ ha
  have rb : gm (M + zk_ix3 b) = fr (zk_ix3 b) := g0 _ hb
  rw [rb] at e1
  rcases ho with rfl | rfl | rfl | rfl | rfl | rfl | rfl | rfl | rfl | rfl | rfl | rfl | rfl
  · rw [if_pos rfl] at e1
    rw [if_pos rfl] at e2
    exact ⟨_, _, _, _, _, _, _, _, e1, e2, zr_reg hpl ha, hi, Or.inl rfl, (by first | rw [pk_un (by omega), pk_un (by omega), pk_un (by omega)] | rw [pk_un (by omega), pk_un (by omega)] | rw [pk_un (by omega)])⟩
  · rw [if_neg (by decide), if_pos rfl] at e1
    rw [if_neg (by decide), if_pos rfl] at e2
    rw [ra] at e1
    exact ⟨_, _, _, _, _, _, _, _, e1, e2, zr_reg hpl ha, hi, Or.inl rfl, (by first | rw [pk_un (by omega), pk_un (by omega), pk_un (by omega)] | rw [pk_un (by omega), pk_un (by omega)] | rw [pk_un (by omega)])⟩
  · rw [if_neg (by decide), if_neg (by decide), if_pos rfl] at e1
    rw [if_neg (by decide), if_neg (by decide), if_pos rfl] at e2
    rw [ra] at e1
    exact ⟨_, _, _, _, _, _, _, _, e1, e2, zr_reg hpl ha, hi, Or.inl rfl, (by first | rw [pk_un (by omega), pk_un (by omega), pk_un (by omega)] | rw [pk_un (by omega), pk_un (by omega)] | rw [pk_un (by omega)])⟩
  · rw [if_neg (by decide), if_neg (by decide), if_neg (by decide), if_pos rfl] at e1
    rw [if_neg (by decide), if_neg (by decide), if_neg (by decide), if_pos rfl] at e2
    have rc : (upd gm (M + 4) (mp + 1)) (M + 16 + zk_ix31 (fr (zk_ix3 b))) = fc (zk_ix31 (fr (zk_ix3 b))) := by rw [pk_un (by omega)]; exact gc _ hs
    rw [rc] at e1
    exact ⟨_, _, _, _, _, _, _, _, e1, e2, zr_reg hpl ha, hi, Or.inl rfl, (by first | rw [pk_un (by omega), pk_un (by omega), pk_un (by omega)] | rw [pk_un (by omega), pk_un (by omega)] | rw [pk_un (by omega)])⟩
  · rw [if_neg (by decide), if_neg (by decide), if_neg (by decide), if_neg (by decide), if_pos rfl] at e1
    rw [if_neg (by decide), if_neg (by decide), if_neg (by decide), if_neg (by decide), if_pos rfl] at e2
    rw [ra] at e1
    exact ⟨_, _, _, _, _, _, _, _, e1, e2, zr_cell hpl hs, hi, Or.inl rfl, (by first | rw [pk_un (by omega), pk_un (by omega), pk_un (by omega)] | rw [pk_un (by omega), pk_un (by omega)] | rw [pk_un (by omega)])⟩
  · rw [if_neg (by decide), if_neg (by decide), if_neg (by decide), if_neg (by decide), if_neg (by decide), if_pos rfl] at e1
    rw [if_neg (by decide), if_neg (by decide), if_neg (by decide), if_neg (by decide), if_neg (by decide), if_pos rfl] at e2
    rw [sp_M_turn.eq_1, if_pos rfl] at e2
    dsimp only at e2
    exact ⟨_, _, _, _, _, _, _, _, e1, e2, zr_place hpl b, hi, Or.inl rfl, (by first | rw [pk_un (by omega), pk_un (by omega), pk_un (by omega)] | rw [pk_un (by omega), pk_un (by omega)] | rw [pk_un (by omega)])⟩
  · rw [if_neg (by decide), if_neg (by decide), if_neg (by decide), if_neg (by decide), if_neg (by decide), if_neg (by decide), if_pos rfl] at e1
    rw [if_neg (by decide), if_neg (by decide), if_neg (by decide), if_neg (by decide), if_neg (by decide), if_neg (by decide), if_pos rfl] at e2
    rw [sp_M_turn.eq_1, if_neg (by decide), if_pos rfl] at e2
    rw [ra] at e1
    rcases Decidable.em (fr (zk_ix3 a) = 0) with z | z
    · rw [if_pos z] at e1 e2
      dsimp only at e2
      exact ⟨_, _, _, _, _, _, _, _, e1, e2, zr_place hpl b, hi, Or.inl rfl, (by first | rw [pk_un (by omega), pk_un (by omega), pk_un (by omega)] | rw [pk_un (by omega), pk_un (by omega)] | rw [pk_un (by omega)])⟩
    · rw [if_neg z] at e1 e2
      dsimp only at e2
      exact ⟨_, _, _, _, _, _, _, _, e1, e2, hpl, hi, Or.inl rfl, (by first | rw [pk_un (by omega), pk_un (by omega), pk_un (by omega)] | rw [pk_un (by omega), pk_un (by omega)] | rw [pk_un (by omega)])⟩
  · exact absurd rfl h7
  · exact absurd rfl h8
  · rw [if_neg (by decide), if_neg (by decide), if_neg (by decide), if_neg (by decide), if_neg (by decide), if_neg (by decide), if_neg (by decide), if_neg (by decide), if_neg (by decide), if_pos rfl] at e1
    rw [if_neg (by decide), if_neg (by decide), if_neg (by decide), if_neg (by decide), if_neg (by decide), if_neg (by decide), if_neg (by decide), if_neg (by decide), if_neg (by decide), if_pos rfl] at e2
    have rl : (upd gm (M + 4) (mp + 1)) (M + 11) = ml := by rw [pk_un (by omega)]; exact g11
    rw [rl, pk_us] at e1
    exact ⟨_, _, _, _, _, _, _, _, e1, e2, zr_reg (zr_lot hpl _) ha, hi, Or.inl rfl, (by first | rw [pk_un (by omega), pk_un (by omega), pk_un (by omega)] | rw [pk_un (by omega), pk_un (by omega)] | rw [pk_un (by omega)])⟩
  · rw [if_neg (by decide), if_neg (by decide), if_neg (by decide), if_neg (by decide), if_neg (by decide), if_neg (by decide), if_neg (by decide), if_neg (by decide), if_neg (by decide), if_neg (by decide), if_pos rfl] at e1
    rw [if_neg (by decide), if_neg (by decide), if_neg (by decide), if_neg (by decide), if_neg (by decide), if_neg (by decide), if_neg (by decide), if_neg (by decide), if_neg (by decide), if_neg (by decide), if_pos rfl] at e2
    have ro : (upd gm (M + 4) (mp + 1)) (M + 5) = mo := by rw [pk_un (by omega)]; exact g5
    rw [ra, ro] at e1
    exact ⟨_, _, _, _, _, _, _, _, e1, e2, zr_out hpl _, hi, Or.inl rfl, (by first | rw [pk_un (by omega), pk_un (by omega), pk_un (by omega)] | rw [pk_un (by omega), pk_un (by omega)] | rw [pk_un (by omega)])⟩
  · rw [if_neg (by decide), if_neg (by decide), if_neg (by decide), if_neg (by decide), if_neg (by decide), if_neg (by decide), if_neg (by decide), if_neg (by decide), if_neg (by decide), if_neg (by decide), if_neg (by decide), if_pos rfl] at e1
    rw [if_neg (by decide), if_neg (by decide), if_neg (by decide), if_neg (by decide), if_neg (by decide), if_neg (by decide), if_neg (by decide), if_neg (by decide), if_neg (by decide), if_neg (by decide), if_neg (by decide)] at e2
    rw [sp_M_turn.eq_1, if_neg (by decide), if_neg (by decide), if_pos rfl] at e2
    have ri : (upd gm (M + 4) (mp + 1)) (M + 7) = mi := by rw [pk_un (by omega)]; exact g7
    have rk : (upd gm (M + 4) (mp + 1)) (M + 10) = mb := by rw [pk_un (by omega)]; exact g10
    rw [ri, rk] at e1
    rcases hi with z | z
    · rw [if_neg (by rw [z]; decide)] at e1
      rw [if_pos z] at e2
      dsimp only at e2
      exact ⟨_, _, _, _, _, _, _, _, e1, e2, hpl, Or.inl z, Or.inl rfl, (by first | rw [pk_un (by omega), pk_un (by omega), pk_un (by omega)] | rw [pk_un (by omega), pk_un (by omega)] | rw [pk_un (by omega)])⟩
    · rw [if_pos z] at e1
      rw [if_neg (by rw [z]; decide)] at e2
      dsimp only at e2
      exact ⟨_, _, _, _, _, _, _, _, e1, e2, zr_in (zr_place hpl mb) 0, Or.inl rfl, Or.inl rfl, (by first | rw [pk_un (by omega), pk_un (by omega), pk_un (by omega)] | rw [pk_un (by omega), pk_un (by omega)] | rw [pk_un (by omega)])⟩
  · rw [if_neg (by decide), if_neg (by decide), if_neg (by decide), if_neg (by decide), if_neg (by decide), if_neg (by decide), if_neg (by decide), if_neg (by decide), if_neg (by decide), if_neg (by decide), if_neg (by decide), if_neg (by decide), if_pos rfl] at e1
    rw [if_neg (by decide), if_neg (by decide), if_neg (by decide), if_neg (by decide), if_neg (by decide), if_neg (by decide), if_neg (by decide), if_neg (by decide), if_neg (by decide), if_neg (by decide), if_neg (by decide)] at e2
    rw [sp_M_turn.eq_1, if_neg (by decide), if_neg (by decide), if_neg (by decide)] at e2
    dsimp only at e2
    exact ⟨_, _, _, _, _, _, _, _, e1, e2, zr_end hpl 1, hi, Or.inr rfl, (by first | rw [pk_un (by omega), pk_un (by omega), pk_un (by omega)] | rw [pk_un (by omega), pk_un (by omega)] | rw [pk_un (by omega)])⟩
