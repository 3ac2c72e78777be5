/-! what a step of the reference leaves as it was, and that its place stays small -/
def zk_fr (M : Nat) (gm g : Nat → Int32) : Prop := ∀ k, (k < M ∨ M + 48 ≤ k ∨ k = M + 9) → g k = gm k
theorem zk_fr.r {M : Nat} {gm : Nat → Int32} : zk_fr M gm gm := fun _ _ => rfl
theorem zk_fr.u {M : Nat} {gm g : Nat → Int32} {i : Nat} {x : Int32} (h : zk_fr M gm g) (h1 : M ≤ i) (h2 : i < M + 48) (h3 : i ≠ M + 9) : zk_fr M gm (upd g i x) := fun k hk => by
  rw [pk_un (by omega)]; exact h k hk
theorem zf_timeFor (M : Nat) (gm gl : Nat → Int32) (gt : Nat → Int64) (gk gv : Nat → Int32) (yc : Int32) (yl : Nat) (ye yt yS : Int32) (yr : Nat) :
    ∃ (x : Int32) (a : Nat → Int32) (b : Nat) (c d e : Int32), sp_Y_timeFor M gm gl gt gk gv yc yl ye yt yS yr = (x, upd gm (M + 12) x, a, b, c, d, e) := by
  unfold sp_Y_timeFor
  split
  · split
    · exact ⟨_, _, _, _, _, _, rfl⟩
    · exact ⟨_, _, _, _, _, _, rfl⟩
  · split
    · exact ⟨_, _, _, _, _, _, rfl⟩
    · exact ⟨_, _, _, _, _, _, rfl⟩
theorem zk_p4 {gm : Nat → Int32} {M p i : Nat} {x : Int32} (h4 : gm (M + 4) = nI p) (hp : p < 24) (hi : i ≠ M + 4) : ∃ q, q ≤ 24 ∧ (upd (upd gm (M + 4) (gm (M + 4) + 1)) i x) (M + 4) = nI q :=
  ⟨p + 1, by omega, by rw [pk_un (Ne.symm hi), pk_us, h4, nI_succ]⟩
theorem zk_p4' {gm : Nat → Int32} {M p : Nat} (h4 : gm (M + 4) = nI p) (hp : p < 24) : ∃ q, q ≤ 24 ∧ (upd gm (M + 4) (gm (M + 4) + 1)) (M + 4) = nI q :=
  ⟨p + 1, by omega, by rw [pk_us, h4, nI_succ]⟩
theorem zf_perform (M : Nat) (o a b : Int32) (gm gi gl : Nat → Int32) (gt : Nat → Int64) (gk gv : Nat → Int32) (yc : Int32) (yw yl : Nat) (ye yt yS : Int32) (yr : Nat) {p : Nat}
    (h4 : gm (M + 4) = nI p) (hp : p < 24) (h10 : ∃ q, q ≤ 24 ∧ gm (M + 10) = nI q) (hj : o = 5 ∨ o = 6 → ∃ q, q < 24 ∧ b = nI q) (S : (Nat → Int32) × (Nat → Int32) × Nat × (Nat → Int32) × Nat × Int32 × Int32 × Int32) (hS : sp_Y_perform M o a b gm gi gl gt gk gv yc yw yl ye yt yS yr = S) :
    zk_fr M gm S.1 ∧ (∃ q, q ≤ 24 ∧ S.1 (M + 4) = nI q) ∧ S.1 (M + 10) = gm (M + 10) := by
  have ha := zk_ix3_lt a
  have hs := zk_ix31_lt (gm (M + zk_ix3 b))
  obtain ⟨tx, t1, t2, t3, t5, t6, te⟩ := zf_timeFor M (upd gm (M + 4) (gm (M + 4) + 1)) gl gt gk gv yc yl ye yt yS yr
  obtain ⟨⟨i1, i2, i3, i4, i5, i6, i7, i8⟩, ie⟩ : ∃ z, z = sp_Y_inputFor M (upd gm (M + 4) (gm (M + 4) + 1)) gi gl gt gk gv yw yl ye yt yS yr := ⟨_, rfl⟩
  rw [sp_Y_perform.eq_1, te, ← ie] at hS
  dsimp only at hS
  rcases Decidable.em (o = 0) with c0 | c0
  · rw [if_pos c0] at hS
    subst hS
    refine ⟨?_, ?_, ?_⟩
    · exact (zk_fr.r.u (by omega) (by omega) (by omega)).u (by omega) (by omega) (by omega)
    · exact zk_p4 h4 hp (by omega)
    · dsimp only; rw [pk_un (by omega), pk_un (by omega)]
  rw [if_neg c0] at hS
  rcases Decidable.em (o = 1) with c1 | c1
  · rw [if_pos c1] at hS
    subst hS
    refine ⟨?_, ?_, ?_⟩
    · exact (zk_fr.r.u (by omega) (by omega) (by omega)).u (by omega) (by omega) (by omega)
    · exact zk_p4 h4 hp (by omega)
    · dsimp only; rw [pk_un (by omega), pk_un (by omega)]
  rw [if_neg c1] at hS
  rcases Decidable.em (o = 2) with c2 | c2
  · rw [if_pos c2] at hS
    subst hS
    refine ⟨?_, ?_, ?_⟩
    · exact (zk_fr.r.u (by omega) (by omega) (by omega)).u (by omega) (by omega) (by omega)
    · exact zk_p4 h4 hp (by omega)
    · dsimp only; rw [pk_un (by omega), pk_un (by omega)]
  rw [if_neg c2] at hS
  rcases Decidable.em (o = 3) with c3 | c3
  · rw [if_pos c3] at hS
    subst hS
    refine ⟨?_, ?_, ?_⟩
    · exact (zk_fr.r.u (by omega) (by omega) (by omega)).u (by omega) (by omega) (by omega)
    · exact zk_p4 h4 hp (by omega)
    · dsimp only; rw [pk_un (by omega), pk_un (by omega)]
  rw [if_neg c3] at hS
  rcases Decidable.em (o = 4) with c4 | c4
  · rw [if_pos c4] at hS
    subst hS
    refine ⟨?_, ?_, ?_⟩
    · exact (zk_fr.r.u (by omega) (by omega) (by omega)).u (by omega) (by omega) (by omega)
    · exact zk_p4 h4 hp (by omega)
    · dsimp only; rw [pk_un (by omega), pk_un (by omega)]
  rw [if_neg c4] at hS
  rcases Decidable.em (o = 5) with c5 | c5
  · rw [if_pos c5] at hS
    subst hS
    refine ⟨?_, ?_, ?_⟩
    · exact (zk_fr.r.u (by omega) (by omega) (by omega)).u (by omega) (by omega) (by omega)
    · obtain ⟨q, hq, e⟩ := hj (Or.inl c5); exact ⟨q, by omega, by dsimp only; rw [pk_us, e]⟩
    · dsimp only; rw [pk_un (by omega), pk_un (by omega)]
  rw [if_neg c5] at hS
  rcases Decidable.em (o = 6) with c6 | c6
  · rw [if_pos c6] at hS
    rcases Decidable.em (upd gm (M + 4) (gm (M + 4) + 1) (M + zk_ix3 a) = 0) with g | g
    · rw [if_pos g] at hS
      subst hS
      refine ⟨?_, ?_, ?_⟩
      · exact (zk_fr.r.u (by omega) (by omega) (by omega)).u (by omega) (by omega) (by omega)
      · obtain ⟨q, hq, e⟩ := hj (Or.inr c6); exact ⟨q, by omega, by dsimp only; rw [pk_us, e]⟩
      · dsimp only; rw [pk_un (by omega), pk_un (by omega)]
    · rw [if_neg g] at hS
      subst hS
      refine ⟨?_, ?_, ?_⟩
      · exact zk_fr.r.u (by omega) (by omega) (by omega)
      · exact zk_p4' h4 hp
      · dsimp only; rw [pk_un (by omega)]
  rw [if_neg c6] at hS
  rcases Decidable.em (o = 7) with c7 | c7
  · rw [if_pos c7] at hS
    subst hS
    refine ⟨?_, ?_, ?_⟩
    · exact (zk_fr.r.u (by omega) (by omega) (by omega)).u (by omega) (by omega) (by omega)
    · exact zk_p4 h4 hp (by omega)
    · dsimp only; rw [pk_un (by omega), pk_un (by omega)]
  rw [if_neg c7] at hS
  rcases Decidable.em (o = 8) with c8 | c8
  · rw [if_pos c8] at hS
    subst hS
    refine ⟨?_, ?_, ?_⟩
    · exact ((zk_fr.r.u (by omega) (by omega) (by omega)).u (by omega) (by omega) (by omega)).u (by omega) (by omega) (by omega)
    · exact ⟨p + 1, by omega, by dsimp only; rw [pk_un (by omega), pk_un (by omega), pk_us, h4, nI_succ]⟩
    · dsimp only; rw [pk_un (by omega), pk_un (by omega), pk_un (by omega)]
  rw [if_neg c8] at hS
  rcases Decidable.em (o = 9) with c9 | c9
  · rw [if_pos c9] at hS
    subst hS
    refine ⟨?_, ?_, ?_⟩
    · exact ((zk_fr.r.u (by omega) (by omega) (by omega)).u (by omega) (by omega) (by omega)).u (by omega) (by omega) (by omega)
    · exact ⟨p + 1, by omega, by dsimp only; rw [pk_un (by omega), pk_un (by omega), pk_us, h4, nI_succ]⟩
    · dsimp only; rw [pk_un (by omega), pk_un (by omega), pk_un (by omega)]
  rw [if_neg c9] at hS
  rcases Decidable.em (o = 10) with c10 | c10
  · rw [if_pos c10] at hS
    subst hS
    refine ⟨?_, ?_, ?_⟩
    · exact (zk_fr.r.u (by omega) (by omega) (by omega)).u (by omega) (by omega) (by omega)
    · exact zk_p4 h4 hp (by omega)
    · dsimp only; rw [pk_un (by omega), pk_un (by omega)]
  rw [if_neg c10] at hS
  rcases Decidable.em (o = 11) with c11 | c11
  · rw [if_pos c11] at hS
    rcases Decidable.em (upd gm (M + 4) (gm (M + 4) + 1) (M + 7) = 1) with g | g
    · rw [if_pos g] at hS
      subst hS
      refine ⟨?_, ?_, ?_⟩
      · exact ((zk_fr.r.u (by omega) (by omega) (by omega)).u (by omega) (by omega) (by omega)).u (by omega) (by omega) (by omega)
      · obtain ⟨q, hq, e⟩ := h10; exact ⟨q, hq, by dsimp only; rw [pk_un (by omega), pk_us, pk_un (by omega), e]⟩
      · dsimp only; rw [pk_un (by omega), pk_un (by omega), pk_un (by omega)]
    · rw [if_neg g] at hS
      subst hS
      refine ⟨?_, ?_, ?_⟩
      · exact zk_fr.r.u (by omega) (by omega) (by omega)
      · exact zk_p4' h4 hp
      · dsimp only; rw [pk_un (by omega)]
  rw [if_neg c11] at hS
  rcases Decidable.em (o = 12) with c12 | c12
  · rw [if_pos c12] at hS
    subst hS
    refine ⟨?_, ?_, ?_⟩
    · exact (zk_fr.r.u (by omega) (by omega) (by omega)).u (by omega) (by omega) (by omega)
    · exact zk_p4 h4 hp (by omega)
    · dsimp only; rw [pk_un (by omega), pk_un (by omega)]
  rw [if_neg c12] at hS
  subst hS
  refine ⟨?_, ?_, ?_⟩
  · exact zk_fr.r.u (by omega) (by omega) (by omega)
  · exact zk_p4' h4 hp
  · dsimp only; rw [pk_un (by omega)]
/-- the last row of a step, the trace, writes its own place alone -/
theorem zf_step129 (M : Nat) : ∀ (fuel j : Nat) (gm gi gl : Nat → Int32) (yw : Nat) (yq : Int32) (yl : Nat) (ye yt yS : Int32) (k : Nat), k ≠ M + 6 → (sp_Y_step_129 M fuel j gm gi gl yw yq yl ye yt yS).1 k = gm k := by
  intro fuel
  induction fuel with
  | zero => intro j gm gi gl yw yq yl ye yt yS k hk; rfl
  | succ fuel ih =>
    intro j gm gi gl yw yq yl ye yt yS k hk
    rw [sp_Y_step_129]
    split
    · show sp_Y_trace M (gm (M + 5)) gm k = gm k
      unfold sp_Y_trace
      rw [pk_un hk]
    · show (sp_Y_step_129 M fuel (j + 1) (sp_Y_trace M (gm (M + j)) gm) gi gl yw yq yl ye yt yS).1 k = gm k
      rw [ih _ _ _ _ _ _ _ _ _ _ _ hk]
      unfold sp_Y_trace
      rw [pk_un hk]
theorem zf_step114 (M : Nat) (gm gi gl : Nat → Int32) (yw : Nat) (yq : Int32) (yl : Nat) (ye yt yS : Int32) (k : Nat) (hk : k ≠ M + 6) : (sp_Y_step_114 M gm gi gl yw yq yl ye yt yS).1 k = gm k := by
  show (sp_Y_step_129 M 5 0 (sp_Y_trace M (gm (M + 4)) gm) gi gl yw yq yl ye yt yS).1 k = gm k
  rw [zf_step129 M 5 0 _ _ _ _ _ _ _ _ _ k hk]
  unfold sp_Y_trace
  rw [pk_un hk]
theorem zf_step (M : Nat) (go gf gs gm gi gl : Nat → Int32) (gt : Nat → Int64) (gk gv : Nat → Int32) (yn : Nat) (yc : Int32) (yw : Nat) (yq : Int32) (yl : Nat) (ye yt yS : Int32) (yr : Nat) (hyn : yn ≤ 24) (h : zk_YI gm go gs yn M) :
    zk_YI (sp_Y_step M go gf gs gm gi gl gt gk gv yn yc yw yq yl ye yt yS yr).1 go gs yn M ∧ (sp_Y_step M go gf gs gm gi gl gt gk gv yn yc yw yq yl ye yt yS yr).1 (M + 9) = gm (M + 9) + 1 ∧ ∀ k, (k < M ∨ M + 48 ≤ k) → (sp_Y_step M go gf gs gm gi gl gt gk gv yn yc yw yq yl ye yt yS yr).1 k = gm k := by
  obtain ⟨hP, ⟨p, hp, e4⟩, h10⟩ := h
  unfold sp_Y_step
  generalize sp_Y_interrupts M (upd gm (M + 9) (gm (M + 9) + 1)) gl gt gk yn yq yl ye yt yS yr = I
  obtain ⟨r, a1, a2, a3, a4, a5, a6⟩ := I
  dsimp only
  have u4 : (upd gm (M + 9) (gm (M + 9) + 1)) (M + 4) = nI p := by rw [pk_un (by omega)]; exact e4
  split
  · split
    · next hlt =>
      rw [u4] at hlt
      have hpn : p < yn := (nI_ltI (by omega) (by omega)).mp hlt
      rw [u4, nI_clamp (by omega)]
      have u10 : ∃ q, q ≤ 24 ∧ (upd gm (M + 9) (gm (M + 9) + 1)) (M + 10) = nI q := by
        obtain ⟨q, hq, e⟩ := h10
        exact ⟨q, hq, by rw [pk_un (by omega)]; exact e⟩
      have H := zf_perform M (go p) (gf p) (gs p) (upd gm (M + 9) (gm (M + 9) + 1)) gi a2 gt gk gv yc yw a3 a6 a5 a4 yr u4 (by omega) u10 (hP p hpn) _ rfl
      generalize sp_Y_perform M (go p) (gf p) (gs p) (upd gm (M + 9) (gm (M + 9) + 1)) gi a2 gt gk gv yc yw a3 a6 a5 a4 yr = S at H ⊢
      obtain ⟨g, b2, b3, b4, b5, b6, b7, b8⟩ := S
      dsimp only at H ⊢
      obtain ⟨H1, H2, H3⟩ := H
      refine ⟨⟨hP, ?_, ?_⟩, ?_, ?_⟩
      · rw [zf_step114 _ _ _ _ _ _ _ _ _ _ _ (by omega)]; exact H2
      · rw [zf_step114 _ _ _ _ _ _ _ _ _ _ _ (by omega), H3]; exact u10
      · rw [zf_step114 _ _ _ _ _ _ _ _ _ _ _ (by omega), H1 _ (by omega), pk_us]
      · intro k hk
        rw [zf_step114 _ _ _ _ _ _ _ _ _ _ _ (by omega), H1 _ (by omega), pk_un (by omega)]
    · refine ⟨⟨hP, ⟨p, hp, ?_⟩, ?_⟩, ?_, ?_⟩
      · rw [zf_step114 _ _ _ _ _ _ _ _ _ _ _ (by omega), pk_un (by omega)]; exact u4
      · obtain ⟨q, hq, e⟩ := h10
        exact ⟨q, hq, by rw [zf_step114 _ _ _ _ _ _ _ _ _ _ _ (by omega), pk_un (by omega), pk_un (by omega)]; exact e⟩
      · rw [zf_step114 _ _ _ _ _ _ _ _ _ _ _ (by omega), pk_un (by omega), pk_us]
      · intro k hk
        rw [zf_step114 _ _ _ _ _ _ _ _ _ _ _ (by omega), pk_un (by omega), pk_un (by omega)]
  · refine ⟨⟨hP, ⟨16, by omega, ?_⟩, ⟨p, hp, ?_⟩⟩, ?_, ?_⟩
    · rw [zf_step114 _ _ _ _ _ _ _ _ _ _ _ (by omega), pk_un (by omega), pk_us]; rfl
    · rw [zf_step114 _ _ _ _ _ _ _ _ _ _ _ (by omega), pk_un (by omega), pk_un (by omega), pk_us]; exact u4
    · rw [zf_step114 _ _ _ _ _ _ _ _ _ _ _ (by omega), pk_un (by omega), pk_un (by omega), pk_un (by omega), pk_us]
    · intro k hk
      rw [zf_step114 _ _ _ _ _ _ _ _ _ _ _ (by omega), pk_un (by omega), pk_un (by omega), pk_un (by omega), pk_un (by omega)]
theorem zk_inHi {r v lo hi : Int32} (hf : zk_inr r v lo hi) (hr : ¬ r = 0) : ¬ hi < v := by
  rcases hf with h | ⟨_, h2⟩
  · exact absurd h hr
  · exact h2
theorem zk_ltN {a b : Int32} {n k : Nat} (h9 : a = nI n) (h57 : b = nI k) (h : ¬ a ≤ b) (hn : n < 2 ^ 31) (hk : k ≤ n) : k < n := by
  subst h9; subst h57
  exact Nat.lt_of_not_le (fun g => h (nI_le g (by omega)))
theorem zf_anew2 (M : Nat) (ys : Int32) : ∀ (fuel j : Nat) (gm : Nat → Int32), j ≤ 48 → 48 - j < fuel → ∀ k, sp_Y_anew_2 M ys fuel j gm k = if k = M + 11 then ys else if M + j ≤ k ∧ k < M + 48 then 0 else gm k := by
  intro fuel
  induction fuel with
  | zero => intro j gm hj h; exact absurd h (Nat.not_lt_zero _)
  | succ fuel ih =>
    intro j gm hj h k
    rw [sp_Y_anew_2]
    rcases Decidable.em (48 ≤ j) with g | g
    · rw [if_pos g]
      rcases Decidable.em (k = M + 11) with e | e
      · rw [if_pos e, e, pk_us]
      · rw [if_neg e, pk_un e, if_neg (by omega)]
    · rw [if_neg g, ih (j + 1) _ (by omega) (by omega)]
      rcases Decidable.em (k = M + 11) with e | e
      · rw [if_pos e, if_pos e]
      · rw [if_neg e, if_neg e]
        rcases Decidable.em (k = M + j) with f | f
        · rw [if_neg (by omega), if_pos (by omega), f, pk_us]
        · rw [pk_un f]
          rcases Decidable.em (M + (j + 1) ≤ k ∧ k < M + 48) with d | d
          · rw [if_pos d, if_pos (by omega)]
          · rw [if_neg d, if_neg (by omega)]
theorem zf_anew (M : Nat) (gm : Nat → Int32) (ys : Int32) (k : Nat) : sp_Y_anew M gm ys k = if k = M + 11 then ys else if M ≤ k ∧ k < M + 48 then 0 else gm k :=
  zf_anew2 M ys 49 0 gm (by omega) (by omega) k
theorem zf_anewI {gm go gs : Nat → Int32} {ys : Int32} {n : Nat} (M : Nat) (hP : zk_YP go gs n) : zk_YI (sp_Y_anew M gm ys) go gs n M :=
  ⟨hP, ⟨0, by omega, by rw [zf_anew, if_neg (by omega), if_pos (by omega)]; rfl⟩, ⟨0, by omega, by rw [zf_anew, if_neg (by omega), if_pos (by omega)]; rfl⟩⟩
