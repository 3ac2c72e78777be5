/-! the two machines compared; a telling: class and reference -/
theorem zr_st {M : Nat} {gm fr fc : Nat → Int32} {mp mb mi me ml mo mt : Int32} {mS : Nat} (h : zr_M M gm fr fc mp mb mi me ml mo mt mS) (hi : mi = 0 ∨ mi = 1) (he : me = 0 ∨ me = 1) (k : Nat) (hk : k < 10) : sp_M_stateOf (nI k) fr mp mi me mo mt mS = gm (M + k) := by
  obtain ⟨h0, h4, h5, h6, h7, h8, h9, h10, h11, hc⟩ := h
  rcases Decidable.em (k < 4) with c | c
  · rw [sp_M_stateOf.eq_1, if_neg (nI_pos (by omega)), if_neg (show ¬ (4 : Int32) ≤ nI k from nI_ge c (by decide)), nI_clamp (by omega)]
    exact (h0 k c).symm
  · have hk2 : k = 4 ∨ k = 5 ∨ k = 6 ∨ k = 7 ∨ k = 8 ∨ k = 9 := by omega
    rcases hk2 with rfl | rfl | rfl | rfl | rfl | rfl
    · rw [sp_M_stateOf.eq_1, if_neg (by decide), if_pos (by decide), if_pos (by decide), h4]
    · rw [sp_M_stateOf.eq_1, if_neg (by decide), if_pos (by decide), if_neg (by decide), if_pos (by decide), h5]
    · rw [sp_M_stateOf.eq_1, if_neg (by decide), if_pos (by decide), if_neg (by decide), if_neg (by decide), if_pos (by decide), h6]
    · rw [sp_M_stateOf.eq_1, if_neg (by decide), if_pos (by decide), if_neg (by decide), if_neg (by decide), if_neg (by decide), if_pos (by decide), h7]
      rcases hi with z | z
      · rw [if_pos z, z]
      · rw [if_neg (by rw [z]; decide), z]
    · rw [sp_M_stateOf.eq_1, if_neg (by decide), if_pos (by decide), if_neg (by decide), if_neg (by decide), if_neg (by decide), if_neg (by decide), if_pos (by decide), h8]
      rcases he with z | z
      · rw [if_pos z, z]
      · rw [if_neg (by rw [z]; decide), z]
    · rw [sp_M_stateOf.eq_1, if_neg (by decide), if_pos (by decide), if_neg (by decide), if_neg (by decide), if_neg (by decide), if_neg (by decide), if_neg (by decide), if_pos (by decide), h9]
theorem zr_ll31 (fc kfc : Nat → Int32) : ∀ (fuel j : Nat), 32 - j < fuel → sp_M_looksLike_31 fc kfc fuel j = 1 ∧ (∀ k, j ≤ k → k < 32 → fc k = kfc k) ∨ sp_M_looksLike_31 fc kfc fuel j = 0 ∧ ¬ (∀ k, j ≤ k → k < 32 → fc k = kfc k) := by
  intro fuel
  induction fuel with
  | zero => intro j h; exact absurd h (Nat.not_lt_zero _)
  | succ fuel ih =>
    intro j hf
    rw [sp_M_looksLike_31]
    rcases Decidable.em (32 ≤ j) with c | c
    · rw [if_pos c]; exact Or.inl ⟨rfl, fun k h1 h2 => by omega⟩
    · rw [if_neg c]
      rcases Decidable.em (fc j = kfc j) with e | e
      · rw [if_pos e]
        rcases ih (j + 1) (by omega) with ⟨h1, h2⟩ | ⟨h1, h2⟩
        · refine Or.inl ⟨h1, fun k g1 g2 => ?_⟩
          rcases Decidable.em (k = j) with q | q
          · rw [q]; exact e
          · exact h2 k (by omega) g2
        · exact Or.inr ⟨h1, fun g => h2 (fun k g1 g2 => g k (by omega) g2)⟩
      · rw [if_neg e]
        exact Or.inr ⟨rfl, fun g => e (g j (Nat.le_refl _) (by omega))⟩
theorem zr_ll (fr fc : Nat → Int32) (mp mi me mo mt : Int32) (mS : Nat) (kfr kfc : Nat → Int32) (kp ki ke ko kt : Int32) (kS : Nat) : ∀ (fuel j : Nat), 10 - j < fuel →
    sp_M_looksLike_2 fr fc mp mi me mo mt mS kfr kfc kp ki ke ko kt kS fuel j = 1 ∧ ((∀ k, j ≤ k → k < 10 → sp_M_stateOf (nI k) fr mp mi me mo mt mS = sp_M_stateOf (nI k) kfr kp ki ke ko kt kS) ∧ ∀ k, k < 32 → fc k = kfc k) ∨
    sp_M_looksLike_2 fr fc mp mi me mo mt mS kfr kfc kp ki ke ko kt kS fuel j = 0 ∧ ¬ ((∀ k, j ≤ k → k < 10 → sp_M_stateOf (nI k) fr mp mi me mo mt mS = sp_M_stateOf (nI k) kfr kp ki ke ko kt kS) ∧ ∀ k, k < 32 → fc k = kfc k) := by
  intro fuel
  induction fuel with
  | zero => intro j h; exact absurd h (Nat.not_lt_zero _)
  | succ fuel ih =>
    intro j hf
    rw [sp_M_looksLike_2]
    rcases Decidable.em (10 ≤ j) with c | c
    · rw [if_pos c]
      rcases zr_ll31 fc kfc 33 0 (by omega) with ⟨h1, h2⟩ | ⟨h1, h2⟩
      · exact Or.inl ⟨h1, fun k g1 g2 => by omega, fun k g => h2 k (Nat.zero_le _) g⟩
      · exact Or.inr ⟨h1, fun g => h2 (fun k _ g2 => g.2 k g2)⟩
    · rw [if_neg c]
      rcases Decidable.em (sp_M_stateOf (nI j) fr mp mi me mo mt mS = sp_M_stateOf (nI j) kfr kp ki ke ko kt kS) with e | e
      · rw [if_pos e]
        rcases ih (j + 1) (by omega) with ⟨h1, h2⟩ | ⟨h1, h2⟩
        · refine Or.inl ⟨h1, fun k g1 g2 => ?_, h2.2⟩
          rcases Decidable.em (k = j) with q | q
          · rw [q]; exact e
          · exact h2.1 k (by omega) g2
        · exact Or.inr ⟨h1, fun g => h2 ⟨fun k g1 g2 => g.1 k (by omega) g2, g.2⟩⟩
      · rw [if_neg e]
        exact Or.inr ⟨rfl, fun g => e (g.1 j (Nat.le_refl _) (by omega))⟩
def zr_same (gm : Nat → Int32) (j : Nat) : Prop := ∀ k, j ≤ k → k < 48 → (k ≤ 9 ∨ 16 ≤ k) → gm k = gm (k + 48)
theorem zr_t75 (gm gi gl : Nat → Int32) (gt : Nat → Int64) (gk gv : Nat → Int32) (yw : Nat) (yq : Int32) (yl : Nat) (ye yt yS : Int32) (yr ya : Nat) : ∀ (fuel j : Nat) (sm : Int32), 48 - j < fuel →
    (sp_Y_tell_75 fuel sm j gm gi gl gt gk gv yw yq yl ye yt yS yr ya = (1, gm, gi, yw, yq, gl, yl, yS, yt, ye, gt, gk, gv, yr, ya) ∧ (¬ sm = 0 ∧ zr_same gm j)) ∨
    (sp_Y_tell_75 fuel sm j gm gi gl gt gk gv yw yq yl ye yt yS yr ya = (0, gm, gi, yw, yq, gl, yl, yS, yt, ye, gt, gk, gv, yr, ya) ∧ ¬ (¬ sm = 0 ∧ zr_same gm j)) := by
  intro fuel
  induction fuel with
  | zero => intro j sm h; exact absurd h (Nat.not_lt_zero _)
  | succ fuel ih =>
    intro j sm hf
    rw [sp_Y_tell_75]
    rcases Decidable.em (48 ≤ j) with c | c
    · rw [if_pos c]
      rcases Decidable.em (sm = 0) with z | z
      · rw [if_pos z]; exact Or.inr ⟨rfl, fun g => g.1 z⟩
      · rw [if_neg z]; exact Or.inl ⟨rfl, z, fun k h1 h2 => by omega⟩
    · rw [if_neg c]
      -- the three ways on
      have bad : ¬ (¬ sm = 0 ∧ zr_same gm j) → (sp_Y_tell_75 fuel 0 (j + 1) gm gi gl gt gk gv yw yq yl ye yt yS yr ya = (1, gm, gi, yw, yq, gl, yl, yS, yt, ye, gt, gk, gv, yr, ya) ∧ (¬ sm = 0 ∧ zr_same gm j)) ∨ (sp_Y_tell_75 fuel 0 (j + 1) gm gi gl gt gk gv yw yq yl ye yt yS yr ya = (0, gm, gi, yw, yq, gl, yl, yS, yt, ye, gt, gk, gv, yr, ya) ∧ ¬ (¬ sm = 0 ∧ zr_same gm j)) := by
        intro hb
        rcases ih (j + 1) 0 (by omega) with ⟨_, h2⟩ | ⟨h1, _⟩
        · exact absurd rfl h2.1
        · exact Or.inr ⟨h1, hb⟩
      have good : ¬ sm = 0 → ((j ≤ 9 ∨ 16 ≤ j) → gm j = gm (j + 48)) → (sp_Y_tell_75 fuel 1 (j + 1) gm gi gl gt gk gv yw yq yl ye yt yS yr ya = (1, gm, gi, yw, yq, gl, yl, yS, yt, ye, gt, gk, gv, yr, ya) ∧ (¬ sm = 0 ∧ zr_same gm j)) ∨ (sp_Y_tell_75 fuel 1 (j + 1) gm gi gl gt gk gv yw yq yl ye yt yS yr ya = (0, gm, gi, yw, yq, gl, yl, yS, yt, ye, gt, gk, gv, yr, ya) ∧ ¬ (¬ sm = 0 ∧ zr_same gm j)) := by
        intro hz hj
        rcases ih (j + 1) 1 (by omega) with ⟨h1, h2⟩ | ⟨h1, h2⟩
        · refine Or.inl ⟨h1, hz, fun k g1 g2 g3 => ?_⟩
          rcases Decidable.em (k = j) with q | q
          · rw [q] at g3 ⊢; exact hj g3
          · exact h2.2 k (by omega) g2 g3
        · exact Or.inr ⟨h1, fun g => h2 ⟨by decide, fun k g1 g2 g3 => g.2 k (by omega) g2 g3⟩⟩
      rcases Decidable.em (j ≤ 9) with d | d
      · rw [if_pos d]
        rcases Decidable.em (sm = 0) with z | z
        · rw [if_pos z]; exact bad (fun g => g.1 z)
        · rw [if_neg z]
          rcases Decidable.em (gm j = gm (j + 48)) with e | e
          · rw [if_pos e]; exact good z (fun _ => e)
          · rw [if_neg e]; exact bad (fun g => e (g.2 j (Nat.le_refl _) (by omega) (Or.inl d)))
      · rw [if_neg d]
        rcases Decidable.em (j < 16) with w | w
        · rw [if_pos w]
          rcases Decidable.em (sm = 0) with z | z
          · rw [if_pos z]; exact bad (fun g => g.1 z)
          · rw [if_neg z]; exact good z (fun h => by omega)
        · rw [if_neg w]
          rcases Decidable.em (sm = 0) with z | z
          · rw [if_pos z]; exact bad (fun g => g.1 z)
          · rw [if_neg z]
            rcases Decidable.em (gm j = gm (j + 48)) with e | e
            · rw [if_pos e]; exact good z (fun _ => e)
            · rw [if_neg e]; exact bad (fun g => e (g.2 j (Nat.le_refl _) (by omega) (Or.inr (by omega))))
/-- the comparison at a telling's end -/
theorem zr_cmp {gm fr fc : Nat → Int32} {mp mb mi me ml mo mt : Int32} {mS : Nat} {kfr kfc : Nat → Int32} {kp kb ki ke kl ko kt : Int32} {kS : Nat} (h : zr_M 0 gm fr fc mp mb mi me ml mo mt mS) (hi : mi = 0 ∨ mi = 1) (he : me = 0 ∨ me = 1) (hk : zr_M 48 gm kfr kfc kp kb ki ke kl ko kt kS) (hki : ki = 0 ∨ ki = 1) (hke : ke = 0 ∨ ke = 1)
    (gi gl : Nat → Int32) (gt : Nat → Int64) (gk gv : Nat → Int32) (yw : Nat) (yq : Int32) (yl : Nat) (ye yt yS : Int32) (yr ya : Nat) (tt : Int32) (dp : Nat) (de dB : Int32) (ds : Int64) (dk dv : Int32) :
    ∃ r, sp_Y_tell_75 49 1 0 gm gi gl gt gk gv yw yq yl ye yt yS yr ya = (r, gm, gi, yw, yq, gl, yl, yS, yt, ye, gt, gk, gv, yr, ya) ∧ sp_X_tell_95 fr fc mp mi me mo mt mS kfr kfc kp kb ki ke kl ko kt kS tt dp de dB ds dk dv = (r, kfr, kfc, kp, kb, ki, ke, kl, ko, kt, kS, tt, dp, de, dB, ds, dk, dv) := by
  have hiff : (zr_same gm 0) ↔ ((∀ k, 0 ≤ k → k < 10 → sp_M_stateOf (nI k) kfr kp ki ke ko kt kS = sp_M_stateOf (nI k) fr mp mi me mo mt mS) ∧ ∀ k, k < 32 → kfc k = fc k) := by
    have hc0 := h.2.2.2.2.2.2.2.2.2
    have hc1 := hk.2.2.2.2.2.2.2.2.2
    constructor
    · intro g
      refine ⟨fun k _ hk10 => ?_, fun k hk32 => ?_⟩
      · rw [zr_st hk hki hke k hk10, zr_st h hi he k hk10, Nat.zero_add, Nat.add_comm 48 k]
        exact (g k (Nat.zero_le _) (by omega) (by omega)).symm
      · rw [← hc0 k hk32, ← hc1 k hk32]
        have := g (16 + k) (Nat.zero_le _) (by omega) (by omega)
        have e1 : 0 + 16 + k = 16 + k := by omega
        have e2 : 48 + 16 + k = 16 + k + 48 := by omega
        rw [e1, e2]
        exact this.symm
    · rintro ⟨g1, g2⟩ k _ hk48 hsh
      rcases hsh with q | q
      · have := g1 k (Nat.zero_le _) (by omega)
        rw [zr_st hk hki hke k (by omega), zr_st h hi he k (by omega), Nat.zero_add, Nat.add_comm 48 k] at this
        exact this.symm
      · have := g2 (k - 16) (by omega)
        rw [← hc0 (k - 16) (by omega), ← hc1 (k - 16) (by omega)] at this
        have e1 : 0 + 16 + (k - 16) = k := by omega
        have e2 : 48 + 16 + (k - 16) = k + 48 := by omega
        rw [e1, e2] at this
        exact this.symm
  have hx : sp_X_tell_95 fr fc mp mi me mo mt mS kfr kfc kp kb ki ke kl ko kt kS tt dp de dB ds dk dv = if (sp_M_looksLike kfr kfc kp ki ke ko kt kS fr fc mp mi me mo mt mS) = 0 then (0, kfr, kfc, kp, kb, ki, ke, kl, ko, kt, kS, tt, dp, de, dB, ds, dk, dv) else (1, kfr, kfc, kp, kb, ki, ke, kl, ko, kt, kS, tt, dp, de, dB, ds, dk, dv) := sp_X_tell_95.eq_1 fr fc mp mi me mo mt mS kfr kfc kp kb ki ke kl ko kt kS tt dp de dB ds dk dv
  have hll := zr_ll kfr kfc kp ki ke ko kt kS fr fc mp mi me mo mt mS 11 0 (by omega)
  have hdef : sp_M_looksLike kfr kfc kp ki ke ko kt kS fr fc mp mi me mo mt mS = sp_M_looksLike_2 kfr kfc kp ki ke ko kt kS fr fc mp mi me mo mt mS 11 0 := rfl
  rw [← hdef] at hll
  rcases zr_t75 gm gi gl gt gk gv yw yq yl ye yt yS yr ya 49 0 1 (by omega) with ⟨a1, a2⟩ | ⟨a1, a2⟩
  · rcases hll with ⟨b1, b2⟩ | ⟨b1, b2⟩
    · rw [b1, if_neg (by decide)] at hx
      exact ⟨1, a1, hx⟩
    · exact absurd (hiff.mp a2.2) b2
  · rcases hll with ⟨b1, b2⟩ | ⟨b1, b2⟩
    · exact absurd ⟨by decide, hiff.mpr b2⟩ a2
    · rw [b1, if_pos rfl] at hx
      exact ⟨0, a1, hx⟩
/-- the told machine's way: as many steps as the live one has done -/
theorem zr_told {f : Nat → Int32} {n : Nat} {gt : Nat → Int64} {gk gv : Nat → Int32} {Y : Nat} {P T κ : Nat → Nat} {raw : Nat → Int32} (hn : n ≤ 300) (hs : zr_seq f n gt gk gv 0 Y P T κ raw) (hY : P Y = n) (hYn : Y ≤ n) (gi gl : Nat → Int32) (yc : Int32) (yw : Nat) (yq : Int32) (yl : Nat) (ye yt yS : Int32) (ya : Nat) (fo ff fs : Nat → Int32) (pn : Nat) (hP : zr_prog fo fs pn) (hpn : pn ≤ 24) (fr fc : Nat → Int32) (mp mb mi me ml mo mt : Int32) (mS : Nat) (hi : mi = 0 ∨ mi = 1) (he : me = 0 ∨ me = 1) (hmS : mS < 2 ^ 28) :
    ∀ (fuel j : Nat) (gm kfr kfc : Nat → Int32) (kp kb ki ke kl ko kt tt : Int32) (e dp : Nat) (de dB : Int32) (ds : Int64) (dk dv : Int32), mS - j < fuel → j ≤ mS → zr_M 0 gm fr fc mp mb mi me ml mo mt mS → zr_M 48 gm kfr kfc kp kb ki ke kl ko kt j → zk_YI gm fo fs pn 48 → (ki = 0 ∨ ki = 1) → (ke = 0 ∨ ke = 1) → gm (48 + 12) = tt → zr_at Y P T κ raw e dp de dB ds dk dv → (∀ i, i < e → T (i + 1) < j + 1) →
    ∃ (r : Int32) (g kfr' kfc' : Nat → Int32) (kp' kb' ki' ke' kl' ko' kt' : Int32) (kS' : Nat) (z : Int32 × Nat × Int32 × Int32 × Int64 × Int32 × Int32),
      sp_Y_tell_34 fo ff fs pn yc fuel gm gi gl gt gk gv yw yq yl ye yt yS Y ya = (r, g, gi, yw, yq, gl, yl, yS, yt, ye, gt, gk, gv, Y, ya) ∧
      sp_X_tell_57 fo ff fs pn fr fc mp mi me mo mt mS f n fuel j kfr kfc kp kb ki ke kl ko kt j tt dp de dB ds dk dv = (r, kfr', kfc', kp', kb', ki', ke', kl', ko', kt', kS', z) ∧
      zr_M 48 g kfr' kfc' kp' kb' ki' ke' kl' ko' kt' kS' ∧ (ki' = 0 ∨ ki' = 1) ∧ (ke' = 0 ∨ ke' = 1) ∧ ∀ k, k < 48 → g k = gm k := by
  intro fuel
  induction fuel with
  | zero => intro j gm kfr kfc kp kb ki ke kl ko kt tt e dp de dB ds dk dv h; exact absurd h (Nat.not_lt_zero _)
  | succ fuel ih =>
    intro j gm kfr kfc kp kb ki ke kl ko kt tt e dp de dB ds dk dv hf hj h0 h48 hYI hki hke h12 hat hlt
    have g9 : gm 9 = nI mS := h0.2.2.2.2.2.2.1
    have g57 : gm 57 = nI j := h48.2.2.2.2.2.2.1
    have g56 : gm 56 = ke := h48.2.2.2.2.2.1
    rw [sp_Y_tell_34, sp_X_tell_57, g9, g57, g56]
    rcases Decidable.em (mS ≤ j) with c | c
    · rw [if_pos (nI_le c (by omega)), if_pos c]
      obtain ⟨r, a1, a2⟩ := zr_cmp h0 hi he h48 hki hke gi gl gt gk gv yw yq yl ye yt yS Y ya tt dp de dB ds dk dv
      exact ⟨r, gm, kfr, kfc, kp, kb, ki, ke, kl, ko, kt, j, _, a1, a2, h48, hki, hke, fun _ _ => rfl⟩
    · rw [if_neg (nI_ge (by omega) (by omega)), if_neg c]
      rcases Decidable.em (ke = 0) with z | z
      · rw [if_pos z]
        obtain ⟨p, hp24, hp⟩ := hYI.2.1
        have g4 : gm (48 + 4) = kp := h48.2.1
        obtain ⟨g, fr', fc', mp', mb', mi', me', ml', mo', mt', tt', e', dp', de', dB', ds', dk', dv', d1, d2, hz, hi', hme', hg, k1, k2⟩ := zr_stepK hn hs hY hYn gm gi gl yc yw yq yl ye yt yS fo ff fs pn kfr kfc kp kb ki ke kl ko kt j tt p hP hpn (g4.symm.trans hp) hp24 hki z h48 h12 (by omega) hat hlt
        have hst := zf_step 48 fo ff fs gm gi gl gt gk gv pn yc yw yq yl ye yt yS Y hpn hYI
        rw [d1] at hst
        rw [d1, d2]
        dsimp only at hst ⊢
        rw [if_neg (by decide)]
        have h0' : zr_M 0 g fr fc mp mb mi me ml mo mt mS := zr_frame h0 (fun k _ hk => hst.2.2 k (Or.inl (by omega)))
        obtain ⟨r, G, x1, x2, x3, x4, x5, x6, x7, x8, x9, x10, zz, q1, q2, q3, q4, q5, q6⟩ := ih (j + 1) g fr' fc' mp' mb' mi' me' ml' mo' mt' tt' e' dp' de' dB' ds' dk' dv' (by omega) (by omega) h0' hz hst.1 hi' hme' hg k1 (fun i hi => by have := k2 i hi; omega)
        exact ⟨r, G, x1, x2, x3, x4, x5, x6, x7, x8, x9, x10, zz, q1, q2, q3, q4, q5, fun k hk => (q6 k hk).trans (hst.2.2 k (Or.inl hk))⟩
      · rw [if_neg z]
        have e2 := sp_M_stepT.eq_1 kfr kfc kp kb ki ke kl ko kt j fo ff fs pn tt dp de dB ds dk dv f n
        rw [if_neg z] at e2
        rw [e2]
        dsimp only
        rw [if_pos rfl]
        obtain ⟨r, a1, a2⟩ := zr_cmp h0 hi he h48 hki hke gi gl gt gk gv yw yq yl ye yt yS Y ya tt dp de dB ds dk dv
        exact ⟨r, gm, kfr, kfc, kp, kb, ki, ke, kl, ko, kt, j, _, a1, a2, h48, hki, hke, fun _ _ => rfl⟩
