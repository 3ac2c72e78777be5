/-! runs: class and reference -/
def zr_L (gm fr fc : Nat → Int32) (mp mb mi me ml mo mt : Int32) (mS c0 c1 w n u : Nat) (rq : Int32) (fo fs : Nat → Int32) (pn : Nat) : Prop :=
  zr_M 0 gm fr fc mp mb mi me ml mo mt mS ∧ zk_YI gm fo fs pn 0 ∧ gm 12 = nI c0 ∧ c0 ≤ c1 ∧ (mi = 0 ∨ mi = 1) ∧ (me = 0 ∨ me = 1) ∧ (rq = 0 ∨ rq = 1) ∧ n ≤ 300 ∧ u ≤ mS ∧ w ≤ 16
theorem zr_run (nn : Int32) (gt : Nat → Int64) (gk gv : Nat → Int32) (yr : Nat) (fo ff fs : Nat → Int32) (pn c1 : Nat) (hP : zr_prog fo fs pn) (hpn : pn ≤ 24) (hc1 : c1 < 2 ^ 31) :
    ∀ (fuel j : Nat) (gm fr fc : Nat → Int32) (mp mb mi me ml mo mt : Int32) (mS : Nat) (fi : Nat → Int32) (w c0 : Nat) (rq : Int32) (f : Nat → Int32) (n : Nat) (jm S : Int32) (u : Nat), zr_L gm fr fc mp mb mi me ml mo mt mS c0 c1 w n u rq fo fs pn → mS + fuel < 2 ^ 28 →
    ∃ (r : Int32) (g fr' fc' : Nat → Int32) (mp' mb' mi' me' ml' mo' mt' : Int32) (mS' : Nat) (fi' : Nat → Int32) (w' c0' : Nat) (rq' : Int32) (f' : Nat → Int32) (n' : Nat) (jm' S' : Int32) (u' : Nat),
      sp_Y_run_19 nn fo ff fs gt gk gv pn (nI c1) yr fuel j gm fi f w rq n jm (nI u) S = (r, 1, g, fi', w', rq', f', n', S', nI u', jm') ∧
      sp_X_run_22 nn fo ff fs pn (nI c1) fuel j j fr fc mp mb mi me ml mo mt mS fi w (nI c0) rq f n jm S (nI u) = (r, 1, fr', fc', mp', mb', mi', me', ml', mo', mt', mS', fi', w', nI c0', rq', f', n', jm', S', nI u') ∧
      zr_L g fr' fc' mp' mb' mi' me' ml' mo' mt' mS' c0' c1 w' n' u' rq' fo fs pn ∧ mS' ≤ mS + fuel ∧ ∀ k, 48 ≤ k → g k = gm k := by
  intro fuel
  induction fuel with
  | zero =>
    intro j gm fr fc mp mb mi me ml mo mt mS fi w c0 rq f n jm S u hL _
    exact ⟨0, gm, fr, fc, mp, mb, mi, me, ml, mo, mt, mS, fi, w, c0, rq, f, n, jm, S, u, rfl, rfl, hL, Nat.le_refl _, fun _ _ => rfl⟩
  | succ fuel ih =>
    intro j gm fr fc mp mb mi me ml mo mt mS fi w c0 rq f n jm S u hL hS
    rw [sp_Y_run_19, sp_X_run_22]
    rcases Decidable.em (nn ≤ nI j) with a | a
    · rw [if_pos a, if_pos a]
      exact ⟨_, gm, fr, fc, mp, mb, mi, me, ml, mo, mt, mS, fi, w, c0, rq, f, n, jm, S, u, rfl, rfl, hL, by omega, fun _ _ => rfl⟩
    rw [if_neg a, if_neg a]
    rcases Decidable.em (290 < n) with b | b
    · rw [if_pos b, if_pos b]
      exact ⟨_, gm, fr, fc, mp, mb, mi, me, ml, mo, mt, mS, fi, w, c0, rq, f, n, jm, S, u, rfl, rfl, hL, by omega, fun _ _ => rfl⟩
    rw [if_neg b, if_neg b]
    have hL' := hL
    obtain ⟨hz, hY, h12, hc, hi, hme, hrq, hn, hu, hw⟩ := hL'
    have g8 : gm 8 = me := hz.2.2.2.2.2.1
    rw [g8]
    rcases Decidable.em (me = 0) with z | z
    · rw [if_pos z]
      obtain ⟨p, hp24, hp⟩ := hY.2.1
      have g4 : gm (0 + 4) = mp := hz.2.1
      obtain ⟨g, fr', fc', mp', mb', mi', me', ml', mo', mt', fi', w', c0', rq', f', n', jm', S', u', d1, d2, hz', hi', hme', hg', hc', hn', hu', hw', hrq'⟩ := zr_stepL gm gt gk gv yr fo ff fs pn fr fc mp mb mi me ml mo mt mS fi w c0 c1 rq f n jm S u p hP hpn (g4.symm.trans hp) hp24 hi z hz h12 hc hc1 hu (by omega) (by omega) hw
      have hst := zf_step 0 fo ff fs gm fi f gt gk gv pn (nI c1) w rq n jm (nI u) S yr hpn hY
      rw [d1] at hst
      rw [d1, d2]
      dsimp only at hst ⊢
      rw [if_neg (by decide)]
      have hrq2 : rq' = 0 ∨ rq' = 1 := by
        rcases hrq' with q | q
        · rw [q]; exact hrq
        · exact Or.inl q
      obtain ⟨r, G, x1, x2, x3, x4, x5, x6, x7, x8, x9, x10, x11, x12, x13, x14, x15, x16, x17, x18, x19, k1, k2, k3, k4, k5⟩ := ih (j + 1) g fr' fc' mp' mb' mi' me' ml' mo' mt' (mS + 1) fi' w' c0' rq' f' n' jm' S' u'
        ⟨hz', hst.1, hg', hc', hi', hme', hrq2, by omega, hu', hw'⟩ (by omega)
      exact ⟨r, G, x1, x2, x3, x4, x5, x6, x7, x8, x9, x10, x11, x12, x13, x14, x15, x16, x17, x18, x19, k1, k2, k3, by omega, fun k hk => (k5 k hk).trans (hst.2.2 k (Or.inr (by omega)))⟩
    · rw [if_neg z]
      have e2 := sp_M_stepR.eq_1 fr fc mp mb mi me ml mo mt mS fo ff fs pn fi w (nI c0) rq (nI c1) f n jm S (nI u)
      rw [if_neg z] at e2
      rw [e2]
      dsimp only
      rw [if_pos rfl]
      exact ⟨_, gm, fr, fc, mp, mb, mi, me, ml, mo, mt, mS, fi, w, c0, rq, f, n, jm, S, u, rfl, rfl, hL, by omega, fun _ _ => rfl⟩
