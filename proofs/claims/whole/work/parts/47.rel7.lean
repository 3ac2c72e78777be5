/-! the log read again: an entry, and all entries -/
/-- what an entry's number gives: an input is folded, a time stands as it is, an interrupt has none -/
def zr_val (kd : Nat) (v : Int32) : Int32 := if kd = 2 then v else if kd = 1 then (if v &&& 1 = 0 then zf_ushr v 1 else (-(zf_ushr v 1)) - 1) else 0
theorem zr_hl {q : Nat} (hq : q < 2 ^ 32) : (nI q &&& 3 = nI (q % 4)) ∧ zf_ushr (nI q) 2 = nI (q / 4) ∧ Int64.toInt32 (lN q &&& 3) = nI (q % 4) ∧ lN q / 4 = lN (q / 4) ∧ (lN q < 4 ↔ q < 4) ∧ (0 : Int64) ≤ lN q := by
  have h63 : q < 2 ^ 63 := Nat.lt_trans hq (by decide)
  refine ⟨pk_andN hq 2 (by decide), pk_ushrN hq 2 2 (by decide), ?_, pk_lDiv (b := 4) h63 (by decide) (by decide), pk_lLT (b := 4) h63 (by decide), ?_⟩
  · have e : lN q &&& 3 = lN (q % 4) := wb_mask (k := 2) (Nat.lt_trans hq (by decide)) (by decide)
    rw [e, lN_i]
  · exact (pk_lLE (a := 0) (by decide) h63).mpr (Nat.zero_le _)
theorem zr_fold {q : Nat} (hq : q < 2 ^ 32) : (if zf_lrem (lN q) 2 = 0 then Int64.toInt32 (lN q / 2) else Int64.toInt32 (-1 - lN q / 2)) = zr_val 1 (nI q) := by
  have h63 : q < 2 ^ 63 := Nat.lt_trans hq (by decide)
  have e1 : zf_lrem (lN q) 2 = lN (q % 2) := pk_lRem (b := 2) h63 (by decide) (by decide)
  have e2 : lN q / 2 = lN (q / 2) := pk_lDiv (b := 2) h63 (by decide) (by decide)
  have e3 : nI q &&& 1 = nI (q % 2) := pk_andN hq 1 (by decide)
  have e4 : zf_ushr (nI q) 1 = nI (q / 2) := pk_ushrN hq 1 1 (by decide)
  show _ = (if nI q &&& 1 = 0 then zf_ushr (nI q) 1 else (-(zf_ushr (nI q) 1)) - 1)
  rw [e1, e2, e3, e4]
  rcases Nat.mod_two_eq_zero_or_one q with h | h
  · rw [h, if_pos (by decide), if_pos (by decide), lN_i]
  · rw [h, if_neg (by decide), if_neg (by decide), Int64.toInt32_sub, lN_i]
    have e5 : Int64.toInt32 (-1) = -1 := by decide
    rw [e5, Int32.sub_eq_add_neg, Int32.add_comm, Int32.sub_eq_add_neg]
theorem zr_one (f : Nat → Int32) (n dp : Nat) (hn : n ≤ 300) (hd : dp < n) :
    (∃ d', ∀ (ds : Int64) (dk dv : Int32), (∃ x1 x2 x3, sp_D_readEntry dp 0 ds dk dv f n = (d', 0, 1, x1, x2, x3)) ∧ ∀ (fuel : Nat) (s : Int64) (gt : Nat → Int64) (gk gv : Nat → Int32) (yr : Nat), ∃ y, sp_Y_readAll_12 f n (fuel + 1) s gt gk gv yr dp = (0, gt, gk, gv, yr, y)) ∨
    (∃ d' dist kd raw, dp < d' ∧ d' ≤ n ∧ 0 < dist ∧ dist < 2 ^ 30 ∧ (kd = 1 ∨ kd = 2 ∨ kd = 3) ∧ (∀ (ds : Int64) (dk dv : Int32), sp_D_readEntry dp 0 ds dk dv f n = (d', 1, 0, ds + lN dist, nI kd, raw)) ∧
      ∀ (fuel : Nat) (s : Int64) (gt : Nat → Int64) (gk gv : Nat → Int32) (yr : Nat), sp_Y_readAll_12 f n (fuel + 1) s gt gk gv yr dp = sp_Y_readAll_12 f n fuel (s + lN dist) (vp_updL gt yr (s + lN dist)) (upd gk yr (nI kd)) (upd gv yr (zr_val kd raw)) (yr + 1) d') := by
  have hh : sp_J_has (nI dp) n = 1 := by rw [zr_hasJ (by omega) (by omega), if_pos hd]
  obtain ⟨d1, k1, k2, k3, k4⟩ := zr_num f n 0 dp hn (by omega)
  have k3 := k3 hd
  rcases k4 with ⟨q, hq, a1, a2⟩ | ⟨a1, a2⟩
  · obtain ⟨b1, b2, b3, b4, b5, b6⟩ := zr_hl hq
    have b7 : Int32.toInt64 (nI (q / 4)) = lN (q / 4) := nI_l (by omega)
    -- the second number
    obtain ⟨d2, m1, m2, m3, m4⟩ := zr_num f n 0 d1 hn k1
    have c4 : nI (q / 4) = 0 ↔ q / 4 = 0 := nI_eq (b := 0) (by omega) (by decide)
    have ck : ∀ k, k < 4 → (nI (q % 4) = nI k ↔ q % 4 = k) := fun k hk => nI_eq (by omega) (by omega)
    have hq4 : q % 4 = 0 ∨ q % 4 = 1 ∨ q % 4 = 2 ∨ q % 4 = 3 := by omega
    rcases Decidable.em (q < 4) with z | z
    · -- no distance
      left
      have z4 : q / 4 = 0 := Nat.div_eq_of_lt z
      have yv : ∀ (fuel : Nat) (s : Int64) (gt : Nat → Int64) (gk gv : Nat → Int32) (yr : Nat), ∃ y, sp_Y_readAll_12 f n (fuel + 1) s gt gk gv yr dp = (0, gt, gk, gv, yr, y) := by
        intro fuel s gt gk gv yr
        rw [sp_Y_readAll_12, if_neg (by omega), a2]
        dsimp only
        rw [if_pos (b5.mpr z)]
        exact ⟨_, rfl⟩
      rcases hq4 with e | e | e | e
      · refine ⟨d1, fun ds dk dv => ⟨?_, yv⟩⟩
        rw [sp_D_readEntry.eq_1, if_pos rfl, hh, if_neg (by decide), a1]
        dsimp only
        rw [b1, b2, e, if_neg (by decide), if_neg (by decide), if_pos (by decide)]
        exact ⟨_, _, _, rfl⟩
      · refine ⟨d2, fun ds dk dv => ⟨?_, yv⟩⟩
        rw [sp_D_readEntry.eq_1, if_pos rfl, hh, if_neg (by decide), a1]
        dsimp only
        rw [b1, b2, e, if_pos (by decide), z4]
        rcases m4 with ⟨q2, hq2, a3, a4⟩ | ⟨a3, a4⟩
        · rw [a3]; dsimp only; rw [if_pos (by decide)]; exact ⟨_, _, _, rfl⟩
        · rw [a3]; dsimp only; rw [if_pos (by decide)]; exact ⟨_, _, _, rfl⟩
      · refine ⟨d2, fun ds dk dv => ⟨?_, yv⟩⟩
        rw [sp_D_readEntry.eq_1, if_pos rfl, hh, if_neg (by decide), a1]
        dsimp only
        rw [b1, b2, e, if_neg (by decide), if_pos (by decide), z4]
        rcases m4 with ⟨q2, hq2, a3, a4⟩ | ⟨a3, a4⟩
        · rw [a3]; dsimp only; rw [if_pos (by decide)]; exact ⟨_, _, _, rfl⟩
        · rw [a3]; dsimp only; rw [if_pos (by decide)]; exact ⟨_, _, _, rfl⟩
      · refine ⟨d1, fun ds dk dv => ⟨?_, yv⟩⟩
        rw [sp_D_readEntry.eq_1, if_pos rfl, hh, if_neg (by decide), a1]
        dsimp only
        rw [b1, b2, e, if_neg (by decide), if_neg (by decide), if_neg (by decide), z4, if_pos (by decide)]
        exact ⟨_, _, _, rfl⟩
    · have z4 : ¬ nI (q / 4) = 0 := fun g => by have := c4.mp g; omega
      have b5 : ¬ lN q < 4 := fun g => z (b5.mp g)
      rcases hq4 with e | e | e | e
      · left
        refine ⟨d1, fun ds dk dv => ⟨?_, fun fuel s gt gk gv yr => ?_⟩⟩
        · rw [sp_D_readEntry.eq_1, if_pos rfl, hh, if_neg (by decide), a1]
          dsimp only
          rw [b1, b2, e, if_neg (by decide), if_neg (by decide), if_pos (by decide)]
          exact ⟨_, _, _, rfl⟩
        · rw [sp_Y_readAll_12, if_neg (by omega), a2]
          dsimp only
          rw [if_neg b5, b3, e, if_pos (by decide)]
          exact ⟨_, rfl⟩
      · rcases m4 with ⟨q2, hq2, a3, a4⟩ | ⟨a3, a4⟩
        · right
          refine ⟨d2, q / 4, 1, nI q2, by omega, m1, by omega, by omega, Or.inl rfl, fun ds dk dv => ?_, fun fuel s gt gk gv yr => ?_⟩
          · rw [sp_D_readEntry.eq_1, if_pos rfl, hh, if_neg (by decide), a1]
            dsimp only
            rw [b1, b2, e, if_pos (by decide), a3]
            dsimp only
            rw [if_neg z4, if_pos (by decide), b7]
          · rw [sp_Y_readAll_12, if_neg (by omega), a2]
            dsimp only
            rw [if_neg b5, b3, e, if_neg (by decide), if_neg (by decide), a4]
            dsimp only
            rw [if_pos (zr_hl hq2).2.2.2.2.2, if_neg (by decide), b4, ← zr_fold hq2]
            split <;> rfl
        · left
          refine ⟨d2, fun ds dk dv => ⟨?_, fun fuel s gt gk gv yr => ?_⟩⟩
          · rw [sp_D_readEntry.eq_1, if_pos rfl, hh, if_neg (by decide), a1]
            dsimp only
            rw [b1, b2, e, if_pos (by decide), a3]
            dsimp only
            rw [if_neg z4, if_neg (by decide)]
            exact ⟨_, _, _, rfl⟩
          · rw [sp_Y_readAll_12, if_neg (by omega), a2]
            dsimp only
            rw [if_neg b5, b3, e, if_neg (by decide), if_neg (by decide), a4]
            dsimp only
            rw [if_neg (by decide)]
            exact ⟨_, rfl⟩
      · rcases m4 with ⟨q2, hq2, a3, a4⟩ | ⟨a3, a4⟩
        · right
          refine ⟨d2, q / 4, 2, nI q2, by omega, m1, by omega, by omega, Or.inr (Or.inl rfl), fun ds dk dv => ?_, fun fuel s gt gk gv yr => ?_⟩
          · rw [sp_D_readEntry.eq_1, if_pos rfl, hh, if_neg (by decide), a1]
            dsimp only
            rw [b1, b2, e, if_neg (by decide), if_pos (by decide), a3]
            dsimp only
            rw [if_neg z4, if_pos (by decide), b7]
          · rw [sp_Y_readAll_12, if_neg (by omega), a2]
            dsimp only
            rw [if_neg b5, b3, e, if_neg (by decide), if_neg (by decide), a4]
            dsimp only
            rw [if_pos (zr_hl hq2).2.2.2.2.2, if_pos (by decide), b4, lN_i]
            rfl
        · left
          refine ⟨d2, fun ds dk dv => ⟨?_, fun fuel s gt gk gv yr => ?_⟩⟩
          · rw [sp_D_readEntry.eq_1, if_pos rfl, hh, if_neg (by decide), a1]
            dsimp only
            rw [b1, b2, e, if_neg (by decide), if_pos (by decide), a3]
            dsimp only
            rw [if_neg z4, if_neg (by decide)]
            exact ⟨_, _, _, rfl⟩
          · rw [sp_Y_readAll_12, if_neg (by omega), a2]
            dsimp only
            rw [if_neg b5, b3, e, if_neg (by decide), if_neg (by decide), a4]
            dsimp only
            rw [if_neg (by decide)]
            exact ⟨_, rfl⟩
      · right
        refine ⟨d1, q / 4, 3, 0, k3, k1, by omega, by omega, Or.inr (Or.inr rfl), fun ds dk dv => ?_, fun fuel s gt gk gv yr => ?_⟩
        · rw [sp_D_readEntry.eq_1, if_pos rfl, hh, if_neg (by decide), a1]
          dsimp only
          rw [b1, b2, e, if_neg (by decide), if_neg (by decide), if_neg (by decide), if_neg z4, if_pos (by decide), b7]
        · rw [sp_Y_readAll_12, if_neg (by omega), a2]
          dsimp only
          rw [if_neg b5, b3, e, if_neg (by decide), if_pos (by decide), if_pos (by decide), if_pos (by decide), b4]
          rfl
  · left
    refine ⟨d1, fun ds dk dv => ⟨?_, fun fuel s gt gk gv yr => ?_⟩⟩
    · rw [sp_D_readEntry.eq_1, if_pos rfl, hh, if_neg (by decide), a1]
      dsimp only
      rw [if_neg (by decide), if_neg (by decide), if_pos (by decide)]
      exact ⟨_, _, _, rfl⟩
    · rw [sp_Y_readAll_12, if_neg (by omega), a2]
      dsimp only
      rw [if_pos (by decide)]
      exact ⟨_, rfl⟩
