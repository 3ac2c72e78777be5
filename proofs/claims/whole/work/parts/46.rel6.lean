/-! the log read again: numbers -/
theorem zr_or32 (a b : Nat) : nI a ||| nI b = nI (a ||| b) := by
  apply Int32.toBitVec_inj.1
  show BitVec.ofNat 32 a ||| BitVec.ofNat 32 b = BitVec.ofNat 32 (a ||| b)
  apply BitVec.eq_of_getLsbD_eq
  intro i hi
  simp [hi]
theorem zr_nmod (a : Nat) : nI a = nI (a % 2 ^ 32) := by
  apply Int32.toBitVec_inj.1
  show BitVec.ofNat 32 a = BitVec.ofNat 32 (a % 2 ^ 32)
  apply BitVec.eq_of_toNat_eq
  rw [BitVec.toNat_ofNat, BitVec.toNat_ofNat, Nat.mod_mod]
theorem zr_sh5 : ∀ j, j < 5 → (((7 * nI j) &&& 31).toBitVec.smod 32).toNat = 7 * j := by decide +kernel
theorem zr_shl {c j : Nat} (hj : j < 5) : zf_shl (nI c) (7 * nI j) = nI (c * 2 ^ (7 * j)) := by
  apply Int32.toBitVec_inj.1
  apply BitVec.eq_of_toNat_eq
  have h := pk_shl (nI c) ((7 * nI j) &&& 31) (7 * j) (zr_sh5 j hj)
  have e : (nI c).toBitVec.toNat = c % 2 ^ 32 := by
    show (BitVec.ofNat 32 c).toNat = _
    rw [BitVec.toNat_ofNat]
  have e2 : (nI (c * 2 ^ (7 * j))).toBitVec.toNat = c * 2 ^ (7 * j) % 2 ^ 32 := by
    show (BitVec.ofNat 32 _).toNat = _
    rw [BitVec.toNat_ofNat]
  rw [e2]
  show (nI c <<< ((7 * nI j) &&& 31)).toBitVec.toNat = _
  rw [h, e, Nat.mod_mul_mod]
theorem zr_lshl {c j : Nat} (hj : j < 5) : zf_lshl (lN c) (7 * nI j) = lN (c * 2 ^ (7 * j)) := by
  have e : 7 * nI j = nI (7 * j) := pk_mul 7 j
  unfold zf_lshl
  rw [e]
  exact wb_shl c (by omega)
theorem zr_byte (x : Int32) : ∃ c, c < 128 ∧ x &&& 127 = nI c ∧ Int32.toInt64 (x &&& 127) = lN c := by
  obtain ⟨c, hc, e⟩ := pk_andE x (m := 127) 7 (by decide)
  exact ⟨c, hc, e, by rw [e]; exact nI_l (by omega)⟩
theorem zr_bnd {V c j : Nat} (hV : V < 2 ^ (7 * j)) (hc : c < 128) : V ||| c * 2 ^ (7 * j) < 2 ^ (7 * (j + 1)) := by
  apply Nat.or_lt_two_pow
  · exact Nat.lt_of_lt_of_le hV (Nat.pow_le_pow_right (by decide) (by omega))
  · have e : 7 * (j + 1) = 7 * j + 7 := by omega
    rw [e, Nat.pow_add, Nat.mul_comm]
    exact Nat.mul_lt_mul_of_pos_left (by omega) (Nat.pow_pos (by decide))
theorem zr_mask {V : Nat} (hV : V < 2 ^ 64) : lN V &&& 4294967295 = lN (V % 2 ^ 32) := wb_mask (k := 32) hV (by decide)
/-- one number: both read it, or both fail, and both stand at the same place behind it -/
theorem zr_rn (f : Nat → Int32) (n : Nat) (dB : Int32) (hn : n ≤ 300) : ∀ (fuel j V dp : Nat), j + fuel = 6 → V < 2 ^ (7 * j) → dp ≤ n →
    ∃ d', d' ≤ n ∧ dp ≤ d' ∧ (j = 0 → dp < n → dp < d') ∧ ((∃ q, q < 2 ^ 32 ∧ sp_D_readNumber_4 dB f n fuel (nI V) j dp = (nI q, d', dB) ∧ sp_Y_readNumber_4 f n fuel (lN V) j dp = (lN q, d')) ∨ (sp_D_readNumber_4 dB f n fuel (nI V) j dp = (0, d', 1) ∧ sp_Y_readNumber_4 f n fuel (lN V) j dp = (-1, d'))) ∨ j = 6 := by
  intro fuel
  induction fuel with
  | zero => intro j V dp hj hV hd; exact ⟨0, Or.inr (by omega)⟩
  | succ fuel ih =>
    intro j V dp hj hV hd
    rcases Decidable.em (5 ≤ j) with c5 | c5
    · refine ⟨dp, Or.inl ⟨hd, Nat.le_refl _, fun h => by omega, Or.inr ⟨?_, ?_⟩⟩⟩
      · rw [sp_D_readNumber_4, if_pos c5]
      · rw [sp_Y_readNumber_4, if_pos c5]
    · rw [sp_D_readNumber_4, sp_Y_readNumber_4, if_neg c5, if_neg c5, zr_hasJ (by omega) (by omega)]
      rcases Decidable.em (dp < n) with cd | cd
      · rw [if_pos cd, if_neg (by decide), if_pos cd]
        obtain ⟨c, hc, e1, e2⟩ := zr_byte (f dp)
        have hV64 : V < 2 ^ 64 := Nat.lt_of_lt_of_le hV (Nat.pow_le_pow_right (by decide) (by omega))
        have hB := zr_bnd hV hc
        have hB64 : V ||| c * 2 ^ (7 * j) < 2 ^ 64 := Nat.lt_of_lt_of_le hB (Nat.pow_le_pow_right (by decide) (by omega))
        have hC64 : c * 2 ^ (7 * j) < 2 ^ 64 := Nat.lt_of_le_of_lt Nat.right_le_or hB64
        rw [e1, zr_shl (by omega), zr_or32, e1.symm, e2, zr_lshl (by omega), wb_or hV64 hC64]
        rcases Decidable.em ((128 : Int32) ≤ f dp) with cb | cb
        · rw [if_pos cb, if_pos cb]
          obtain ⟨d', h⟩ := ih (j + 1) (V ||| c * 2 ^ (7 * j)) (dp + 1) (by omega) hB (by omega)
          rcases h with ⟨k1, k2, k3, k4⟩ | h
          · exact ⟨d', Or.inl ⟨k1, by omega, fun _ _ => by omega, k4⟩⟩
          · exfalso; omega
        · rw [if_neg cb, if_neg cb]
          refine ⟨dp + 1, Or.inl ⟨by omega, by omega, fun _ _ => by omega, Or.inl ⟨(V ||| c * 2 ^ (7 * j)) % 2 ^ 32, Nat.mod_lt _ (by decide), ?_, ?_⟩⟩⟩
          · rw [← zr_nmod]
          · rw [zr_mask hB64]
      · rw [if_neg cd, if_pos rfl, if_neg cd]
        exact ⟨dp, Or.inl ⟨hd, Nat.le_refl _, fun _ h => absurd h cd, Or.inr ⟨rfl, rfl⟩⟩⟩
theorem zr_num (f : Nat → Int32) (n : Nat) (dB : Int32) (dp : Nat) (hn : n ≤ 300) (hd : dp ≤ n) :
    ∃ d', d' ≤ n ∧ dp ≤ d' ∧ (dp < n → dp < d') ∧ ((∃ q, q < 2 ^ 32 ∧ sp_D_readNumber dp dB f n = (nI q, d', dB) ∧ sp_Y_readNumber f n dp = (lN q, d')) ∨ (sp_D_readNumber dp dB f n = (0, d', 1) ∧ sp_Y_readNumber f n dp = (-1, d'))) := by
  obtain ⟨d', h⟩ := zr_rn f n dB hn 6 0 0 dp rfl (by decide) hd
  rcases h with ⟨k1, k2, k3, k4⟩ | h
  · exact ⟨d', k1, k2, fun g => k3 rfl g, k4⟩
  · exact absurd h (by decide)
