/-! the reference's remainder by a power of two is the masked index; indices of its two machines -/
theorem zk_remT (v : Int32) (k : Int32) (K : Nat) (hk : k.toInt = K) (hK : 0 < K) (hK2 : K ≤ 64) : (zf_rem v k).toInt = v.toInt.tmod K := by
  have hv := zk_rng v
  have e1 := Int.mul_tdiv_add_tmod v.toInt (K : Int)
  have e2 := Int.tmod_lt_of_pos v.toInt (b := (K : Int)) (by omega)
  have e3 := Int.lt_tmod_of_pos v.toInt (b := (K : Int)) (by omega)
  have e5 : 0 ≤ v.toInt → 0 ≤ v.toInt.tmod K := fun h => Int.tmod_nonneg _ h
  have e6 : v.toInt ≤ 0 → v.toInt.tmod K ≤ 0 := fun h => by
    have := Int.tmod_nonneg (a := -v.toInt) (K : Int) (by omega)
    rw [Int.neg_tmod] at this
    omega
  have hne : k ≠ -1 := fun h => by
    rw [h] at hk
    have : (-1 : Int32).toInt = -1 := by decide
    omega
  unfold zf_rem
  rw [Int32.toInt_sub, Int32.toInt_mul, Int32.toInt_div_of_ne_right _ _ hne, hk]
  have e4 : v.toInt.tdiv K * K = v.toInt - v.toInt.tmod K := by rw [Int.mul_comm]; omega
  rw [e4, Int.bmod_eq_of_le_mul_two (x := v.toInt - v.toInt.tmod K) (by omega) (by omega)]
  rw [Int.bmod_eq_of_le_mul_two (by omega) (by omega)]
  omega
theorem zk_toN (v : Int32) : (v.toBitVec.toNat : Int) = v.toInt ∨ (v.toBitVec.toNat : Int) = v.toInt + 4294967296 := by
  have h := BitVec.toInt_eq_toNat_cond v.toBitVec
  have h2 : v.toBitVec.toInt = v.toInt := Int32.toInt_toBitVec v
  rw [h2] at h
  split at h
  · exact Or.inl h.symm
  · exact Or.inr (by have : ((2 ^ 32 : Nat) : Int) = 4294967296 := by decide
                     omega)
theorem zk_mod4 (v : Int32) : sp_Y_mod4 v = nI (zk_ix3 v) := by
  have hr : (zf_rem v 4).toInt = v.toInt.tmod 4 := zk_remT v 4 4 (by decide) (by decide) (by decide)
  have e1 := Int.mul_tdiv_add_tmod v.toInt 4
  have e2 := Int.tmod_lt_of_pos v.toInt (b := 4) (by omega)
  have e3 := Int.lt_tmod_of_pos v.toInt (b := 4) (by omega)
  have hN := zk_toN v
  have hl : zk_ix3 v < 4 := zk_ix3_lt v
  have hd : zk_ix3 v = v.toBitVec.toNat % 4 := rfl
  apply Int32.toInt_inj.mp
  rw [nI_toInt (by omega)]
  unfold sp_Y_mod4
  have e0 : (0 : Int32).toInt = 0 := by decide
  have e4 : (4 : Int32).toInt = 4 := by decide
  split
  · next h =>
    have h := Int32.le_iff_toInt_le.mp h
    rw [hr, e0] at h
    rw [hr]
    omega
  · next h =>
    have h : ¬ (0 : Int32).toInt ≤ (zf_rem v 4).toInt := fun g => h (Int32.le_iff_toInt_le.mpr g)
    rw [hr, e0] at h
    rw [Int32.toInt_add, hr, e4, Int.bmod_eq_of_le_mul_two (by omega) (by omega)]
    omega
theorem zk_mod32 (v : Int32) : sp_Y_mod32 v = nI (zk_ix31 v) := by
  have hr : (zf_rem v 32).toInt = v.toInt.tmod 32 := zk_remT v 32 32 (by decide) (by decide) (by decide)
  have e1 := Int.mul_tdiv_add_tmod v.toInt 32
  have e2 := Int.tmod_lt_of_pos v.toInt (b := 32) (by omega)
  have e3 := Int.lt_tmod_of_pos v.toInt (b := 32) (by omega)
  have hN := zk_toN v
  have hl : zk_ix31 v < 32 := zk_ix31_lt v
  have hd : zk_ix31 v = v.toBitVec.toNat % 32 := rfl
  apply Int32.toInt_inj.mp
  rw [nI_toInt (by omega)]
  unfold sp_Y_mod32
  have e0 : (0 : Int32).toInt = 0 := by decide
  have e4 : (32 : Int32).toInt = 32 := by decide
  split
  · next h =>
    have h := Int32.le_iff_toInt_le.mp h
    rw [hr, e0] at h
    rw [hr]
    omega
  · next h =>
    have h : ¬ (0 : Int32).toInt ≤ (zf_rem v 32).toInt := fun g => h (Int32.le_iff_toInt_le.mpr g)
    rw [hr, e0] at h
    rw [Int32.toInt_add, hr, e4, Int.bmod_eq_of_le_mul_two (by omega) (by omega)]
    omega
theorem zk_inN {r w hi : Int32} {n : Nat} (hf : zk_inr r w 0 hi) (hr : ¬ r = 0) (hn : hi.toInt = n) : ∃ q, q ≤ n ∧ w = nI q := by
  rcases hf with h | ⟨h1, h2⟩
  · exact absurd h hr
  · exact nI_of2 hn h1 (Int32.not_lt.mp h2)
theorem zk_stX {r1 r2 w x : Int32} (f1 : zk_inr r1 w 0 1) (h1 : ¬ r1 = 0) (f2 : zk_inr r2 x 0 9) (h2 : ¬ r2 = 0) : ∃ q, q < 96 ∧ 48 * w + x = nI q := by
  obtain ⟨a, ha, rfl⟩ := zk_inN (n := 1) f1 h1 (by decide)
  obtain ⟨b, hb, rfl⟩ := zk_inN (n := 9) f2 h2 (by decide)
  refine ⟨48 * a + b, by omega, ?_⟩
  show nI 48 * nI a + nI b = _
  rw [pk_mul, nI_add]
theorem zk_stI {r1 r2 w x : Int32} (f1 : zk_inr r1 w 0 1) (h1 : ¬ r1 = 0) (f2 : zk_inr r2 x 0 9) (h2 : ¬ r2 = 0) : 48 * w + x = nI (48 * w + x).toNatClampNeg := by
  obtain ⟨q, hq, e⟩ := zk_stX f1 h1 f2 h2
  rw [e, nI_clamp (by omega)]
theorem zk_stL {r1 r2 w x : Int32} (f1 : zk_inr r1 w 0 1) (h1 : ¬ r1 = 0) (f2 : zk_inr r2 x 0 9) (h2 : ¬ r2 = 0) : (48 * w + x).toNatClampNeg < 96 := by
  obtain ⟨q, hq, e⟩ := zk_stX f1 h1 f2 h2
  rw [e, nI_clamp (by omega)]; exact hq
theorem zk_ceX {r1 r2 w x : Int32} (f1 : zk_inr r1 w 0 1) (h1 : ¬ r1 = 0) (f2 : zk_inr r2 x 0 31) (h2 : ¬ r2 = 0) : ∃ q, q < 96 ∧ 48 * w + 16 + x = nI q := by
  obtain ⟨a, ha, rfl⟩ := zk_inN (n := 1) f1 h1 (by decide)
  obtain ⟨b, hb, rfl⟩ := zk_inN (n := 31) f2 h2 (by decide)
  refine ⟨48 * a + 16 + b, by omega, ?_⟩
  show nI 48 * nI a + nI 16 + nI b = _
  rw [pk_mul, nI_add, nI_add]
theorem zk_ceI {r1 r2 w x : Int32} (f1 : zk_inr r1 w 0 1) (h1 : ¬ r1 = 0) (f2 : zk_inr r2 x 0 31) (h2 : ¬ r2 = 0) : 48 * w + 16 + x = nI (48 * w + 16 + x).toNatClampNeg := by
  obtain ⟨q, hq, e⟩ := zk_ceX f1 h1 f2 h2
  rw [e, nI_clamp (by omega)]
theorem zk_ceL {r1 r2 w x : Int32} (f1 : zk_inr r1 w 0 1) (h1 : ¬ r1 = 0) (f2 : zk_inr r2 x 0 31) (h2 : ¬ r2 = 0) : (48 * w + 16 + x).toNatClampNeg < 96 := by
  obtain ⟨q, hq, e⟩ := zk_ceX f1 h1 f2 h2
  rw [e, nI_clamp (by omega)]; exact hq
