/-! the reference's side: what its helpers say, and bounds of what it writes -/
def zk_inr (r v lo hi : Int32) : Prop := r = 0 ∨ (¬ v < lo ∧ ¬ hi < v)
theorem zk_atI {r i : Int32} {n : Nat} (hf : zk_inr r i 0 (nI n - 1)) (hr : ¬ r = 0) : i = nI i.toNatClampNeg := by
  rcases hf with h | ⟨h1, _⟩
  · exact absurd h hr
  · exact zk_iI h1
theorem zk_atL {r i : Int32} {n : Nat} (hf : zk_inr r i 0 (nI n - 1)) (hr : ¬ r = 0) (hn : n ≤ 320) : i.toNatClampNeg < 320 := by
  rcases hf with h | ⟨h1, h2⟩
  · exact absurd h hr
  · obtain ⟨j, hj, rfl⟩ := nI_of h1
    rw [nI_clamp hj]
    rcases n with _ | k
    · exact absurd (show nI 0 - 1 < nI j from Int32.lt_iff_toInt_lt.mpr (by rw [nI_toInt hj]; have : (nI 0 - 1).toInt = -1 := by decide
                                                                            omega)) h2
    · rw [nI_pred] at h2
      have : ¬ k < j := fun g => h2 (nI_lt g hj)
      omega
theorem zk_d128 {r : Int64} {f : Nat} (h : ¬ r < 128) (h2 : r.toInt < 128 ^ (f + 1)) : (r / 128).toInt < 128 ^ f ∧ 0 < f := by
  have h3 : (128 : Int64).toInt ≤ r.toInt := Int64.le_iff_toInt_le.mp (Int64.not_lt.mp h)
  have e128 : (128 : Int64).toInt = 128 := by decide
  rw [e128] at h3
  have h0 : ¬ r < 0 := fun g => by
    have := Int64.lt_iff_toInt_lt.mp g
    have e0 : (0 : Int64).toInt = 0 := by decide
    omega
  obtain ⟨k, hk, rfl⟩ := pk_lOf h0
  rw [pk_lT hk] at h2 h3
  have hd : lN k / 128 = lN (k / 128) := pk_lDiv (b := 128) hk (by decide) (by decide)
  have hq : k / 128 < 2 ^ 63 := Nat.lt_of_le_of_lt (Nat.div_le_self _ _) hk
  rw [hd, pk_lT hq]
  have h4 : k < 128 ^ (f + 1) := by exact_mod_cast h2
  have h5 : k / 128 < 128 ^ f := by
    rw [Nat.pow_succ] at h4
    exact (Nat.div_lt_iff_lt_mul (by decide)).mpr h4
  refine ⟨by exact_mod_cast h5, ?_⟩
  rcases f with _ | f
  · exfalso
    have : k < 128 := by simpa using h4
    omega
  · exact Nat.succ_pos _
theorem zk_p5 {v : Int64} (h : v.toInt < 34359738368) : v.toInt < 128 ^ 5 := by
  have e : (128 : Int) ^ 5 = 34359738368 := by decide
  rw [e]; exact h
theorem zk_t64 (x : Int32) : (Int32.toInt64 x).toInt = x.toInt := Int32.toInt_toInt64 x
theorem zk_rng (x : Int32) : -2147483648 ≤ x.toInt ∧ x.toInt < 2147483648 := ⟨Int32.le_toInt x, Int32.toInt_lt x⟩
theorem zk_we (x y : Int32) : ((4 : Int64) * Int32.toInt64 x + Int32.toInt64 y).toInt < 34359738368 := by
  have hx := zk_rng x
  have hy := zk_rng y
  have e4 : (4 : Int64).toInt = 4 := by decide
  rw [Int64.toInt_add, Int64.toInt_mul, zk_t64, zk_t64, e4]
  rw [Int.bmod_eq_of_le_mul_two (x := 4 * x.toInt) (by omega) (by omega)]
  rw [Int.bmod_eq_of_le_mul_two (by omega) (by omega)]
  omega
theorem zk_dbl1 (x : Int32) : ((2 : Int64) * Int32.toInt64 x).toInt < 34359738368 := by
  have hx := zk_rng x
  have e4 : (2 : Int64).toInt = 2 := by decide
  rw [Int64.toInt_mul, zk_t64, e4, Int.bmod_eq_of_le_mul_two (by omega) (by omega)]
  omega
theorem zk_dbl2 (x : Int32) : ((-2 : Int64) * Int32.toInt64 x - 1).toInt < 34359738368 := by
  have hx := zk_rng x
  have e4 : (-2 : Int64).toInt = -2 := by decide
  have e1 : (1 : Int64).toInt = 1 := by decide
  rw [Int64.toInt_sub, Int64.toInt_mul, zk_t64, e4, e1]
  rw [Int.bmod_eq_of_le_mul_two (x := -2 * x.toInt) (by omega) (by omega)]
  rw [Int.bmod_eq_of_le_mul_two (by omega) (by omega)]
  omega
theorem zk_i35 (x : Int32) : (Int32.toInt64 x).toInt < 34359738368 := by
  have hx := zk_rng x
  rw [zk_t64]; omega
def zk_fd (e : Int32) (j : Nat) : Prop := e = -1 ∨ ∃ k, k < j ∧ e = nI k
theorem zk_fds {e : Int32} {j : Nat} (h : zk_fd e j) : zk_fd e (j + 1) := by
  rcases h with h | ⟨k, hk, h⟩
  · exact Or.inl h
  · exact Or.inr ⟨k, by omega, h⟩
theorem zk_fdj (j : Nat) : zk_fd (nI j) (j + 1) := Or.inr ⟨j, by omega, rfl⟩
theorem zk_fdm {e : Int32} {j n : Nat} (h : zk_fd e j) (hn : j ≤ n) : zk_fd e n := by
  rcases h with h | ⟨k, hk, h⟩
  · exact Or.inl h
  · exact Or.inr ⟨k, by omega, h⟩
theorem zk_fdI {e : Int32} {n : Nat} (_hf : zk_fd e n) (h : ¬ e < 0) : e = nI e.toNatClampNeg := zk_iI h
theorem zk_fdL {e : Int32} {n : Nat} (hf : zk_fd e n) (h : ¬ e < 0) (hn : n ≤ 320) : e.toNatClampNeg < 320 := by
  rcases hf with rfl | ⟨k, hk, rfl⟩
  · exact absurd (by decide) h
  · rw [nI_clamp (by omega)]; omega
theorem zk_plu {gm : Nat → Int32} {M : Nat} {v : Int32} (h : ¬ gm (M + 4) < 0) : ¬ (upd gm (M + 9) v) (M + 4) < 0 := by
  rw [pk_un (by omega)]; exact h
theorem zk_iL24 {i : Int32} {n : Nat} (h : ¬ i < 0) (h2 : i < nI n) (hn : n ≤ 24) : i.toNatClampNeg < 24 := by
  obtain ⟨j, hj, rfl⟩ := nI_of h
  rw [nI_clamp hj]
  have : j < n := (nI_ltI hj (by omega)).mp h2
  omega
theorem zk_n1i {r n : Int32} (hf : zk_inr r n 1 4) (hr : ¬ r = 0) : (n - 1).toInt < 4 ∧ -1 ≤ (n - 1).toInt ∧ ((n - 1).toInt + 1).toNat < 5 := by
  rcases hf with h | ⟨h1, h2⟩
  · exact absurd h hr
  · exact zk_n1 h1 (Int32.not_lt.mp h2)
/-- jumps of the program go to its front places -/
def zk_YP (go gs : Nat → Int32) (n : Nat) : Prop := ∀ k, k < n → (go k = 5 ∨ go k = 6) → ∃ q, q < 24 ∧ gs k = nI q
/-- the machine's place and back are small -/
def zk_YI (gm go gs : Nat → Int32) (n M : Nat) : Prop := zk_YP go gs n ∧ (∃ q, q ≤ 24 ∧ gm (M + 4) = nI q) ∧ ∃ q, q ≤ 24 ∧ gm (M + 10) = nI q
theorem zk_YI.pl {gm go gs : Nat → Int32} {n M : Nat} (h : zk_YI gm go gs n M) : ¬ gm (M + 4) < 0 := by
  obtain ⟨_, ⟨q, hq, e⟩, _⟩ := h
  rw [e]; exact nI_pos (by omega)
