def pop : Nat → Nat → Nat
  | _, 0 => 0
  | x, k + 1 => x % 2 + pop (x / 2) k
theorem pop_step (x k : Nat) : pop x (k + 1) = pop x k + x / 2 ^ k % 2 := by
  induction k generalizing x with
  | zero => simp [pop]
  | succ k ih =>
    have e : pop x (k + 1 + 1) = x % 2 + pop (x / 2) (k + 1) := rfl
    have e2 : pop x (k + 1) = x % 2 + pop (x / 2) k := rfl
    rw [e, ih, e2, Nat.div_div_eq_div_mul, Nat.pow_succ, Nat.mul_comm 2 (2 ^ k), Nat.add_assoc]
theorem pop_ext {x c : Nat} (h : x < 2 ^ c) (m : Nat) : pop x (c + m) = pop x c := by
  induction m with
  | zero => rfl
  | succ m ih =>
    have h2 : x < 2 ^ (c + m) := Nat.lt_of_lt_of_le h (Nat.pow_le_pow_right (by decide) (by omega))
    rw [show c + (m + 1) = c + m + 1 from rfl, pop_step, ih, Nat.div_eq_of_lt h2]
    simp
theorem pop_le (x k : Nat) : pop x k ≤ k := by
  induction k with
  | zero => exact Nat.le_refl _
  | succ k ih =>
    rw [pop_step]
    omega
theorem pop_16 {a : Nat} (y k : Nat) (h : a < 16) : pop (a + 16 * y) (k + 4) = np4 a + pop y k := by
  have e : pop (a + 16 * y) (k + 4) = (a + 16 * y) % 2 + ((a + 16 * y) / 2 % 2 + ((a + 16 * y) / 2 / 2 % 2 + ((a + 16 * y) / 2 / 2 / 2 % 2 + pop ((a + 16 * y) / 2 / 2 / 2 / 2) k))) := rfl
  rw [e, (np4_eq a h).1, show (a + 16 * y) / 2 / 2 / 2 / 2 = y by omega]
  omega
theorem pop_hx8 {a0 a1 a2 a3 a4 a5 a6 a7 : Nat} (h0 : a0 < 16) (h1 : a1 < 16) (h2 : a2 < 16) (h3 : a3 < 16) (h4 : a4 < 16) (h5 : a5 < 16) (h6 : a6 < 16) (h7 : a7 < 16) : pop (hx8 a0 a1 a2 a3 a4 a5 a6 a7) 32 = np4 a0 + (np4 a1 + (np4 a2 + (np4 a3 + (np4 a4 + (np4 a5 + (np4 a6 + np4 a7)))))) := by
  unfold hx8
  have e7 : pop a7 4 = np4 a7 := by
    have := pop_16 (a := a7) 0 0 h7
    simpa [pop] using this
  rw [pop_16 _ 28 h0, pop_16 _ 24 h1, pop_16 _ 20 h2, pop_16 _ 16 h3, pop_16 _ 12 h4, pop_16 _ 8 h5, pop_16 _ 4 h6, e7]
theorem bc_pop (x : Int32) : bN (r_J6_bitCount_0f7a4 x) = pop (bN x) 32 := by
  obtain ⟨a0, a1, a2, a3, a4, a5, a6, a7, h0, h1, h2, h3, h4, h5, h6, h7, e⟩ := hx8_of (bN x) (bN_lt x)
  rw [bc_eq, bc_hx (np4_eq a0 h0).2 (np4_eq a1 h1).2 (np4_eq a2 h2).2 (np4_eq a3 h3).2 (np4_eq a4 h4).2 (np4_eq a5 h5).2 (np4_eq a6 h6).2 (np4_eq a7 h7).2 (bc2_hx h0 h1 h2 h3 h4 h5 h6 h7 e), e, pop_hx8 h0 h1 h2 h3 h4 h5 h6 h7]
theorem bN_nI {j : Nat} (h : j < 4294967296) : bN (nI j) = j := by
  show (BitVec.ofNat 32 j).toNat = j
  rw [BitVec.toNat_ofNat, Nat.mod_eq_of_lt h]
theorem sl_pow (k : Nat) (hk : k < 32) : bN (1 <<< (nI k &&& 31)) = 2 ^ k := by
  have h : ∀ k : Fin 32, bN (1 <<< (nI k.val &&& 31)) = 2 ^ k.val := by decide
  exact h ⟨k, hk⟩
theorem sl_smod (k : Nat) (hk : k < 32) : ((nI k &&& 31).toBitVec.smod 32).toNat = k := by
  have h : ∀ k : Fin 32, ((nI k.val &&& 31).toBitVec.smod 32).toNat = k.val := by decide
  exact h ⟨k, hk⟩
theorem and_pow (x k : Nat) : x &&& 2 ^ k = 2 ^ k * (x / 2 ^ k % 2) := by
  refine Nat.eq_of_testBit_eq fun i => ?_
  have hp : 0 < 2 ^ k := Nat.pow_pos (by decide)
  have hz : 2 ^ k * (x / 2 ^ k % 2) = 2 ^ k * (x / 2 ^ k % 2) + 0 := rfl
  rw [hz, Nat.testBit_and, Nat.testBit_two_pow_mul_add _ hp]
  by_cases h1 : i < k
  · rw [if_pos h1, Nat.testBit_two_pow_of_ne (by omega)]; simp
  · rw [if_neg h1]
    by_cases h2 : i = k
    · subst h2
      rw [Nat.testBit_two_pow_self, Nat.sub_self]
      simp [Nat.testBit_eq_decide_div_mod_eq]
    · rw [Nat.testBit_two_pow_of_ne (by omega)]
      have : i - k = (i - k - 1) + 1 := by omega
      rw [this, Nat.testBit_succ, show x / 2 ^ k % 2 / 2 = 0 by omega]
      simp
theorem bit_in (d : Int32) (k : Nat) (hk : k < 32) : d &&& (1 <<< (nI k &&& 31)) = 0 ↔ bN d / 2 ^ k % 2 = 0 := by
  have hp : 0 < 2 ^ k := Nat.pow_pos (by decide)
  have e : bN (d &&& (1 <<< (nI k &&& 31))) = 2 ^ k * (bN d / 2 ^ k % 2) := by
    rw [bN_and, sl_pow k hk, and_pow]
  constructor
  · intro h
    rw [h] at e
    have e0 : bN 0 = 0 := rfl
    rw [e0] at e
    rcases Nat.mul_eq_zero.mp e.symm with z | z
    · omega
    · exact z
  · intro h
    rw [h, Nat.mul_zero] at e
    exact bN_inj e
theorem bit_at (d : Int32) (k : Nat) (hk : k < 32) (hd : bN d < 2147483648) : (d >>> (nI k &&& 31)) &&& 1 = nI (bN d / 2 ^ k % 2) := by
  refine bN_inj ?_
  have hm : d.toBitVec.msb = false := BitVec.msb_eq_false_iff_two_mul_lt.mpr (by
    have : d.toBitVec.toNat = bN d := rfl
    omega)
  have e : bN (d >>> (nI k &&& 31)) = bN d / 2 ^ k := by
    unfold bN
    rw [Int32.toBitVec_shiftRight, BitVec.sshiftRight', sl_smod k hk, BitVec.sshiftRight_eq_of_msb_false hm, BitVec.toNat_ushiftRight, Nat.shiftRight_eq_div_pow]
  rw [bN_and, e, show bN 1 = 2 ^ 1 - 1 from rfl, Nat.and_two_pow_sub_one_eq_mod, bN_nI (by omega)]
theorem bit_xor (d : Int32) {c k : Nat} (hd : bN d < 2 ^ k) (hk : k ≤ 30) (hc : c < k) : bN (d ^^^ (1 <<< (nI c &&& 31))) < 2 ^ k := by
  rw [bN_xor, sl_pow c (by omega)]
  exact Nat.xor_lt_two_pow hd (Nat.pow_lt_pow_right (by decide) hc)
