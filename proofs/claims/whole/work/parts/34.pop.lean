def bN (x : Int32) : Nat := x.toBitVec.toNat
theorem bN_lt (x : Int32) : bN x < 4294967296 := x.toBitVec.isLt
theorem bN_inj {x y : Int32} (h : bN x = bN y) : x = y := Int32.toBitVec_inj.mp (BitVec.eq_of_toNat_eq h)
theorem bN_add (x y : Int32) : bN (x + y) = (bN x + bN y) % 4294967296 := by
  unfold bN; rw [Int32.toBitVec_add, BitVec.toNat_add]
theorem bN_sub (x y : Int32) : bN (x - y) = (4294967296 - bN y + bN x) % 4294967296 := by
  unfold bN; rw [Int32.toBitVec_sub, BitVec.toNat_sub]
theorem bN_and (x y : Int32) : bN (x &&& y) = bN x &&& bN y := by
  unfold bN; rw [Int32.toBitVec_and, BitVec.toNat_and]
theorem bN_xor (x y : Int32) : bN (x ^^^ y) = bN x ^^^ bN y := by
  unfold bN; rw [Int32.toBitVec_xor, BitVec.toNat_xor]
def ush (x k : Int32) : Int32 := (x.toUInt32 >>> (k.toUInt32 &&& Int32.toUInt32 31)).toInt32
theorem bN_ush (x k : Int32) (j : Nat) (h : (k.toUInt32 &&& Int32.toUInt32 31).toBitVec % 32 = BitVec.ofNat 32 j) (hj : j < 32) : bN (ush x k) = bN x / 2 ^ j := by
  unfold bN ush
  rw [UInt32.toBitVec_toInt32, UInt32.toBitVec_shiftRight, h, Int32.toBitVec_toUInt32, BitVec.ushiftRight_eq', BitVec.toNat_ushiftRight, Nat.shiftRight_eq_div_pow, BitVec.toNat_ofNat, Nat.mod_eq_of_lt (show j < 2 ^ 32 by omega)]
def bc1 (x : Int32) : Int32 := x - (ush x 1 &&& 1431655765)
def bc2 (x : Int32) : Int32 := (bc1 x &&& 858993459) + (ush (bc1 x) 2 &&& 858993459)
def bc3 (x : Int32) : Int32 := (bc2 x + ush (bc2 x) 4) &&& 252645135
def bc4 (x : Int32) : Int32 := bc3 x + ush (bc3 x) 8
def bc5 (x : Int32) : Int32 := bc4 x + ush (bc4 x) 16
theorem bc_eq (x : Int32) : r_J6_bitCount_0f7a4 x = bc5 x &&& 63 := rfl
/-- a nibble below a number -/
theorem and16 (a b m M : Nat) (ha : a < 16) (hm : m < 16) : (a + 16 * b) &&& (m + 16 * M) = (a &&& m) + 16 * (b &&& M) := by
  have e : ∀ u v, u + 16 * v = 2 ^ 4 * v + u := fun u v => by omega
  have hx : (a &&& m) < 2 ^ 4 := Nat.and_lt_two_pow _ hm
  rw [e, e, e]
  refine Nat.eq_of_testBit_eq fun i => ?_
  rw [Nat.testBit_and, Nat.testBit_two_pow_mul_add _ ha, Nat.testBit_two_pow_mul_add _ hm, Nat.testBit_two_pow_mul_add _ hx]
  by_cases q : i < 4
  · rw [if_pos q, if_pos q, if_pos q, Nat.testBit_and]
  · rw [if_neg q, if_neg q, if_neg q, Nat.testBit_and]
def hx8 (a0 a1 a2 a3 a4 a5 a6 a7 : Nat) : Nat := a0 + 16 * (a1 + 16 * (a2 + 16 * (a3 + 16 * (a4 + 16 * (a5 + 16 * (a6 + 16 * a7))))))
theorem and_hx8 {a0 a1 a2 a3 a4 a5 a6 a7 m0 m1 m2 m3 m4 m5 m6 m7 : Nat} (h0 : a0 < 16) (h1 : a1 < 16) (h2 : a2 < 16) (h3 : a3 < 16) (h4 : a4 < 16) (h5 : a5 < 16) (h6 : a6 < 16) (g0 : m0 < 16) (g1 : m1 < 16) (g2 : m2 < 16) (g3 : m3 < 16) (g4 : m4 < 16) (g5 : m5 < 16) (g6 : m6 < 16) : hx8 a0 a1 a2 a3 a4 a5 a6 a7 &&& hx8 m0 m1 m2 m3 m4 m5 m6 m7 = hx8 (a0 &&& m0) (a1 &&& m1) (a2 &&& m2) (a3 &&& m3) (a4 &&& m4) (a5 &&& m5) (a6 &&& m6) (a7 &&& m7) := by
  unfold hx8
  rw [and16 _ _ _ _ h0 g0, and16 _ _ _ _ h1 g1, and16 _ _ _ _ h2 g2, and16 _ _ _ _ h3 g3, and16 _ _ _ _ h4 g4, and16 _ _ _ _ h5 g5, and16 _ _ _ _ h6 g6]
theorem hx8_of (x : Nat) (h : x < 4294967296) : ∃ a0 a1 a2 a3 a4 a5 a6 a7, a0 < 16 ∧ a1 < 16 ∧ a2 < 16 ∧ a3 < 16 ∧ a4 < 16 ∧ a5 < 16 ∧ a6 < 16 ∧ a7 < 16 ∧ x = hx8 a0 a1 a2 a3 a4 a5 a6 a7 := by
  refine ⟨x % 16, x / 16 % 16, x / 16 / 16 % 16, x / 16 / 16 / 16 % 16, x / 16 / 16 / 16 / 16 % 16, x / 16 / 16 / 16 / 16 / 16 % 16, x / 16 / 16 / 16 / 16 / 16 / 16 % 16, x / 16 / 16 / 16 / 16 / 16 / 16 / 16, by omega, by omega, by omega, by omega, by omega, by omega, by omega, by omega, ?_⟩
  unfold hx8
  omega
/-- the bits of a nibble, two fields -/
def nf (a : Nat) : Nat := a - (a / 2 &&& 5)
def np4 (a : Nat) : Nat := (nf a &&& 3) + (nf a / 4 &&& 3)
theorem n16 {P : Nat → Prop} (h : ∀ a : Fin 16, P a.val) (a : Nat) (ha : a < 16) : P a := h ⟨a, ha⟩
theorem nib5 (a c : Nat) (ha : a < 16) : (a / 2 + 8 * (c % 2)) &&& 5 = a / 2 &&& 5 := by
  have h : ∀ a : Fin 16, ∀ c : Fin 2, (a.val / 2 + 8 * c.val) &&& 5 = a.val / 2 &&& 5 := by decide
  exact h ⟨a, ha⟩ ⟨c % 2, Nat.mod_lt _ (by decide)⟩
theorem nib3 (a c : Nat) (ha : a < 16) : (a / 4 + 4 * (c % 4)) &&& 3 = a / 4 &&& 3 := by
  have h : ∀ a : Fin 16, ∀ c : Fin 4, (a.val / 4 + 4 * c.val) &&& 3 = a.val / 4 &&& 3 := by decide
  exact h ⟨a, ha⟩ ⟨c % 4, Nat.mod_lt _ (by decide)⟩
theorem nfle (a : Nat) (ha : a < 16) : (a / 2 &&& 5) ≤ a ∧ nf a < 16 := by
  have h : ∀ a : Fin 16, (a.val / 2 &&& 5) ≤ a.val ∧ nf a.val < 16 := by decide
  exact h ⟨a, ha⟩
theorem np4_eq (a : Nat) (ha : a < 16) : np4 a = a % 2 + (a / 2 % 2 + (a / 4 % 2 + a / 8 % 2)) ∧ np4 a ≤ 4 := by
  have h : ∀ a : Fin 16, np4 a.val = a.val % 2 + (a.val / 2 % 2 + (a.val / 4 % 2 + a.val / 8 % 2)) ∧ np4 a.val ≤ 4 := by decide
  exact h ⟨a, ha⟩
theorem np_le (a : Nat) : (a &&& 3) ≤ 3 ∧ (a &&& 5) ≤ 5 := ⟨Nat.and_le_right, Nat.and_le_right⟩
theorem hx8_add (a0 a1 a2 a3 a4 a5 a6 a7 b0 b1 b2 b3 b4 b5 b6 b7 : Nat) : hx8 a0 a1 a2 a3 a4 a5 a6 a7 + hx8 b0 b1 b2 b3 b4 b5 b6 b7 = hx8 (a0 + b0) (a1 + b1) (a2 + b2) (a3 + b3) (a4 + b4) (a5 + b5) (a6 + b6) (a7 + b7) := by
  unfold hx8
  omega
theorem hx8_lt {a0 a1 a2 a3 a4 a5 a6 a7 : Nat} (h0 : a0 < 16) (h1 : a1 < 16) (h2 : a2 < 16) (h3 : a3 < 16) (h4 : a4 < 16) (h5 : a5 < 16) (h6 : a6 < 16) (h7 : a7 < 16) : hx8 a0 a1 a2 a3 a4 a5 a6 a7 < 4294967296 := by
  unfold hx8
  omega
theorem sh2 (a b c : Nat) : (a + 16 * (b + 16 * c)) / 2 = (a / 2 + 8 * (b % 2)) + 16 * ((b + 16 * c) / 2) := by omega
theorem sh2e (a b : Nat) : (a + 16 * b) / 2 = (a / 2 + 8 * (b % 2)) + 16 * (b / 2 + 8 * (0 % 2)) := by omega
theorem sh4 (a b c : Nat) : (a + 16 * (b + 16 * c)) / 4 = (a / 4 + 4 * (b % 4)) + 16 * ((b + 16 * c) / 4) := by omega
theorem sh4e (a b : Nat) : (a + 16 * b) / 4 = (a / 4 + 4 * (b % 4)) + 16 * (b / 4 + 4 * (0 % 4)) := by omega
theorem hx8_d2 (a0 a1 a2 a3 a4 a5 a6 a7 : Nat) : hx8 a0 a1 a2 a3 a4 a5 a6 a7 / 2 = hx8 (a0 / 2 + 8 * (a1 % 2)) (a1 / 2 + 8 * (a2 % 2)) (a2 / 2 + 8 * (a3 % 2)) (a3 / 2 + 8 * (a4 % 2)) (a4 / 2 + 8 * (a5 % 2)) (a5 / 2 + 8 * (a6 % 2)) (a6 / 2 + 8 * (a7 % 2)) (a7 / 2 + 8 * (0 % 2)) := by
  unfold hx8
  rw [sh2 a0, sh2 a1, sh2 a2, sh2 a3, sh2 a4, sh2 a5, sh2e a6]
theorem hx8_d4 (a0 a1 a2 a3 a4 a5 a6 a7 : Nat) : hx8 a0 a1 a2 a3 a4 a5 a6 a7 / 4 = hx8 (a0 / 4 + 4 * (a1 % 4)) (a1 / 4 + 4 * (a2 % 4)) (a2 / 4 + 4 * (a3 % 4)) (a3 / 4 + 4 * (a4 % 4)) (a4 / 4 + 4 * (a5 % 4)) (a5 / 4 + 4 * (a6 % 4)) (a6 / 4 + 4 * (a7 % 4)) (a7 / 4 + 4 * (0 % 4)) := by
  unfold hx8
  rw [sh4 a0, sh4 a1, sh4 a2, sh4 a3, sh4 a4, sh4 a5, sh4e a6]
theorem hx8_d16 {a0 : Nat} (h : a0 < 16) (a1 a2 a3 a4 a5 a6 a7 : Nat) : hx8 a0 a1 a2 a3 a4 a5 a6 a7 / 16 = hx8 a1 a2 a3 a4 a5 a6 a7 0 := by
  unfold hx8
  generalize a2 + 16 * (a3 + 16 * (a4 + 16 * (a5 + 16 * (a6 + 16 * a7)))) = r
  omega
theorem hx8_d256 {a0 : Nat} (h : a0 < 16) (a2 a3 a4 a5 a6 a7 : Nat) : hx8 a0 0 a2 a3 a4 a5 a6 a7 / 256 = hx8 a2 a3 a4 a5 a6 a7 0 0 := by
  unfold hx8
  generalize a4 + 16 * (a5 + 16 * (a6 + 16 * a7)) = r
  omega
theorem bc1_hx {x : Int32} {a0 a1 a2 a3 a4 a5 a6 a7 : Nat} (h0 : a0 < 16) (h1 : a1 < 16) (h2 : a2 < 16) (h3 : a3 < 16) (h4 : a4 < 16) (h5 : a5 < 16) (h6 : a6 < 16) (h7 : a7 < 16) (hx : bN x = hx8 a0 a1 a2 a3 a4 a5 a6 a7) : bN (bc1 x) = hx8 (nf a0) (nf a1) (nf a2) (nf a3) (nf a4) (nf a5) (nf a6) (nf a7) := by
  have e2 : bN (ush x 1 &&& 1431655765) = hx8 (a0 / 2 &&& 5) (a1 / 2 &&& 5) (a2 / 2 &&& 5) (a3 / 2 &&& 5) (a4 / 2 &&& 5) (a5 / 2 &&& 5) (a6 / 2 &&& 5) (a7 / 2 &&& 5) := by
    rw [bN_and, bN_ush x 1 1 (by decide) (by decide), hx, Nat.pow_one, hx8_d2, show bN 1431655765 = hx8 5 5 5 5 5 5 5 5 from by decide, and_hx8 (by omega) (by omega) (by omega) (by omega) (by omega) (by omega) (by omega) (by decide) (by decide) (by decide) (by decide) (by decide) (by decide) (by decide), nib5 _ _ h0, nib5 _ _ h1, nib5 _ _ h2, nib5 _ _ h3, nib5 _ _ h4, nib5 _ _ h5, nib5 _ _ h6, nib5 _ _ h7]
  have e3 : hx8 (nf a0) (nf a1) (nf a2) (nf a3) (nf a4) (nf a5) (nf a6) (nf a7) + hx8 (a0 / 2 &&& 5) (a1 / 2 &&& 5) (a2 / 2 &&& 5) (a3 / 2 &&& 5) (a4 / 2 &&& 5) (a5 / 2 &&& 5) (a6 / 2 &&& 5) (a7 / 2 &&& 5) = hx8 a0 a1 a2 a3 a4 a5 a6 a7 := by
    rw [hx8_add]
    unfold nf
    rw [Nat.sub_add_cancel (nfle a0 h0).1, Nat.sub_add_cancel (nfle a1 h1).1, Nat.sub_add_cancel (nfle a2 h2).1, Nat.sub_add_cancel (nfle a3 h3).1, Nat.sub_add_cancel (nfle a4 h4).1, Nat.sub_add_cancel (nfle a5 h5).1, Nat.sub_add_cancel (nfle a6 h6).1, Nat.sub_add_cancel (nfle a7 h7).1]
  have e4 := bN_lt x
  unfold bc1
  rw [bN_sub, e2, hx]
  rw [hx] at e4
  generalize hx8 (nf a0) (nf a1) (nf a2) (nf a3) (nf a4) (nf a5) (nf a6) (nf a7) = u at *
  generalize hx8 (a0 / 2 &&& 5) (a1 / 2 &&& 5) (a2 / 2 &&& 5) (a3 / 2 &&& 5) (a4 / 2 &&& 5) (a5 / 2 &&& 5) (a6 / 2 &&& 5) (a7 / 2 &&& 5) = v at *
  generalize hx8 a0 a1 a2 a3 a4 a5 a6 a7 = w at *
  clear e2 hx
  omega
theorem bc2_hx {x : Int32} {a0 a1 a2 a3 a4 a5 a6 a7 : Nat} (h0 : a0 < 16) (h1 : a1 < 16) (h2 : a2 < 16) (h3 : a3 < 16) (h4 : a4 < 16) (h5 : a5 < 16) (h6 : a6 < 16) (h7 : a7 < 16) (hx : bN x = hx8 a0 a1 a2 a3 a4 a5 a6 a7) : bN (bc2 x) = hx8 (np4 a0) (np4 a1) (np4 a2) (np4 a3) (np4 a4) (np4 a5) (np4 a6) (np4 a7) := by
  have hb := bc1_hx h0 h1 h2 h3 h4 h5 h6 h7 hx
  have q0 := np4_eq a0 h0
  have q1 := np4_eq a1 h1
  have q2 := np4_eq a2 h2
  have q3 := np4_eq a3 h3
  have q4 := np4_eq a4 h4
  have q5 := np4_eq a5 h5
  have q6 := np4_eq a6 h6
  have q7 := np4_eq a7 h7
  replace h0 := (nfle a0 h0).2
  replace h1 := (nfle a1 h1).2
  replace h2 := (nfle a2 h2).2
  replace h3 := (nfle a3 h3).2
  replace h4 := (nfle a4 h4).2
  replace h5 := (nfle a5 h5).2
  replace h6 := (nfle a6 h6).2
  replace h7 := (nfle a7 h7).2
  have hl : hx8 (np4 a0) (np4 a1) (np4 a2) (np4 a3) (np4 a4) (np4 a5) (np4 a6) (np4 a7) < 4294967296 := hx8_lt (by omega) (by omega) (by omega) (by omega) (by omega) (by omega) (by omega) (by omega)
  have k3 : bN 858993459 = hx8 3 3 3 3 3 3 3 3 := by decide
  have e2 : bN (ush (bc1 x) 2 &&& 858993459) = hx8 (nf a0 / 4 &&& 3) (nf a1 / 4 &&& 3) (nf a2 / 4 &&& 3) (nf a3 / 4 &&& 3) (nf a4 / 4 &&& 3) (nf a5 / 4 &&& 3) (nf a6 / 4 &&& 3) (nf a7 / 4 &&& 3) := by
    rw [bN_and, bN_ush (bc1 x) 2 2 (by decide) (by decide), hb, show 2 ^ 2 = 4 from rfl, hx8_d4, k3, and_hx8 (by omega) (by omega) (by omega) (by omega) (by omega) (by omega) (by omega) (by decide) (by decide) (by decide) (by decide) (by decide) (by decide) (by decide), nib3 _ _ h0, nib3 _ _ h1, nib3 _ _ h2, nib3 _ _ h3, nib3 _ _ h4, nib3 _ _ h5, nib3 _ _ h6, nib3 _ _ h7]
  have e3 : bN (bc1 x &&& 858993459) = hx8 (nf a0 &&& 3) (nf a1 &&& 3) (nf a2 &&& 3) (nf a3 &&& 3) (nf a4 &&& 3) (nf a5 &&& 3) (nf a6 &&& 3) (nf a7 &&& 3) := by
    rw [bN_and, hb, k3, and_hx8 h0 h1 h2 h3 h4 h5 h6 (by decide) (by decide) (by decide) (by decide) (by decide) (by decide) (by decide)]
  unfold bc2
  rw [bN_add, e2, e3, hx8_add]
  exact Nat.mod_eq_of_lt hl
theorem bc_hx {x : Int32} {p0 p1 p2 p3 p4 p5 p6 p7 : Nat} (h0 : p0 ≤ 4) (h1 : p1 ≤ 4) (h2 : p2 ≤ 4) (h3 : p3 ≤ 4) (h4 : p4 ≤ 4) (h5 : p5 ≤ 4) (h6 : p6 ≤ 4) (h7 : p7 ≤ 4) (hx : bN (bc2 x) = hx8 p0 p1 p2 p3 p4 p5 p6 p7) : bN (bc5 x &&& 63) = p0 + (p1 + (p2 + (p3 + (p4 + (p5 + (p6 + p7)))))) := by
  have a15 : ∀ a : Nat, a < 16 → a &&& 15 = a := by
    intro a ha
    have h : ∀ a : Fin 16, a.val &&& 15 = a.val := by decide
    exact h ⟨a, ha⟩
  have a0 : ∀ a : Nat, a &&& 0 = 0 := fun a => Nat.and_zero a
  have e3 : bN (bc3 x) = hx8 (p0 + p1) 0 (p2 + p3) 0 (p4 + p5) 0 (p6 + p7) 0 := by
    unfold bc3
    have s : bN (bc2 x + ush (bc2 x) 4) = hx8 (p0 + p1) (p1 + p2) (p2 + p3) (p3 + p4) (p4 + p5) (p5 + p6) (p6 + p7) p7 := by
      rw [bN_add, bN_ush _ 4 4 (by decide) (by decide), hx, show 2 ^ 4 = 16 from rfl, hx8_d16 (by omega), hx8_add, Nat.add_zero]
      exact Nat.mod_eq_of_lt (hx8_lt (by omega) (by omega) (by omega) (by omega) (by omega) (by omega) (by omega) (by omega))
    rw [bN_and, s, show bN 252645135 = hx8 15 0 15 0 15 0 15 0 from by decide, and_hx8 (by omega) (by omega) (by omega) (by omega) (by omega) (by omega) (by omega) (by decide) (by decide) (by decide) (by decide) (by decide) (by decide) (by decide), a0, a0, a0, a0, a15 _ (by omega), a15 _ (by omega), a15 _ (by omega), a15 _ (by omega)]
  have e4 : bN (bc4 x) = (p0 + p1 + (p2 + p3) + 256 * (p2 + p3 + (p4 + p5))) + 65536 * (p4 + p5 + (p6 + p7) + 256 * (p6 + p7)) := by
    have l : hx8 (p0 + p1 + (p2 + p3)) (0 + 0) (p2 + p3 + (p4 + p5)) (0 + 0) (p4 + p5 + (p6 + p7)) (0 + 0) (p6 + p7 + 0) (0 + 0) = (p0 + p1 + (p2 + p3) + 256 * (p2 + p3 + (p4 + p5))) + 65536 * (p4 + p5 + (p6 + p7) + 256 * (p6 + p7)) := by
      unfold hx8
      omega
    unfold bc4
    rw [bN_add, bN_ush _ 8 8 (by decide) (by decide), e3, show 2 ^ 8 = 256 from rfl, hx8_d256 (by omega), hx8_add, l]
    refine Nat.mod_eq_of_lt ?_
    omega
  have e5 : ∃ z, bN (bc5 x) = (p0 + (p1 + (p2 + (p3 + (p4 + (p5 + (p6 + p7))))))) + 64 * z := by
    have l : ∀ u v : Nat, u < 65536 → (u + 65536 * v) / 65536 = v := fun u v h => by omega
    unfold bc5
    rw [bN_add, bN_ush _ 16 16 (by decide) (by decide), e4, show 2 ^ 16 = 65536 from rfl, l _ _ (by omega), Nat.mod_eq_of_lt (by omega)]
    refine ⟨4 * (p2 + p3 + (p4 + p5) + (p6 + p7)) + 1024 * (p4 + p5 + (p6 + p7)) + 262144 * (p6 + p7), ?_⟩
    omega
  obtain ⟨z, e5⟩ := e5
  rw [bN_and, e5, show bN 63 = 2 ^ 6 - 1 from by decide, Nat.and_two_pow_sub_one_eq_mod]
  omega
