def RelE (S M : St) : Prop := S 4 8 = M 0 10 ∧ S 5 = M 2 ∧ S 6 = M 3 ∧ S 7 = M 4 ∧ S 8 = M 5 ∧ S 10 = M 7 ∧ S 11 = M 8 ∧ S 12 = M 9 ∧ S 1 = M 1 ∧ S 3 = M 15 ∧ S 0 7 = M 0 0
def RelR (n : Nat) (S : St) : Prop := cntC S ∧ (∀ j, vp_in (S 5 j) 8) ∧ (∀ j, vp_in (S 6 j) 5) ∧ (∀ j, vp_in (S 10 j) 30 ∧ (S 10 j = 0 ∨ (S 10 j).toInt < (S 4 8).toInt)) ∧ (∀ j, S 7 j = 1 → 1 ≤ (S 8 j).toInt ∧ (S 8 j).toInt ≤ 1000) ∧ 0 ≤ (S 0 7).toInt ∧ (S 0 7).toInt ≤ 100 * n
def RelB (S M : St) : Prop := ∀ p k, p < 5 → k < 8 → S (15 + p) k = M 11 (8 * p + k) ∧ 0 ≤ (S (15 + p) k).toInt ∧ (S (15 + p) k).toInt ≤ 1000
def RelN (n : Nat) (S M : St) : Prop := (0 ≤ (S 0 6).toInt ∧ (S 0 6).toInt ≤ n) ∧ (0 ≤ (M 0 13).toInt ∧ (M 0 13).toInt ≤ n) ∧ (∀ i, S 7 i = 1 → (S 9 i).toInt < (S 0 6).toInt ∧ (M 6 i).toInt ≤ (M 0 13).toInt) ∧ (∀ i j, S 7 i = 1 → S 7 j = 1 → (S 9 i < S 9 j ↔ M 6 i < M 6 j)) ∧
  (∀ p k, p < 5 → k < 8 → S (15 + p) k ≠ 0 → (S (21 + p) k).toInt < (S 0 6).toInt ∧ (M 12 (8 * p + k)).toInt ≤ (M 0 13).toInt) ∧ ∀ p q k, p < 5 → q < 5 → k < 8 → S (15 + p) k ≠ 0 → S (15 + q) k ≠ 0 → (S (21 + p) k < S (21 + q) k ↔ M 12 (8 * p + k) < M 12 (8 * q + k))
def RelD (n : Nat) (S M : St) : Prop := ∀ k, k < 8 → (S 2 k = -1 ∧ M 14 k = 1000000) ∨ (S 2 k = M 14 k ∧ 0 ≤ (S 2 k).toInt ∧ (S 2 k).toInt ≤ 100 * n + 50)
def RelK (S : St) : Prop := ∀ p, p < 5 → (S 3 p).toBitVec.toNat < 2 ^ (S 4 8).toNatClampNeg
def swc (S : St) : Nat → Nat
  | 0 => 0
  | k + 1 => swc S k + (if S 7 k = 2 then 1 else 0)
def RelH (n : Nat) (S : St) : Prop := hisC S ∧ (S 26 2).toInt + swc S 30 ≤ n ∧ ∀ j, j < (S 4 8).toNatClampNeg → r_X2_lastOwner S (nI j) = S 6 j
/-- the class's state and the reference's, after n calls -/
def Rel (n : Nat) (S M : St) : Prop := RelE S M ∧ RelR n S ∧ RelB S M ∧ RelN n S M ∧ RelD n S M ∧ RelK S ∧ RelH n S
theorem Rel.hcnt {n : Nat} {S M : St} (h : Rel n S M) : cntC S := h.2.1.1
theorem Rel.hkin {n : Nat} {S M : St} (h : Rel n S M) : ∀ j, vp_in (S 5 j) 8 := h.2.1.2.1
theorem Rel.hown {n : Nat} {S M : St} (h : Rel n S M) : ∀ j, vp_in (S 6 j) 5 := h.2.1.2.2.1
theorem Rel.hhis {n : Nat} {S M : St} (h : Rel n S M) : hisC S := h.2.2.2.2.2.2.1
theorem Rel.hmc {n : Nat} {S M : St} (h : Rel n S M) : cntM M := by
  have h1 := h.hcnt
  unfold cntC at h1
  unfold cntM
  rw [← h.1.1]
  exact h1
theorem Rel.hmkin {n : Nat} {S M : St} (h : Rel n S M) : ∀ j, vp_in (M 2 j) 8 := by
  rw [← h.1.2.1]
  exact h.hkin
theorem Rel.hmown {n : Nat} {S M : St} (h : Rel n S M) : ∀ j, vp_in (M 3 j) 5 := by
  rw [← h.1.2.2.1]
  exact h.hown
theorem Rel.hmswp {n : Nat} {S M : St} (h : Rel n S M) : ∀ j, vp_in (M 7 j) 30 := by
  rw [← h.1.2.2.2.2.2.1]
  exact fun j => (h.2.1.2.2.2.1 j).1
