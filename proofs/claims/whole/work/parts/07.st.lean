abbrev St : Type := Nat → Nat → Int32
def sU (S : St) (i k : Nat) (x : Int32) : St := fun b => if b = i then upd (S i) k x else S b
theorem sU_ne {S : St} {i k b : Nat} {x : Int32} (h : b ≠ i) : sU S i k x b = S b := if_neg h
theorem sU_eq {S : St} {i k : Nat} {x : Int32} : sU S i k x i = upd (S i) k x := if_pos rfl
abbrev tyl (cI cII cL : ClassId) : List (ClassId × FieldType) := [(cI, .int), (cII, .array .int), (cL, .long)]
def cntC (S : St) : Prop := 0 ≤ (S 4 8).toInt ∧ (S 4 8).toInt ≤ 30
def cntM (S : St) : Prop := 0 ≤ (S 0 10).toInt ∧ (S 0 10).toInt ≤ 30
def hisC (S : St) : Prop := 0 ≤ (S 26 2).toInt ∧ (S 26 2).toInt ≤ 512
theorem v_num {x : Int32} {M : Nat} (hM : M < 2 ^ 31) (h : 0 ≤ x.toInt ∧ x.toInt ≤ M) : ∃ N : Nat, x = nI N ∧ N ≤ M ∧ x.toNatClampNeg = N := by
  have h1 : vp_in x (M + 1) := vp_in_iff.mpr ⟨h.1, by omega⟩
  by_cases h2 : M + 1 < 2 ^ 31
  · obtain ⟨j, hj, e⟩ := vp_in_of h1 h2
    exact ⟨j, e, by omega, by rw [e]; exact nI_clamp (by omega)⟩
  · obtain ⟨j, hj, e⟩ := nI_of (x := x) (by rw [Int32.lt_iff_toInt_lt]; simpa using h.1)
    refine ⟨j, e, ?_, by rw [e]; exact nI_clamp hj⟩
    omega
theorem vp_lt {x : Int32} {n : Nat} (h : vp_in x n) : x.toNatClampNeg < n := Nat.not_le.mp fun q => h (Or.inr q)
theorem vp_up {x : Int32} {n m : Nat} (h : vp_in x n) (hm : n ≤ m) : vp_in x m := by
  rw [vp_in_iff] at h ⊢
  omega
theorem vp_8 {x y : Int32} (h1 : vp_in x 5) (h2 : vp_in y 8) : vp_in (8 * x + y) 40 := by
  obtain ⟨i, hi, rfl⟩ := vp_in_of h1 (by decide)
  obtain ⟨j, hj, rfl⟩ := vp_in_of h2 (by decide)
  rw [show (8 : Int32) = nI 8 from rfl, pk_mul, nI_add]
  exact vp_in_nI (by omega) (by decide)
theorem narrow_b {v : Int32} (h : v = 0 ∨ v = 1) : narrow .boolean (.int v) = .int v := by
  rcases h with rfl | rfl <;> rfl
theorem j5 {P : Nat → Prop} {j : Nat} (h : j < 5) (h0 : P 0) (h1 : P 1) (h2 : P 2) (h3 : P 3) (h4 : P 4) : P j := by
  match j, h with
  | 0, _ => exact h0
  | 1, _ => exact h1
  | 2, _ => exact h2
  | 3, _ => exact h3
  | 4, _ => exact h4

def wT (h : Nat → Nat) (cI cII : ClassId) (S : St) : va_W := [(h 0, .inr (3, [.ref (h 4), .ref (h 13), .ref (h 26), .ref (h 1), .ref (h 2), .ref (h 3), .int (S 0 6), .int (S 0 7)])), (h 1, .inl (cI, 5, .inl (S 1))), (h 2, .inl (cI, 8, .inl (S 2))), (h 3, .inl (cI, 5, .inl (S 3))), (h 4, .inr (1, [.ref (h 5), .ref (h 6), .ref (h 7), .ref (h 8), .ref (h 9), .ref (h 10), .ref (h 11), .ref (h 12), .int (S 4 8)])), (h 5, .inl (cI, 30, .inl (S 5))), (h 6, .inl (cI, 30, .inl (S 6))), (h 7, .inl (cI, 30, .inl (S 7))), (h 8, .inl (cI, 30, .inl (S 8))), (h 9, .inl (cI, 30, .inl (S 9))), (h 10, .inl (cI, 30, .inl (S 10))), (h 11, .inl (cI, 30, .inl (S 11))), (h 12, .inl (cI, 30, .inl (S 12))), (h 13, .inr (0, [.ref (h 14), .ref (h 20)])), (h 14, .inl (cII, 5, .inr (.inr (.inr (.inr (fun j => if j < 5 then some (h (15 + j)) else none)))))), (h 15, .inl (cI, 8, .inl (S 15))), (h 16, .inl (cI, 8, .inl (S 16))), (h 17, .inl (cI, 8, .inl (S 17))), (h 18, .inl (cI, 8, .inl (S 18))), (h 19, .inl (cI, 8, .inl (S 19))), (h 20, .inl (cII, 5, .inr (.inr (.inr (.inr (fun j => if j < 5 then some (h (21 + j)) else none)))))), (h 21, .inl (cI, 8, .inl (S 21))), (h 22, .inl (cI, 8, .inl (S 22))), (h 23, .inl (cI, 8, .inl (S 23))), (h 24, .inl (cI, 8, .inl (S 24))), (h 25, .inl (cI, 8, .inl (S 25))), (h 26, .inr (2, [.ref (h 27), .ref (h 28), .int (S 26 2)])), (h 27, .inl (cI, 512, .inl (S 27))), (h 28, .inl (cI, 512, .inl (S 28)))]
def wC (h : Nat → Nat) (cI : ClassId) (S : St) : va_W := [(h 4, .inr (1, [.ref (h 5), .ref (h 6), .ref (h 7), .ref (h 8), .ref (h 9), .ref (h 10), .ref (h 11), .ref (h 12), .int (S 4 8)])), (h 5, .inl (cI, 30, .inl (S 5))), (h 6, .inl (cI, 30, .inl (S 6))), (h 7, .inl (cI, 30, .inl (S 7))), (h 8, .inl (cI, 30, .inl (S 8))), (h 9, .inl (cI, 30, .inl (S 9))), (h 10, .inl (cI, 30, .inl (S 10))), (h 11, .inl (cI, 30, .inl (S 11))), (h 12, .inl (cI, 30, .inl (S 12)))]
def wB (h : Nat → Nat) (cI cII : ClassId) (S : St) : va_W := [(h 13, .inr (0, [.ref (h 14), .ref (h 20)])), (h 14, .inl (cII, 5, .inr (.inr (.inr (.inr (fun j => if j < 5 then some (h (15 + j)) else none)))))), (h 15, .inl (cI, 8, .inl (S 15))), (h 16, .inl (cI, 8, .inl (S 16))), (h 17, .inl (cI, 8, .inl (S 17))), (h 18, .inl (cI, 8, .inl (S 18))), (h 19, .inl (cI, 8, .inl (S 19))), (h 20, .inl (cII, 5, .inr (.inr (.inr (.inr (fun j => if j < 5 then some (h (21 + j)) else none)))))), (h 21, .inl (cI, 8, .inl (S 21))), (h 22, .inl (cI, 8, .inl (S 22))), (h 23, .inl (cI, 8, .inl (S 23))), (h 24, .inl (cI, 8, .inl (S 24))), (h 25, .inl (cI, 8, .inl (S 25)))]
def wH (h : Nat → Nat) (cI : ClassId) (S : St) : va_W := [(h 26, .inr (2, [.ref (h 27), .ref (h 28), .int (S 26 2)])), (h 27, .inl (cI, 512, .inl (S 27))), (h 28, .inl (cI, 512, .inl (S 28)))]
def wM (h : Nat → Nat) (cI : ClassId) (S : St) : va_W := [(h 0, .inr (4, [.int (S 0 0), .ref (h 1), .ref (h 2), .ref (h 3), .ref (h 4), .ref (h 5), .ref (h 6), .ref (h 7), .ref (h 8), .ref (h 9), .int (S 0 10), .ref (h 11), .ref (h 12), .int (S 0 13), .ref (h 14), .ref (h 15), .int (S 0 16)])), (h 1, .inl (cI, 5, .inl (S 1))), (h 2, .inl (cI, 30, .inl (S 2))), (h 3, .inl (cI, 30, .inl (S 3))), (h 4, .inl (cI, 30, .inl (S 4))), (h 5, .inl (cI, 30, .inl (S 5))), (h 6, .inl (cI, 30, .inl (S 6))), (h 7, .inl (cI, 30, .inl (S 7))), (h 8, .inl (cI, 30, .inl (S 8))), (h 9, .inl (cI, 30, .inl (S 9))), (h 11, .inl (cI, 40, .inl (S 11))), (h 12, .inl (cI, 40, .inl (S 12))), (h 14, .inl (cI, 8, .inl (S 14))), (h 15, .inl (cI, 5, .inl (S 15)))]
def wTxC (h : Nat → Nat) (cI cII : ClassId) (S : St) : va_W := [(h 0, .inr (3, [.ref (h 4), .ref (h 13), .ref (h 26), .ref (h 1), .ref (h 2), .ref (h 3), .int (S 0 6), .int (S 0 7)])), (h 1, .inl (cI, 5, .inl (S 1))), (h 2, .inl (cI, 8, .inl (S 2))), (h 3, .inl (cI, 5, .inl (S 3))), (h 13, .inr (0, [.ref (h 14), .ref (h 20)])), (h 14, .inl (cII, 5, .inr (.inr (.inr (.inr (fun j => if j < 5 then some (h (15 + j)) else none)))))), (h 15, .inl (cI, 8, .inl (S 15))), (h 16, .inl (cI, 8, .inl (S 16))), (h 17, .inl (cI, 8, .inl (S 17))), (h 18, .inl (cI, 8, .inl (S 18))), (h 19, .inl (cI, 8, .inl (S 19))), (h 20, .inl (cII, 5, .inr (.inr (.inr (.inr (fun j => if j < 5 then some (h (21 + j)) else none)))))), (h 21, .inl (cI, 8, .inl (S 21))), (h 22, .inl (cI, 8, .inl (S 22))), (h 23, .inl (cI, 8, .inl (S 23))), (h 24, .inl (cI, 8, .inl (S 24))), (h 25, .inl (cI, 8, .inl (S 25))), (h 26, .inr (2, [.ref (h 27), .ref (h 28), .int (S 26 2)])), (h 27, .inl (cI, 512, .inl (S 27))), (h 28, .inl (cI, 512, .inl (S 28)))]
def isCC : List Nat := [4, 5, 6, 7, 8, 9, 10, 11, 12]
def isRC : List Nat := [0, 1, 2, 3, 13, 14, 15, 16, 17, 18, 19, 20, 21, 22, 23, 24, 25, 26, 27, 28]
def pmC : List Nat := [0, 1, 2, 3, 20, 21, 22, 23, 24, 25, 26, 27, 28, 4, 5, 6, 7, 8, 9, 10, 11, 12, 13, 14, 15, 16, 17, 18, 19]
set_option maxRecDepth 20000 in
theorem cutC (h : Nat → Nat) (cI cII : ClassId) {S S' : St} (hf : ∀ i, (i < 4 ∨ 12 < i) → S' i = S i) : v_cut (wT h cI cII S) (wC h cI S) (wTxC h cI cII S) (wC h cI S') (wT h cI cII S') isCC isRC pmC := by
  refine ⟨rfl, rfl, by decide, by decide, by decide, ?_, by decide⟩
  have e : wTxC h cI cII S = wTxC h cI cII S' := by
    unfold wTxC
    rw [hf 0 (by omega), hf 1 (by omega), hf 2 (by omega), hf 3 (by omega), hf 15 (by omega), hf 16 (by omega), hf 17 (by omega), hf 18 (by omega), hf 19 (by omega), hf 21 (by omega), hf 22 (by omega), hf 23 (by omega), hf 24 (by omega), hf 25 (by omega), hf 26 (by omega), hf 27 (by omega), hf 28 (by omega)]
  rw [e]
  rfl
def wTxB (h : Nat → Nat) (cI cII : ClassId) (S : St) : va_W := [(h 0, .inr (3, [.ref (h 4), .ref (h 13), .ref (h 26), .ref (h 1), .ref (h 2), .ref (h 3), .int (S 0 6), .int (S 0 7)])), (h 1, .inl (cI, 5, .inl (S 1))), (h 2, .inl (cI, 8, .inl (S 2))), (h 3, .inl (cI, 5, .inl (S 3))), (h 4, .inr (1, [.ref (h 5), .ref (h 6), .ref (h 7), .ref (h 8), .ref (h 9), .ref (h 10), .ref (h 11), .ref (h 12), .int (S 4 8)])), (h 5, .inl (cI, 30, .inl (S 5))), (h 6, .inl (cI, 30, .inl (S 6))), (h 7, .inl (cI, 30, .inl (S 7))), (h 8, .inl (cI, 30, .inl (S 8))), (h 9, .inl (cI, 30, .inl (S 9))), (h 10, .inl (cI, 30, .inl (S 10))), (h 11, .inl (cI, 30, .inl (S 11))), (h 12, .inl (cI, 30, .inl (S 12))), (h 26, .inr (2, [.ref (h 27), .ref (h 28), .int (S 26 2)])), (h 27, .inl (cI, 512, .inl (S 27))), (h 28, .inl (cI, 512, .inl (S 28)))]
def isCB : List Nat := [13, 14, 15, 16, 17, 18, 19, 20, 21, 22, 23, 24, 25]
def isRB : List Nat := [0, 1, 2, 3, 4, 5, 6, 7, 8, 9, 10, 11, 12, 26, 27, 28]
def pmB : List Nat := [0, 1, 2, 3, 4, 5, 6, 7, 8, 9, 10, 11, 12, 16, 17, 18, 19, 20, 21, 22, 23, 24, 25, 26, 27, 28, 13, 14, 15]
set_option maxRecDepth 20000 in
theorem cutB (h : Nat → Nat) (cI cII : ClassId) {S S' : St} (hf : ∀ i, (i < 13 ∨ 25 < i) → S' i = S i) : v_cut (wT h cI cII S) (wB h cI cII S) (wTxB h cI cII S) (wB h cI cII S') (wT h cI cII S') isCB isRB pmB := by
  refine ⟨rfl, rfl, by decide, by decide, by decide, ?_, by decide⟩
  have e : wTxB h cI cII S = wTxB h cI cII S' := by
    unfold wTxB
    rw [hf 0 (by omega), hf 1 (by omega), hf 2 (by omega), hf 3 (by omega), hf 4 (by omega), hf 5 (by omega), hf 6 (by omega), hf 7 (by omega), hf 8 (by omega), hf 9 (by omega), hf 10 (by omega), hf 11 (by omega), hf 12 (by omega), hf 26 (by omega), hf 27 (by omega), hf 28 (by omega)]
  rw [e]
  rfl
def wTxH (h : Nat → Nat) (cI cII : ClassId) (S : St) : va_W := [(h 0, .inr (3, [.ref (h 4), .ref (h 13), .ref (h 26), .ref (h 1), .ref (h 2), .ref (h 3), .int (S 0 6), .int (S 0 7)])), (h 1, .inl (cI, 5, .inl (S 1))), (h 2, .inl (cI, 8, .inl (S 2))), (h 3, .inl (cI, 5, .inl (S 3))), (h 4, .inr (1, [.ref (h 5), .ref (h 6), .ref (h 7), .ref (h 8), .ref (h 9), .ref (h 10), .ref (h 11), .ref (h 12), .int (S 4 8)])), (h 5, .inl (cI, 30, .inl (S 5))), (h 6, .inl (cI, 30, .inl (S 6))), (h 7, .inl (cI, 30, .inl (S 7))), (h 8, .inl (cI, 30, .inl (S 8))), (h 9, .inl (cI, 30, .inl (S 9))), (h 10, .inl (cI, 30, .inl (S 10))), (h 11, .inl (cI, 30, .inl (S 11))), (h 12, .inl (cI, 30, .inl (S 12))), (h 13, .inr (0, [.ref (h 14), .ref (h 20)])), (h 14, .inl (cII, 5, .inr (.inr (.inr (.inr (fun j => if j < 5 then some (h (15 + j)) else none)))))), (h 15, .inl (cI, 8, .inl (S 15))), (h 16, .inl (cI, 8, .inl (S 16))), (h 17, .inl (cI, 8, .inl (S 17))), (h 18, .inl (cI, 8, .inl (S 18))), (h 19, .inl (cI, 8, .inl (S 19))), (h 20, .inl (cII, 5, .inr (.inr (.inr (.inr (fun j => if j < 5 then some (h (21 + j)) else none)))))), (h 21, .inl (cI, 8, .inl (S 21))), (h 22, .inl (cI, 8, .inl (S 22))), (h 23, .inl (cI, 8, .inl (S 23))), (h 24, .inl (cI, 8, .inl (S 24))), (h 25, .inl (cI, 8, .inl (S 25)))]
def isCH : List Nat := [26, 27, 28]
def isRH : List Nat := [0, 1, 2, 3, 4, 5, 6, 7, 8, 9, 10, 11, 12, 13, 14, 15, 16, 17, 18, 19, 20, 21, 22, 23, 24, 25]
def pmH : List Nat := [0, 1, 2, 3, 4, 5, 6, 7, 8, 9, 10, 11, 12, 13, 14, 15, 16, 17, 18, 19, 20, 21, 22, 23, 24, 25, 26, 27, 28]
set_option maxRecDepth 20000 in
theorem cutH (h : Nat → Nat) (cI cII : ClassId) {S S' : St} (hf : ∀ i, (i < 26 ∨ 28 < i) → S' i = S i) : v_cut (wT h cI cII S) (wH h cI S) (wTxH h cI cII S) (wH h cI S') (wT h cI cII S') isCH isRH pmH := by
  refine ⟨rfl, rfl, by decide, by decide, by decide, ?_, by decide⟩
  have e : wTxH h cI cII S = wTxH h cI cII S' := by
    unfold wTxH
    rw [hf 0 (by omega), hf 1 (by omega), hf 2 (by omega), hf 3 (by omega), hf 4 (by omega), hf 5 (by omega), hf 6 (by omega), hf 7 (by omega), hf 8 (by omega), hf 9 (by omega), hf 10 (by omega), hf 11 (by omega), hf 12 (by omega), hf 15 (by omega), hf 16 (by omega), hf 17 (by omega), hf 18 (by omega), hf 19 (by omega), hf 21 (by omega), hf 22 (by omega), hf 23 (by omega), hf 24 (by omega), hf 25 (by omega)]
  rw [e]
  rfl
theorem wT_row15 {h : Nat → Nat} {cI cII : ClassId} {S : St} {j : Int32} (hj : vp_in j 5) : (wT h cI cII S)[15 + j.toNatClampNeg]? = some (h (15 + j.toNatClampNeg), .inl (cI, 8, .inl (S (15 + j.toNatClampNeg)))) :=
  j5 (P := fun q => (wT h cI cII S)[15 + q]? = some (h (15 + q), .inl (cI, 8, .inl (S (15 + q))))) (vp_lt hj) rfl rfl rfl rfl rfl
theorem wT_set15 {h : Nat → Nat} {cI cII : ClassId} {S : St} {j : Int32} (hj : vp_in j 5) {k : Nat} {x : Int32} : (wT h cI cII S).set (15 + j.toNatClampNeg) (h (15 + j.toNatClampNeg), .inl (cI, 8, .inl (upd (S (15 + j.toNatClampNeg)) k x))) = wT h cI cII (sU S (15 + j.toNatClampNeg) k x) :=
  j5 (P := fun q => (wT h cI cII S).set (15 + q) (h (15 + q), .inl (cI, 8, .inl (upd (S (15 + q)) k x))) = wT h cI cII (sU S (15 + q) k x)) (vp_lt hj) rfl rfl rfl rfl rfl
theorem wT_row21 {h : Nat → Nat} {cI cII : ClassId} {S : St} {j : Int32} (hj : vp_in j 5) : (wT h cI cII S)[21 + j.toNatClampNeg]? = some (h (21 + j.toNatClampNeg), .inl (cI, 8, .inl (S (21 + j.toNatClampNeg)))) :=
  j5 (P := fun q => (wT h cI cII S)[21 + q]? = some (h (21 + q), .inl (cI, 8, .inl (S (21 + q))))) (vp_lt hj) rfl rfl rfl rfl rfl
theorem wT_set21 {h : Nat → Nat} {cI cII : ClassId} {S : St} {j : Int32} (hj : vp_in j 5) {k : Nat} {x : Int32} : (wT h cI cII S).set (21 + j.toNatClampNeg) (h (21 + j.toNatClampNeg), .inl (cI, 8, .inl (upd (S (21 + j.toNatClampNeg)) k x))) = wT h cI cII (sU S (21 + j.toNatClampNeg) k x) :=
  j5 (P := fun q => (wT h cI cII S).set (21 + q) (h (21 + q), .inl (cI, 8, .inl (upd (S (21 + q)) k x))) = wT h cI cII (sU S (21 + q) k x)) (vp_lt hj) rfl rfl rfl rfl rfl
theorem wB_row15 {h : Nat → Nat} {cI cII : ClassId} {S : St} {j : Int32} (hj : vp_in j 5) : (wB h cI cII S)[2 + j.toNatClampNeg]? = some (h (15 + j.toNatClampNeg), .inl (cI, 8, .inl (S (15 + j.toNatClampNeg)))) :=
  j5 (P := fun q => (wB h cI cII S)[2 + q]? = some (h (15 + q), .inl (cI, 8, .inl (S (15 + q))))) (vp_lt hj) rfl rfl rfl rfl rfl
theorem wB_set15 {h : Nat → Nat} {cI cII : ClassId} {S : St} {j : Int32} (hj : vp_in j 5) {k : Nat} {x : Int32} : (wB h cI cII S).set (2 + j.toNatClampNeg) (h (15 + j.toNatClampNeg), .inl (cI, 8, .inl (upd (S (15 + j.toNatClampNeg)) k x))) = wB h cI cII (sU S (15 + j.toNatClampNeg) k x) :=
  j5 (P := fun q => (wB h cI cII S).set (2 + q) (h (15 + q), .inl (cI, 8, .inl (upd (S (15 + q)) k x))) = wB h cI cII (sU S (15 + q) k x)) (vp_lt hj) rfl rfl rfl rfl rfl
theorem wB_row21 {h : Nat → Nat} {cI cII : ClassId} {S : St} {j : Int32} (hj : vp_in j 5) : (wB h cI cII S)[8 + j.toNatClampNeg]? = some (h (21 + j.toNatClampNeg), .inl (cI, 8, .inl (S (21 + j.toNatClampNeg)))) :=
  j5 (P := fun q => (wB h cI cII S)[8 + q]? = some (h (21 + q), .inl (cI, 8, .inl (S (21 + q))))) (vp_lt hj) rfl rfl rfl rfl rfl
theorem wB_set21 {h : Nat → Nat} {cI cII : ClassId} {S : St} {j : Int32} (hj : vp_in j 5) {k : Nat} {x : Int32} : (wB h cI cII S).set (8 + j.toNatClampNeg) (h (21 + j.toNatClampNeg), .inl (cI, 8, .inl (upd (S (21 + j.toNatClampNeg)) k x))) = wB h cI cII (sU S (21 + j.toNatClampNeg) k x) :=
  j5 (P := fun q => (wB h cI cII S).set (8 + q) (h (21 + q), .inl (cI, 8, .inl (upd (S (21 + q)) k x))) = wB h cI cII (sU S (21 + q) k x)) (vp_lt hj) rfl rfl rfl rfl rfl
theorem wT_g0 {h : Nat → Nat} {cI cII : ClassId} {S : St} : (wT h cI cII S)[0]? = some (h 0, .inr (3, [.ref (h 4), .ref (h 13), .ref (h 26), .ref (h 1), .ref (h 2), .ref (h 3), .int (S 0 6), .int (S 0 7)])) := rfl
theorem wT_f0_6 {h : Nat → Nat} {cI cII : ClassId} {S : St} {x : Int32} : (wT h cI cII S).set 0 (h 0, .inr (3, List.set [.ref (h 4), .ref (h 13), .ref (h 26), .ref (h 1), .ref (h 2), .ref (h 3), .int (S 0 6), .int (S 0 7)] 6 (.int x))) = wT h cI cII (sU S 0 6 x) := rfl
theorem wT_f0_7 {h : Nat → Nat} {cI cII : ClassId} {S : St} {x : Int32} : (wT h cI cII S).set 0 (h 0, .inr (3, List.set [.ref (h 4), .ref (h 13), .ref (h 26), .ref (h 1), .ref (h 2), .ref (h 3), .int (S 0 6), .int (S 0 7)] 7 (.int x))) = wT h cI cII (sU S 0 7 x) := rfl
theorem wT_g1 {h : Nat → Nat} {cI cII : ClassId} {S : St} : (wT h cI cII S)[1]? = some (h 1, .inl (cI, 5, .inl (S 1))) := rfl
theorem wT_s1 {h : Nat → Nat} {cI cII : ClassId} {S : St} {k : Nat} {x : Int32} : (wT h cI cII S).set 1 (h 1, .inl (cI, 5, .inl (upd (S 1) k x))) = wT h cI cII (sU S 1 k x) := rfl
theorem wT_g2 {h : Nat → Nat} {cI cII : ClassId} {S : St} : (wT h cI cII S)[2]? = some (h 2, .inl (cI, 8, .inl (S 2))) := rfl
theorem wT_s2 {h : Nat → Nat} {cI cII : ClassId} {S : St} {k : Nat} {x : Int32} : (wT h cI cII S).set 2 (h 2, .inl (cI, 8, .inl (upd (S 2) k x))) = wT h cI cII (sU S 2 k x) := rfl
theorem wT_g3 {h : Nat → Nat} {cI cII : ClassId} {S : St} : (wT h cI cII S)[3]? = some (h 3, .inl (cI, 5, .inl (S 3))) := rfl
theorem wT_s3 {h : Nat → Nat} {cI cII : ClassId} {S : St} {k : Nat} {x : Int32} : (wT h cI cII S).set 3 (h 3, .inl (cI, 5, .inl (upd (S 3) k x))) = wT h cI cII (sU S 3 k x) := rfl
theorem wT_g4 {h : Nat → Nat} {cI cII : ClassId} {S : St} : (wT h cI cII S)[4]? = some (h 4, .inr (1, [.ref (h 5), .ref (h 6), .ref (h 7), .ref (h 8), .ref (h 9), .ref (h 10), .ref (h 11), .ref (h 12), .int (S 4 8)])) := rfl
theorem wT_f4_8 {h : Nat → Nat} {cI cII : ClassId} {S : St} {x : Int32} : (wT h cI cII S).set 4 (h 4, .inr (1, List.set [.ref (h 5), .ref (h 6), .ref (h 7), .ref (h 8), .ref (h 9), .ref (h 10), .ref (h 11), .ref (h 12), .int (S 4 8)] 8 (.int x))) = wT h cI cII (sU S 4 8 x) := rfl
theorem wT_g5 {h : Nat → Nat} {cI cII : ClassId} {S : St} : (wT h cI cII S)[5]? = some (h 5, .inl (cI, 30, .inl (S 5))) := rfl
theorem wT_s5 {h : Nat → Nat} {cI cII : ClassId} {S : St} {k : Nat} {x : Int32} : (wT h cI cII S).set 5 (h 5, .inl (cI, 30, .inl (upd (S 5) k x))) = wT h cI cII (sU S 5 k x) := rfl
theorem wT_g6 {h : Nat → Nat} {cI cII : ClassId} {S : St} : (wT h cI cII S)[6]? = some (h 6, .inl (cI, 30, .inl (S 6))) := rfl
theorem wT_s6 {h : Nat → Nat} {cI cII : ClassId} {S : St} {k : Nat} {x : Int32} : (wT h cI cII S).set 6 (h 6, .inl (cI, 30, .inl (upd (S 6) k x))) = wT h cI cII (sU S 6 k x) := rfl
theorem wT_g7 {h : Nat → Nat} {cI cII : ClassId} {S : St} : (wT h cI cII S)[7]? = some (h 7, .inl (cI, 30, .inl (S 7))) := rfl
theorem wT_s7 {h : Nat → Nat} {cI cII : ClassId} {S : St} {k : Nat} {x : Int32} : (wT h cI cII S).set 7 (h 7, .inl (cI, 30, .inl (upd (S 7) k x))) = wT h cI cII (sU S 7 k x) := rfl
theorem wT_g8 {h : Nat → Nat} {cI cII : ClassId} {S : St} : (wT h cI cII S)[8]? = some (h 8, .inl (cI, 30, .inl (S 8))) := rfl
theorem wT_s8 {h : Nat → Nat} {cI cII : ClassId} {S : St} {k : Nat} {x : Int32} : (wT h cI cII S).set 8 (h 8, .inl (cI, 30, .inl (upd (S 8) k x))) = wT h cI cII (sU S 8 k x) := rfl
theorem wT_g9 {h : Nat → Nat} {cI cII : ClassId} {S : St} : (wT h cI cII S)[9]? = some (h 9, .inl (cI, 30, .inl (S 9))) := rfl
theorem wT_s9 {h : Nat → Nat} {cI cII : ClassId} {S : St} {k : Nat} {x : Int32} : (wT h cI cII S).set 9 (h 9, .inl (cI, 30, .inl (upd (S 9) k x))) = wT h cI cII (sU S 9 k x) := rfl
theorem wT_g10 {h : Nat → Nat} {cI cII : ClassId} {S : St} : (wT h cI cII S)[10]? = some (h 10, .inl (cI, 30, .inl (S 10))) := rfl
theorem wT_s10 {h : Nat → Nat} {cI cII : ClassId} {S : St} {k : Nat} {x : Int32} : (wT h cI cII S).set 10 (h 10, .inl (cI, 30, .inl (upd (S 10) k x))) = wT h cI cII (sU S 10 k x) := rfl
theorem wT_g11 {h : Nat → Nat} {cI cII : ClassId} {S : St} : (wT h cI cII S)[11]? = some (h 11, .inl (cI, 30, .inl (S 11))) := rfl
theorem wT_s11 {h : Nat → Nat} {cI cII : ClassId} {S : St} {k : Nat} {x : Int32} : (wT h cI cII S).set 11 (h 11, .inl (cI, 30, .inl (upd (S 11) k x))) = wT h cI cII (sU S 11 k x) := rfl
theorem wT_g12 {h : Nat → Nat} {cI cII : ClassId} {S : St} : (wT h cI cII S)[12]? = some (h 12, .inl (cI, 30, .inl (S 12))) := rfl
theorem wT_s12 {h : Nat → Nat} {cI cII : ClassId} {S : St} {k : Nat} {x : Int32} : (wT h cI cII S).set 12 (h 12, .inl (cI, 30, .inl (upd (S 12) k x))) = wT h cI cII (sU S 12 k x) := rfl
theorem wT_g13 {h : Nat → Nat} {cI cII : ClassId} {S : St} : (wT h cI cII S)[13]? = some (h 13, .inr (0, [.ref (h 14), .ref (h 20)])) := rfl
theorem wT_g14 {h : Nat → Nat} {cI cII : ClassId} {S : St} : (wT h cI cII S)[14]? = some (h 14, .inl (cII, 5, .inr (.inr (.inr (.inr (fun j => if j < 5 then some (h (15 + j)) else none)))))) := rfl
theorem wT_g15 {h : Nat → Nat} {cI cII : ClassId} {S : St} : (wT h cI cII S)[15]? = some (h 15, .inl (cI, 8, .inl (S 15))) := rfl
theorem wT_s15 {h : Nat → Nat} {cI cII : ClassId} {S : St} {k : Nat} {x : Int32} : (wT h cI cII S).set 15 (h 15, .inl (cI, 8, .inl (upd (S 15) k x))) = wT h cI cII (sU S 15 k x) := rfl
theorem wT_g16 {h : Nat → Nat} {cI cII : ClassId} {S : St} : (wT h cI cII S)[16]? = some (h 16, .inl (cI, 8, .inl (S 16))) := rfl
theorem wT_s16 {h : Nat → Nat} {cI cII : ClassId} {S : St} {k : Nat} {x : Int32} : (wT h cI cII S).set 16 (h 16, .inl (cI, 8, .inl (upd (S 16) k x))) = wT h cI cII (sU S 16 k x) := rfl
theorem wT_g17 {h : Nat → Nat} {cI cII : ClassId} {S : St} : (wT h cI cII S)[17]? = some (h 17, .inl (cI, 8, .inl (S 17))) := rfl
theorem wT_s17 {h : Nat → Nat} {cI cII : ClassId} {S : St} {k : Nat} {x : Int32} : (wT h cI cII S).set 17 (h 17, .inl (cI, 8, .inl (upd (S 17) k x))) = wT h cI cII (sU S 17 k x) := rfl
theorem wT_g18 {h : Nat → Nat} {cI cII : ClassId} {S : St} : (wT h cI cII S)[18]? = some (h 18, .inl (cI, 8, .inl (S 18))) := rfl
theorem wT_s18 {h : Nat → Nat} {cI cII : ClassId} {S : St} {k : Nat} {x : Int32} : (wT h cI cII S).set 18 (h 18, .inl (cI, 8, .inl (upd (S 18) k x))) = wT h cI cII (sU S 18 k x) := rfl
theorem wT_g19 {h : Nat → Nat} {cI cII : ClassId} {S : St} : (wT h cI cII S)[19]? = some (h 19, .inl (cI, 8, .inl (S 19))) := rfl
theorem wT_s19 {h : Nat → Nat} {cI cII : ClassId} {S : St} {k : Nat} {x : Int32} : (wT h cI cII S).set 19 (h 19, .inl (cI, 8, .inl (upd (S 19) k x))) = wT h cI cII (sU S 19 k x) := rfl
theorem wT_g20 {h : Nat → Nat} {cI cII : ClassId} {S : St} : (wT h cI cII S)[20]? = some (h 20, .inl (cII, 5, .inr (.inr (.inr (.inr (fun j => if j < 5 then some (h (21 + j)) else none)))))) := rfl
theorem wT_g21 {h : Nat → Nat} {cI cII : ClassId} {S : St} : (wT h cI cII S)[21]? = some (h 21, .inl (cI, 8, .inl (S 21))) := rfl
theorem wT_s21 {h : Nat → Nat} {cI cII : ClassId} {S : St} {k : Nat} {x : Int32} : (wT h cI cII S).set 21 (h 21, .inl (cI, 8, .inl (upd (S 21) k x))) = wT h cI cII (sU S 21 k x) := rfl
theorem wT_g22 {h : Nat → Nat} {cI cII : ClassId} {S : St} : (wT h cI cII S)[22]? = some (h 22, .inl (cI, 8, .inl (S 22))) := rfl
theorem wT_s22 {h : Nat → Nat} {cI cII : ClassId} {S : St} {k : Nat} {x : Int32} : (wT h cI cII S).set 22 (h 22, .inl (cI, 8, .inl (upd (S 22) k x))) = wT h cI cII (sU S 22 k x) := rfl
theorem wT_g23 {h : Nat → Nat} {cI cII : ClassId} {S : St} : (wT h cI cII S)[23]? = some (h 23, .inl (cI, 8, .inl (S 23))) := rfl
theorem wT_s23 {h : Nat → Nat} {cI cII : ClassId} {S : St} {k : Nat} {x : Int32} : (wT h cI cII S).set 23 (h 23, .inl (cI, 8, .inl (upd (S 23) k x))) = wT h cI cII (sU S 23 k x) := rfl
theorem wT_g24 {h : Nat → Nat} {cI cII : ClassId} {S : St} : (wT h cI cII S)[24]? = some (h 24, .inl (cI, 8, .inl (S 24))) := rfl
theorem wT_s24 {h : Nat → Nat} {cI cII : ClassId} {S : St} {k : Nat} {x : Int32} : (wT h cI cII S).set 24 (h 24, .inl (cI, 8, .inl (upd (S 24) k x))) = wT h cI cII (sU S 24 k x) := rfl
theorem wT_g25 {h : Nat → Nat} {cI cII : ClassId} {S : St} : (wT h cI cII S)[25]? = some (h 25, .inl (cI, 8, .inl (S 25))) := rfl
theorem wT_s25 {h : Nat → Nat} {cI cII : ClassId} {S : St} {k : Nat} {x : Int32} : (wT h cI cII S).set 25 (h 25, .inl (cI, 8, .inl (upd (S 25) k x))) = wT h cI cII (sU S 25 k x) := rfl
theorem wT_g26 {h : Nat → Nat} {cI cII : ClassId} {S : St} : (wT h cI cII S)[26]? = some (h 26, .inr (2, [.ref (h 27), .ref (h 28), .int (S 26 2)])) := rfl
theorem wT_f26_2 {h : Nat → Nat} {cI cII : ClassId} {S : St} {x : Int32} : (wT h cI cII S).set 26 (h 26, .inr (2, List.set [.ref (h 27), .ref (h 28), .int (S 26 2)] 2 (.int x))) = wT h cI cII (sU S 26 2 x) := rfl
theorem wT_g27 {h : Nat → Nat} {cI cII : ClassId} {S : St} : (wT h cI cII S)[27]? = some (h 27, .inl (cI, 512, .inl (S 27))) := rfl
theorem wT_s27 {h : Nat → Nat} {cI cII : ClassId} {S : St} {k : Nat} {x : Int32} : (wT h cI cII S).set 27 (h 27, .inl (cI, 512, .inl (upd (S 27) k x))) = wT h cI cII (sU S 27 k x) := rfl
theorem wT_g28 {h : Nat → Nat} {cI cII : ClassId} {S : St} : (wT h cI cII S)[28]? = some (h 28, .inl (cI, 512, .inl (S 28))) := rfl
theorem wT_s28 {h : Nat → Nat} {cI cII : ClassId} {S : St} {k : Nat} {x : Int32} : (wT h cI cII S).set 28 (h 28, .inl (cI, 512, .inl (upd (S 28) k x))) = wT h cI cII (sU S 28 k x) := rfl
theorem wC_g4 {h : Nat → Nat} {cI : ClassId} {S : St} : (wC h cI S)[0]? = some (h 4, .inr (1, [.ref (h 5), .ref (h 6), .ref (h 7), .ref (h 8), .ref (h 9), .ref (h 10), .ref (h 11), .ref (h 12), .int (S 4 8)])) := rfl
theorem wC_f4_8 {h : Nat → Nat} {cI : ClassId} {S : St} {x : Int32} : (wC h cI S).set 0 (h 4, .inr (1, List.set [.ref (h 5), .ref (h 6), .ref (h 7), .ref (h 8), .ref (h 9), .ref (h 10), .ref (h 11), .ref (h 12), .int (S 4 8)] 8 (.int x))) = wC h cI (sU S 4 8 x) := rfl
theorem wC_g5 {h : Nat → Nat} {cI : ClassId} {S : St} : (wC h cI S)[1]? = some (h 5, .inl (cI, 30, .inl (S 5))) := rfl
theorem wC_s5 {h : Nat → Nat} {cI : ClassId} {S : St} {k : Nat} {x : Int32} : (wC h cI S).set 1 (h 5, .inl (cI, 30, .inl (upd (S 5) k x))) = wC h cI (sU S 5 k x) := rfl
theorem wC_g6 {h : Nat → Nat} {cI : ClassId} {S : St} : (wC h cI S)[2]? = some (h 6, .inl (cI, 30, .inl (S 6))) := rfl
theorem wC_s6 {h : Nat → Nat} {cI : ClassId} {S : St} {k : Nat} {x : Int32} : (wC h cI S).set 2 (h 6, .inl (cI, 30, .inl (upd (S 6) k x))) = wC h cI (sU S 6 k x) := rfl
theorem wC_g7 {h : Nat → Nat} {cI : ClassId} {S : St} : (wC h cI S)[3]? = some (h 7, .inl (cI, 30, .inl (S 7))) := rfl
theorem wC_s7 {h : Nat → Nat} {cI : ClassId} {S : St} {k : Nat} {x : Int32} : (wC h cI S).set 3 (h 7, .inl (cI, 30, .inl (upd (S 7) k x))) = wC h cI (sU S 7 k x) := rfl
theorem wC_g8 {h : Nat → Nat} {cI : ClassId} {S : St} : (wC h cI S)[4]? = some (h 8, .inl (cI, 30, .inl (S 8))) := rfl
theorem wC_s8 {h : Nat → Nat} {cI : ClassId} {S : St} {k : Nat} {x : Int32} : (wC h cI S).set 4 (h 8, .inl (cI, 30, .inl (upd (S 8) k x))) = wC h cI (sU S 8 k x) := rfl
theorem wC_g9 {h : Nat → Nat} {cI : ClassId} {S : St} : (wC h cI S)[5]? = some (h 9, .inl (cI, 30, .inl (S 9))) := rfl
theorem wC_s9 {h : Nat → Nat} {cI : ClassId} {S : St} {k : Nat} {x : Int32} : (wC h cI S).set 5 (h 9, .inl (cI, 30, .inl (upd (S 9) k x))) = wC h cI (sU S 9 k x) := rfl
theorem wC_g10 {h : Nat → Nat} {cI : ClassId} {S : St} : (wC h cI S)[6]? = some (h 10, .inl (cI, 30, .inl (S 10))) := rfl
theorem wC_s10 {h : Nat → Nat} {cI : ClassId} {S : St} {k : Nat} {x : Int32} : (wC h cI S).set 6 (h 10, .inl (cI, 30, .inl (upd (S 10) k x))) = wC h cI (sU S 10 k x) := rfl
theorem wC_g11 {h : Nat → Nat} {cI : ClassId} {S : St} : (wC h cI S)[7]? = some (h 11, .inl (cI, 30, .inl (S 11))) := rfl
theorem wC_s11 {h : Nat → Nat} {cI : ClassId} {S : St} {k : Nat} {x : Int32} : (wC h cI S).set 7 (h 11, .inl (cI, 30, .inl (upd (S 11) k x))) = wC h cI (sU S 11 k x) := rfl
theorem wC_g12 {h : Nat → Nat} {cI : ClassId} {S : St} : (wC h cI S)[8]? = some (h 12, .inl (cI, 30, .inl (S 12))) := rfl
theorem wC_s12 {h : Nat → Nat} {cI : ClassId} {S : St} {k : Nat} {x : Int32} : (wC h cI S).set 8 (h 12, .inl (cI, 30, .inl (upd (S 12) k x))) = wC h cI (sU S 12 k x) := rfl
theorem wB_g13 {h : Nat → Nat} {cI cII : ClassId} {S : St} : (wB h cI cII S)[0]? = some (h 13, .inr (0, [.ref (h 14), .ref (h 20)])) := rfl
theorem wB_g14 {h : Nat → Nat} {cI cII : ClassId} {S : St} : (wB h cI cII S)[1]? = some (h 14, .inl (cII, 5, .inr (.inr (.inr (.inr (fun j => if j < 5 then some (h (15 + j)) else none)))))) := rfl
theorem wB_g15 {h : Nat → Nat} {cI cII : ClassId} {S : St} : (wB h cI cII S)[2]? = some (h 15, .inl (cI, 8, .inl (S 15))) := rfl
theorem wB_s15 {h : Nat → Nat} {cI cII : ClassId} {S : St} {k : Nat} {x : Int32} : (wB h cI cII S).set 2 (h 15, .inl (cI, 8, .inl (upd (S 15) k x))) = wB h cI cII (sU S 15 k x) := rfl
theorem wB_g16 {h : Nat → Nat} {cI cII : ClassId} {S : St} : (wB h cI cII S)[3]? = some (h 16, .inl (cI, 8, .inl (S 16))) := rfl
theorem wB_s16 {h : Nat → Nat} {cI cII : ClassId} {S : St} {k : Nat} {x : Int32} : (wB h cI cII S).set 3 (h 16, .inl (cI, 8, .inl (upd (S 16) k x))) = wB h cI cII (sU S 16 k x) := rfl
theorem wB_g17 {h : Nat → Nat} {cI cII : ClassId} {S : St} : (wB h cI cII S)[4]? = some (h 17, .inl (cI, 8, .inl (S 17))) := rfl
theorem wB_s17 {h : Nat → Nat} {cI cII : ClassId} {S : St} {k : Nat} {x : Int32} : (wB h cI cII S).set 4 (h 17, .inl (cI, 8, .inl (upd (S 17) k x))) = wB h cI cII (sU S 17 k x) := rfl
theorem wB_g18 {h : Nat → Nat} {cI cII : ClassId} {S : St} : (wB h cI cII S)[5]? = some (h 18, .inl (cI, 8, .inl (S 18))) := rfl
theorem wB_s18 {h : Nat → Nat} {cI cII : ClassId} {S : St} {k : Nat} {x : Int32} : (wB h cI cII S).set 5 (h 18, .inl (cI, 8, .inl (upd (S 18) k x))) = wB h cI cII (sU S 18 k x) := rfl
theorem wB_g19 {h : Nat → Nat} {cI cII : ClassId} {S : St} : (wB h cI cII S)[6]? = some (h 19, .inl (cI, 8, .inl (S 19))) := rfl
theorem wB_s19 {h : Nat → Nat} {cI cII : ClassId} {S : St} {k : Nat} {x : Int32} : (wB h cI cII S).set 6 (h 19, .inl (cI, 8, .inl (upd (S 19) k x))) = wB h cI cII (sU S 19 k x) := rfl
theorem wB_g20 {h : Nat → Nat} {cI cII : ClassId} {S : St} : (wB h cI cII S)[7]? = some (h 20, .inl (cII, 5, .inr (.inr (.inr (.inr (fun j => if j < 5 then some (h (21 + j)) else none)))))) := rfl
theorem wB_g21 {h : Nat → Nat} {cI cII : ClassId} {S : St} : (wB h cI cII S)[8]? = some (h 21, .inl (cI, 8, .inl (S 21))) := rfl
theorem wB_s21 {h : Nat → Nat} {cI cII : ClassId} {S : St} {k : Nat} {x : Int32} : (wB h cI cII S).set 8 (h 21, .inl (cI, 8, .inl (upd (S 21) k x))) = wB h cI cII (sU S 21 k x) := rfl
theorem wB_g22 {h : Nat → Nat} {cI cII : ClassId} {S : St} : (wB h cI cII S)[9]? = some (h 22, .inl (cI, 8, .inl (S 22))) := rfl
theorem wB_s22 {h : Nat → Nat} {cI cII : ClassId} {S : St} {k : Nat} {x : Int32} : (wB h cI cII S).set 9 (h 22, .inl (cI, 8, .inl (upd (S 22) k x))) = wB h cI cII (sU S 22 k x) := rfl
theorem wB_g23 {h : Nat → Nat} {cI cII : ClassId} {S : St} : (wB h cI cII S)[10]? = some (h 23, .inl (cI, 8, .inl (S 23))) := rfl
theorem wB_s23 {h : Nat → Nat} {cI cII : ClassId} {S : St} {k : Nat} {x : Int32} : (wB h cI cII S).set 10 (h 23, .inl (cI, 8, .inl (upd (S 23) k x))) = wB h cI cII (sU S 23 k x) := rfl
theorem wB_g24 {h : Nat → Nat} {cI cII : ClassId} {S : St} : (wB h cI cII S)[11]? = some (h 24, .inl (cI, 8, .inl (S 24))) := rfl
theorem wB_s24 {h : Nat → Nat} {cI cII : ClassId} {S : St} {k : Nat} {x : Int32} : (wB h cI cII S).set 11 (h 24, .inl (cI, 8, .inl (upd (S 24) k x))) = wB h cI cII (sU S 24 k x) := rfl
theorem wB_g25 {h : Nat → Nat} {cI cII : ClassId} {S : St} : (wB h cI cII S)[12]? = some (h 25, .inl (cI, 8, .inl (S 25))) := rfl
theorem wB_s25 {h : Nat → Nat} {cI cII : ClassId} {S : St} {k : Nat} {x : Int32} : (wB h cI cII S).set 12 (h 25, .inl (cI, 8, .inl (upd (S 25) k x))) = wB h cI cII (sU S 25 k x) := rfl
theorem wH_g26 {h : Nat → Nat} {cI : ClassId} {S : St} : (wH h cI S)[0]? = some (h 26, .inr (2, [.ref (h 27), .ref (h 28), .int (S 26 2)])) := rfl
theorem wH_f26_2 {h : Nat → Nat} {cI : ClassId} {S : St} {x : Int32} : (wH h cI S).set 0 (h 26, .inr (2, List.set [.ref (h 27), .ref (h 28), .int (S 26 2)] 2 (.int x))) = wH h cI (sU S 26 2 x) := rfl
theorem wH_g27 {h : Nat → Nat} {cI : ClassId} {S : St} : (wH h cI S)[1]? = some (h 27, .inl (cI, 512, .inl (S 27))) := rfl
theorem wH_s27 {h : Nat → Nat} {cI : ClassId} {S : St} {k : Nat} {x : Int32} : (wH h cI S).set 1 (h 27, .inl (cI, 512, .inl (upd (S 27) k x))) = wH h cI (sU S 27 k x) := rfl
theorem wH_g28 {h : Nat → Nat} {cI : ClassId} {S : St} : (wH h cI S)[2]? = some (h 28, .inl (cI, 512, .inl (S 28))) := rfl
theorem wH_s28 {h : Nat → Nat} {cI : ClassId} {S : St} {k : Nat} {x : Int32} : (wH h cI S).set 2 (h 28, .inl (cI, 512, .inl (upd (S 28) k x))) = wH h cI (sU S 28 k x) := rfl
theorem wM_g0 {h : Nat → Nat} {cI : ClassId} {S : St} : (wM h cI S)[0]? = some (h 0, .inr (4, [.int (S 0 0), .ref (h 1), .ref (h 2), .ref (h 3), .ref (h 4), .ref (h 5), .ref (h 6), .ref (h 7), .ref (h 8), .ref (h 9), .int (S 0 10), .ref (h 11), .ref (h 12), .int (S 0 13), .ref (h 14), .ref (h 15), .int (S 0 16)])) := rfl
theorem wM_f0_0 {h : Nat → Nat} {cI : ClassId} {S : St} {x : Int32} : (wM h cI S).set 0 (h 0, .inr (4, List.set [.int (S 0 0), .ref (h 1), .ref (h 2), .ref (h 3), .ref (h 4), .ref (h 5), .ref (h 6), .ref (h 7), .ref (h 8), .ref (h 9), .int (S 0 10), .ref (h 11), .ref (h 12), .int (S 0 13), .ref (h 14), .ref (h 15), .int (S 0 16)] 0 (.int x))) = wM h cI (sU S 0 0 x) := rfl
theorem wM_f0_10 {h : Nat → Nat} {cI : ClassId} {S : St} {x : Int32} : (wM h cI S).set 0 (h 0, .inr (4, List.set [.int (S 0 0), .ref (h 1), .ref (h 2), .ref (h 3), .ref (h 4), .ref (h 5), .ref (h 6), .ref (h 7), .ref (h 8), .ref (h 9), .int (S 0 10), .ref (h 11), .ref (h 12), .int (S 0 13), .ref (h 14), .ref (h 15), .int (S 0 16)] 10 (.int x))) = wM h cI (sU S 0 10 x) := rfl
theorem wM_f0_13 {h : Nat → Nat} {cI : ClassId} {S : St} {x : Int32} : (wM h cI S).set 0 (h 0, .inr (4, List.set [.int (S 0 0), .ref (h 1), .ref (h 2), .ref (h 3), .ref (h 4), .ref (h 5), .ref (h 6), .ref (h 7), .ref (h 8), .ref (h 9), .int (S 0 10), .ref (h 11), .ref (h 12), .int (S 0 13), .ref (h 14), .ref (h 15), .int (S 0 16)] 13 (.int x))) = wM h cI (sU S 0 13 x) := rfl
theorem wM_f0_16 {h : Nat → Nat} {cI : ClassId} {S : St} {x : Int32} : (wM h cI S).set 0 (h 0, .inr (4, List.set [.int (S 0 0), .ref (h 1), .ref (h 2), .ref (h 3), .ref (h 4), .ref (h 5), .ref (h 6), .ref (h 7), .ref (h 8), .ref (h 9), .int (S 0 10), .ref (h 11), .ref (h 12), .int (S 0 13), .ref (h 14), .ref (h 15), .int (S 0 16)] 16 (.int x))) = wM h cI (sU S 0 16 x) := rfl
theorem wM_g1 {h : Nat → Nat} {cI : ClassId} {S : St} : (wM h cI S)[1]? = some (h 1, .inl (cI, 5, .inl (S 1))) := rfl
theorem wM_s1 {h : Nat → Nat} {cI : ClassId} {S : St} {k : Nat} {x : Int32} : (wM h cI S).set 1 (h 1, .inl (cI, 5, .inl (upd (S 1) k x))) = wM h cI (sU S 1 k x) := rfl
theorem wM_g2 {h : Nat → Nat} {cI : ClassId} {S : St} : (wM h cI S)[2]? = some (h 2, .inl (cI, 30, .inl (S 2))) := rfl
theorem wM_s2 {h : Nat → Nat} {cI : ClassId} {S : St} {k : Nat} {x : Int32} : (wM h cI S).set 2 (h 2, .inl (cI, 30, .inl (upd (S 2) k x))) = wM h cI (sU S 2 k x) := rfl
theorem wM_g3 {h : Nat → Nat} {cI : ClassId} {S : St} : (wM h cI S)[3]? = some (h 3, .inl (cI, 30, .inl (S 3))) := rfl
theorem wM_s3 {h : Nat → Nat} {cI : ClassId} {S : St} {k : Nat} {x : Int32} : (wM h cI S).set 3 (h 3, .inl (cI, 30, .inl (upd (S 3) k x))) = wM h cI (sU S 3 k x) := rfl
theorem wM_g4 {h : Nat → Nat} {cI : ClassId} {S : St} : (wM h cI S)[4]? = some (h 4, .inl (cI, 30, .inl (S 4))) := rfl
theorem wM_s4 {h : Nat → Nat} {cI : ClassId} {S : St} {k : Nat} {x : Int32} : (wM h cI S).set 4 (h 4, .inl (cI, 30, .inl (upd (S 4) k x))) = wM h cI (sU S 4 k x) := rfl
theorem wM_g5 {h : Nat → Nat} {cI : ClassId} {S : St} : (wM h cI S)[5]? = some (h 5, .inl (cI, 30, .inl (S 5))) := rfl
theorem wM_s5 {h : Nat → Nat} {cI : ClassId} {S : St} {k : Nat} {x : Int32} : (wM h cI S).set 5 (h 5, .inl (cI, 30, .inl (upd (S 5) k x))) = wM h cI (sU S 5 k x) := rfl
theorem wM_g6 {h : Nat → Nat} {cI : ClassId} {S : St} : (wM h cI S)[6]? = some (h 6, .inl (cI, 30, .inl (S 6))) := rfl
theorem wM_s6 {h : Nat → Nat} {cI : ClassId} {S : St} {k : Nat} {x : Int32} : (wM h cI S).set 6 (h 6, .inl (cI, 30, .inl (upd (S 6) k x))) = wM h cI (sU S 6 k x) := rfl
theorem wM_g7 {h : Nat → Nat} {cI : ClassId} {S : St} : (wM h cI S)[7]? = some (h 7, .inl (cI, 30, .inl (S 7))) := rfl
theorem wM_s7 {h : Nat → Nat} {cI : ClassId} {S : St} {k : Nat} {x : Int32} : (wM h cI S).set 7 (h 7, .inl (cI, 30, .inl (upd (S 7) k x))) = wM h cI (sU S 7 k x) := rfl
theorem wM_g8 {h : Nat → Nat} {cI : ClassId} {S : St} : (wM h cI S)[8]? = some (h 8, .inl (cI, 30, .inl (S 8))) := rfl
theorem wM_s8 {h : Nat → Nat} {cI : ClassId} {S : St} {k : Nat} {x : Int32} : (wM h cI S).set 8 (h 8, .inl (cI, 30, .inl (upd (S 8) k x))) = wM h cI (sU S 8 k x) := rfl
theorem wM_g9 {h : Nat → Nat} {cI : ClassId} {S : St} : (wM h cI S)[9]? = some (h 9, .inl (cI, 30, .inl (S 9))) := rfl
theorem wM_s9 {h : Nat → Nat} {cI : ClassId} {S : St} {k : Nat} {x : Int32} : (wM h cI S).set 9 (h 9, .inl (cI, 30, .inl (upd (S 9) k x))) = wM h cI (sU S 9 k x) := rfl
theorem wM_g11 {h : Nat → Nat} {cI : ClassId} {S : St} : (wM h cI S)[10]? = some (h 11, .inl (cI, 40, .inl (S 11))) := rfl
theorem wM_s11 {h : Nat → Nat} {cI : ClassId} {S : St} {k : Nat} {x : Int32} : (wM h cI S).set 10 (h 11, .inl (cI, 40, .inl (upd (S 11) k x))) = wM h cI (sU S 11 k x) := rfl
theorem wM_g12 {h : Nat → Nat} {cI : ClassId} {S : St} : (wM h cI S)[11]? = some (h 12, .inl (cI, 40, .inl (S 12))) := rfl
theorem wM_s12 {h : Nat → Nat} {cI : ClassId} {S : St} {k : Nat} {x : Int32} : (wM h cI S).set 11 (h 12, .inl (cI, 40, .inl (upd (S 12) k x))) = wM h cI (sU S 12 k x) := rfl
theorem wM_g14 {h : Nat → Nat} {cI : ClassId} {S : St} : (wM h cI S)[12]? = some (h 14, .inl (cI, 8, .inl (S 14))) := rfl
theorem wM_s14 {h : Nat → Nat} {cI : ClassId} {S : St} {k : Nat} {x : Int32} : (wM h cI S).set 12 (h 14, .inl (cI, 8, .inl (upd (S 14) k x))) = wM h cI (sU S 14 k x) := rfl
theorem wM_g15 {h : Nat → Nat} {cI : ClassId} {S : St} : (wM h cI S)[13]? = some (h 15, .inl (cI, 5, .inl (S 15))) := rfl
theorem wM_s15 {h : Nat → Nat} {cI : ClassId} {S : St} {k : Nat} {x : Int32} : (wM h cI S).set 13 (h 15, .inl (cI, 5, .inl (upd (S 15) k x))) = wM h cI (sU S 15 k x) := rfl
section MRG
variable {p : Program} {l : Launch} {e : Env} {R : Room} {s : State} {m : MethodId} {args : Array Value} {below : List Frame} {meth : Method} {c : Code} {nL : Nat} {D : va_G} {cl : List vw_C} {A : Nat → Prop} {Q : State → Prop} {cells slots : Nat} {w : va_W} {pc : Nat} {lv : List (Nat × Value)} {st : List Value}
/-- two roads that meet, with a number on the stack -/
theorem v_mrg {T : Int32} (J : Nat) (stJ : List Value) (h1 : (∀ v, v = T → v_V p l e R s m args below meth c D cl A nL Q cells slots w J lv (.int v :: stJ)) → v_V p l e R s m args below meth c D cl A nL Q cells slots w pc lv st) (h2 : v_V p l e R s m args below meth c D cl A nL Q cells slots w J lv (.int T :: stJ)) : v_V p l e R s m args below meth c D cl A nL Q cells slots w pc lv st := h1 (fun _ e => e ▸ h2)
end MRG
