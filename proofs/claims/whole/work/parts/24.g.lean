theorem c_0 : (0 : Int32).toInt = 0 := by decide
theorem c_1 : (1 : Int32).toInt = 1 := by decide
theorem c_2 : (2 : Int32).toInt = 2 := by decide
theorem c_3 : (3 : Int32).toInt = 3 := by decide
theorem c_4 : (4 : Int32).toInt = 4 := by decide
theorem c_5 : (5 : Int32).toInt = 5 := by decide
theorem c_7 : (7 : Int32).toInt = 7 := by decide
theorem c_8 : (8 : Int32).toInt = 8 := by decide
theorem c_30 : (30 : Int32).toInt = 30 := by decide
theorem c_50 : (50 : Int32).toInt = 50 := by decide
theorem c_100 : (100 : Int32).toInt = 100 := by decide
theorem c_512 : (512 : Int32).toInt = 512 := by decide
theorem c_1000 : (1000 : Int32).toInt = 1000 := by decide
theorem c_mil : (1000000 : Int32).toInt = 1000000 := by decide
theorem c_m1 : (-1 : Int32).toInt = -1 := by decide
theorem i_lt {x y : Int32} : x < y ↔ x.toInt < y.toInt := Int32.lt_iff_toInt_lt
theorem i_le {x y : Int32} : x ≤ y ↔ x.toInt ≤ y.toInt := Int32.le_iff_toInt_le
theorem i_eq {x y : Int32} : x = y ↔ x.toInt = y.toInt := Int32.toInt_inj.symm
theorem i_rng (x : Int32) : -2147483648 ≤ x.toInt ∧ x.toInt < 2147483648 := ⟨Int32.le_toInt x, Int32.toInt_lt x⟩
theorem i_add {x y : Int32} (h1 : -2147483648 ≤ x.toInt + y.toInt) (h2 : x.toInt + y.toInt < 2147483648) : (x + y).toInt = x.toInt + y.toInt := by
  rw [Int32.toInt_add, Int.bmod_eq_of_le (by omega) (by omega)]
theorem i_sub {x y : Int32} (h1 : -2147483648 ≤ x.toInt - y.toInt) (h2 : x.toInt - y.toInt < 2147483648) : (x - y).toInt = x.toInt - y.toInt := by
  rw [Int32.toInt_sub, Int.bmod_eq_of_le (by omega) (by omega)]
theorem i_nat {x : Int32} (h : 0 ≤ x.toInt) : (x.toNatClampNeg : Int) = x.toInt := by
  show (x.toInt.toNat : Int) = x.toInt
  omega
theorem i_nI {x : Int32} (h : 0 ≤ x.toInt) : x = nI x.toNatClampNeg := by
  obtain ⟨j, hj, e⟩ := nI_of (x := x) (by rw [i_lt, c_0]; omega)
  rw [e, nI_clamp hj]
/-- a card that is there -/
def inC (S : St) (c : Int32) : Prop := 0 ≤ c.toInt ∧ c.toInt < (S 4 8).toInt
def inP (x : Int32) : Prop := 1 ≤ x.toInt ∧ x.toInt ≤ 1000
theorem np_t {x : Int32} (h : vp_in x 5) : x_X3_needPlayer x = none := by
  rw [vp_in_iff] at h
  unfold x_X3_needPlayer
  rw [if_neg (by rw [i_lt, c_0]; omega), if_pos (by rw [i_lt, c_5]; omega)]
theorem np_f {x : Int32} (h : ¬ vp_in x 5) : x_X3_needPlayer x = some v_E1 := by
  rw [vp_in_iff] at h
  unfold x_X3_needPlayer
  by_cases h1 : x < 0
  · rw [if_pos h1]
  · rw [if_neg h1, if_neg (by rw [i_lt, c_0] at h1; rw [i_lt, c_5]; omega)]
theorem nk_t {x : Int32} (h : vp_in x 8) : x_X3_needKind x = none := by
  rw [vp_in_iff] at h
  unfold x_X3_needKind
  rw [if_neg (by rw [i_lt, c_0]; omega), if_pos (by rw [i_lt, c_8]; omega)]
theorem nk_f {x : Int32} (h : ¬ vp_in x 8) : x_X3_needKind x = some v_E1 := by
  rw [vp_in_iff] at h
  unfold x_X3_needKind
  by_cases h1 : x < 0
  · rw [if_pos h1]
  · rw [if_neg h1, if_neg (by rw [i_lt, c_0] at h1; rw [i_lt, c_8]; omega)]
theorem nx_t {x : Int32} (h : inP x) : x_X3_needPrice x = none := by
  unfold inP at h
  unfold x_X3_needPrice
  rw [if_neg (by rw [i_lt, c_1]; omega), if_pos (by rw [i_le, c_1000]; omega)]
theorem nx_f {x : Int32} (h : ¬ inP x) : x_X3_needPrice x = some v_E2 := by
  unfold inP at h
  unfold x_X3_needPrice
  by_cases h1 : x < 1
  · rw [if_pos h1]
  · rw [if_neg h1, if_neg (by rw [i_lt, c_1] at h1; rw [i_le, c_1000]; omega)]
theorem in_t {x a b : Int32} (h1 : a.toInt ≤ x.toInt) (h2 : x.toInt ≤ b.toInt) : r_X4_in x a b = 1 := by
  unfold r_X4_in
  rw [if_neg (by rw [i_lt]; omega), if_neg (by rw [i_lt]; omega)]
theorem in_f {x a b : Int32} (h : ¬ (a.toInt ≤ x.toInt ∧ x.toInt ≤ b.toInt)) : r_X4_in x a b = 0 := by
  unfold r_X4_in
  by_cases h1 : x < a
  · rw [if_pos h1]
  · rw [if_neg h1, if_pos (by rw [i_lt] at h1 ⊢; omega)]
theorem ip_t {x : Int32} (h : vp_in x 5) : r_X4_isPlayer x = 1 := by
  rw [vp_in_iff] at h
  exact in_t (by rw [c_0]; omega) (by rw [c_4]; omega)
theorem ip_f {x : Int32} (h : ¬ vp_in x 5) : r_X4_isPlayer x = 0 := by
  rw [vp_in_iff] at h
  exact in_f (by rw [c_0, c_4]; omega)
theorem ik_t {x : Int32} (h : vp_in x 8) : r_X4_isKind x = 1 := by
  rw [vp_in_iff] at h
  exact in_t (by rw [c_0]; omega) (by rw [c_7]; omega)
theorem ik_f {x : Int32} (h : ¬ vp_in x 8) : r_X4_isKind x = 0 := by
  rw [vp_in_iff] at h
  exact in_f (by rw [c_0, c_7]; omega)
theorem ix_t {x : Int32} (h : inP x) : r_X4_in x 1 1000 = 1 := in_t (by rw [c_1]; exact h.1) (by rw [c_1000]; exact h.2)
theorem ix_f {x : Int32} (h : ¬ inP x) : r_X4_in x 1 1000 = 0 := in_f (by rw [c_1, c_1000]; exact h)
theorem has_t {S : St} {c : Int32} (h : inC S c) : r_X1_has S c = 1 := by
  unfold inC at h
  unfold r_X1_has
  rw [if_neg (by rw [i_lt, c_0]; omega), if_neg (by rw [i_le]; omega)]
theorem has_f {S : St} {c : Int32} (h : ¬ inC S c) : r_X1_has S c = 0 := by
  unfold inC at h
  unfold r_X1_has
  by_cases h1 : c < 0
  · rw [if_pos h1]
  · rw [if_neg h1, if_pos (by rw [i_lt, c_0] at h1; rw [i_le]; omega)]
theorem nc_t {S : St} {c : Int32} (h : inC S c) : x_X3_needCard S c = none := by
  unfold x_X3_needCard
  rw [has_t h, if_neg (by decide)]
theorem nc_f {S : St} {c : Int32} (h : ¬ inC S c) : x_X3_needCard S c = some v_E1 := by
  unfold x_X3_needCard
  rw [has_f h, if_pos rfl]
theorem ic_t {n : Nat} {S M : St} (h : Rel n S M) {c : Int32} (hc : inC S c) : r_X4_isCard M c = 1 := by
  have h1 := h.hcnt
  unfold inC at hc
  unfold cntC at h1
  have e := h.1.1
  unfold r_X4_isCard
  rw [← e]
  exact in_t (by rw [c_0]; omega) (by rw [i_sub (by rw [c_1]; omega) (by rw [c_1]; omega), c_1]; omega)
theorem ic_f {n : Nat} {S M : St} (h : Rel n S M) {c : Int32} (hc : ¬ inC S c) : r_X4_isCard M c = 0 := by
  have h1 := h.hcnt
  unfold inC at hc
  unfold cntC at h1
  have e := h.1.1
  unfold r_X4_isCard
  rw [← e]
  refine in_f ?_
  rw [i_sub (by rw [c_1]; omega) (by rw [c_1]; omega), c_1, c_0]
  omega
theorem inC_30 {n : Nat} {S M : St} (h : Rel n S M) {c : Int32} (hc : inC S c) : vp_in c 30 := by
  have h1 := h.hcnt
  unfold inC at hc
  unfold cntC at h1
  rw [vp_in_iff]
  omega
theorem as1 (M : St) (a : Int32) : s_X4_asked M a = sU M 0 16 (if a = 0 then 1 else 0) := rfl
theorem as2 (M : St) (a b : Int32) : s_X4_asked_ M a b = sU M 0 16 (if a = 0 then 1 else if b = 0 then 2 else 0) := by
  unfold s_X4_asked_
  exact ite_self _
theorem as3 (M : St) (a b c : Int32) : s_X4_asked__ M a b c = sU M 0 16 (if a = 0 then 1 else if b = 0 then 2 else if c = 0 then 3 else 0) := by
  unfold s_X4_asked__
  exact ite_self _
theorem ar1 (M : St) (a : Int32) : r_X4_asked M a = a := rfl
theorem ar2 (M : St) (a b : Int32) : r_X4_asked_ M a b = if a = 0 then 0 else if b = 0 then 0 else 1 := by
  show (if (if a = 0 then (1 : Int32) else if b = 0 then 2 else 0) = 0 then (1 : Int32) else 0) = _
  by_cases h1 : a = 0
  · simp [h1]
  · by_cases h2 : b = 0 <;> simp [h1, h2]
theorem ar3 (M : St) (a b c : Int32) : r_X4_asked__ M a b c = if a = 0 then 0 else if b = 0 then 0 else if c = 0 then 0 else 1 := by
  show (if (if a = 0 then (1 : Int32) else if b = 0 then 2 else if c = 0 then 3 else 0) = 0 then (1 : Int32) else 0) = _
  by_cases h1 : a = 0
  · simp [h1]
  · by_cases h2 : b = 0
    · simp [h1, h2]
    · by_cases h3 : c = 0 <;> simp [h1, h2, h3]
theorem th (M : St) (v : Int32) : r_X4_thrown (sU M 0 16 v) = v := rfl
theorem Rel_mono {n : Nat} {S M : St} (h : Rel n S M) : Rel (n + 1) S M := by
  obtain ⟨hE, ⟨r1, r2, r3, r4, r5, r6, r7⟩, hB, ⟨n1, n2, n3⟩, hD, hK, ⟨h1, h2, h3⟩⟩ := h
  refine ⟨hE, ⟨r1, r2, r3, r4, r5, r6, by omega⟩, hB, ⟨by omega, by omega, n3⟩, fun k hk => ?_, hK, ⟨h1, by omega, h3⟩⟩
  rcases hD k hk with q | ⟨q1, q2, q3⟩
  · exact Or.inl q
  · exact Or.inr ⟨q1, q2, by omega⟩
theorem Rel_thr {n : Nat} {S M : St} (v : Int32) (h : Rel n S M) : Rel n S (sU M 0 16 v) := h
