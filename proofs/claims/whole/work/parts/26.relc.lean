theorem lo_congr {S S' : St} (h6 : S' 26 = S 26) (h7 : S' 27 = S 27) (h8 : S' 28 = S 28) (x : Int32) : r_X2_lastOwner S' x = r_X2_lastOwner S x := by
  have key : ∀ k, lp1_X2_lastOwner S' x k = lp1_X2_lastOwner S x k := by
    intro k
    induction k with
    | zero => rfl
    | succ k ih =>
      rw [e_lp1_X2_lastOwner, e_lp1_X2_lastOwner, ih]
      unfold st1_X2_lastOwner
      rw [h7, h8]
  unfold r_X2_lastOwner
  rw [h6]
  exact key _
theorem swc_congr {S S' : St} (h : S' 7 = S 7) (k : Nat) : swc S' k = swc S k := by
  induction k with
  | zero => rfl
  | succ k ih =>
    unfold swc
    rw [ih, h]
theorem swc_upd {S : St} {c : Nat} {v : Int32} (hv : v ≠ 2) (k : Nat) : swc (sU S 7 c v) k + (if c < k ∧ S 7 c = 2 then 1 else 0) = swc S k := by
  induction k with
  | zero => simp [swc]
  | succ k ih =>
    have e : (sU S 7 c v) 7 k = if k = c then v else S 7 k := rfl
    unfold swc
    rw [e]
    by_cases h1 : k = c
    · subst h1
      have h2 : ¬ (k < k ∧ S 7 k = 2) := fun q => absurd q.1 (Nat.lt_irrefl _)
      rw [if_neg h2] at ih
      rw [if_pos rfl, if_neg hv]
      by_cases h3 : S 7 k = 2
      · rw [if_pos ⟨Nat.lt_succ_self _, h3⟩, if_pos h3]; omega
      · rw [if_neg (fun q => h3 q.2), if_neg h3]; omega
    · rw [if_neg h1]
      by_cases h3 : c < k ∧ S 7 c = 2
      · rw [if_pos h3] at ih
        rw [if_pos (show c < k + 1 ∧ S 7 c = 2 from ⟨Nat.lt_succ_of_lt h3.1, h3.2⟩)]; omega
      · rw [if_neg h3] at ih
        rw [if_neg (show ¬ (c < k + 1 ∧ S 7 c = 2) from fun q => h3 ⟨Nat.lt_of_le_of_ne (Nat.le_of_lt_succ q.1) (fun e => h1 e.symm), q.2⟩)]; omega
theorem swc_le {S : St} {c : Nat} {v : Int32} (hv : v ≠ 2) (k : Nat) : swc (sU S 7 c v) k ≤ swc S k := by
  have := swc_upd (S := S) (c := c) hv k
  omega
theorem swc_up {S : St} {c : Nat} {v : Int32} (k : Nat) : swc (sU S 7 c v) k ≤ swc S k + 1 := by
  have key : ∀ k, swc (sU S 7 c v) k ≤ swc S k + (if c < k then 1 else 0) := by
    intro k
    induction k with
    | zero => simp [swc]
    | succ k ih =>
      have e : (sU S 7 c v) 7 k = if k = c then v else S 7 k := rfl
      unfold swc
      rw [e]
      by_cases h1 : k = c
      · subst h1
        rw [if_neg (Nat.lt_irrefl _)] at ih
        rw [if_pos rfl, if_pos (Nat.lt_succ_self _)]
        split <;> split <;> omega
      · rw [if_neg h1]
        by_cases h3 : c < k
        · rw [if_pos h3] at ih
          rw [if_pos (show c < k + 1 from Nat.lt_succ_of_lt h3)]; omega
        · rw [if_neg h3] at ih
          rw [if_neg (show ¬ c < k + 1 from fun q => h3 (Nat.lt_of_le_of_ne (Nat.le_of_lt_succ q) (fun e => h1 e.symm)))]; omega
  have := key k
  split at this <;> omega
theorem RelB_c {S S' M M' : St} (hs : ∀ i, 15 ≤ i → i ≤ 25 → S' i = S i) (hm : M' 11 = M 11) (h : RelB S M) : RelB S' M' := by
  intro p k hp hk
  rw [hs (15 + p) (by omega) (by omega), hm]
  exact h p k hp hk
theorem RelN_c {n : Nat} {S S' M M' : St} (hs : ∀ i, 15 ≤ i → i ≤ 25 → S' i = S i) (h0 : S' 0 6 = S 0 6) (m0 : M' 0 13 = M 0 13) (h7 : ∀ i, S' 7 i = 1 → S 7 i = 1) (h9 : S' 9 = S 9) (m6 : M' 6 = M 6) (m12 : M' 12 = M 12) (h : RelN n S M) : RelN n S' M' := by
  obtain ⟨n1, n2, n3, n4, n5, n6⟩ := h
  refine ⟨by rw [h0]; exact n1, by rw [m0]; exact n2, fun i hi => by rw [h0, m0, h9, m6]; exact n3 i (h7 i hi), fun i j hi hj => by rw [h9, m6]; exact n4 i j (h7 i hi) (h7 j hj), fun p k hp hk => ?_, fun p q k hp hq hk => ?_⟩
  · rw [hs (15 + p) (by omega) (by omega), hs (21 + p) (by omega) (by omega), h0, m0, m12]
    exact n5 p k hp hk
  · rw [hs (15 + p) (by omega) (by omega), hs (21 + p) (by omega) (by omega), hs (15 + q) (by omega) (by omega), hs (21 + q) (by omega) (by omega), m12]
    exact n6 p q k hp hq hk
theorem RelD_c {n : Nat} {S S' M M' : St} (h2 : S' 2 = S 2) (m : M' 14 = M 14) (h : RelD n S M) : RelD n S' M' := by
  intro k hk
  rw [h2, m]
  exact h k hk
theorem RelH_c {n n' : Nat} {S S' : St} (h6 : S' 26 = S 26) (h7 : S' 27 = S 27) (h8 : S' 28 = S 28) (ho : S' 6 = S 6) (h4 : S' 4 = S 4) (hw : swc S' 30 + n ≤ swc S 30 + n') (h : RelH n S) : RelH n' S' := by
  obtain ⟨a1, a2, a3⟩ := h
  refine ⟨by unfold hisC; rw [h6]; exact a1, by rw [h6]; omega, fun j hj => ?_⟩
  rw [lo_congr h6 h7 h8, ho]
  rw [h4] at hj
  exact a3 j hj
/-- a card's state becomes FREE or LENT -/
theorem Rel_st {n : Nat} {S M : St} {c : Nat} {v : Int32} (h1 : v ≠ 1) (h2 : v ≠ 2) (h : Rel n S M) : Rel n (sU S 7 c v) (sU M 4 c v) := by
  obtain ⟨⟨e1, e2, e3, e4, e5, e6, e7, e8, e9, e10, e11⟩, ⟨r1, r2, r3, r4, r5, r6⟩, hB, hN, hD, hK, hH⟩ := h
  have h7 : ∀ i, sU S 7 c v 7 i = 1 → S 7 i = 1 := by
    intro i hi
    have e : sU S 7 c v 7 i = if i = c then v else S 7 i := rfl
    rw [e] at hi
    by_cases q : i = c
    · rw [if_pos q] at hi; exact absurd hi h1
    · rw [if_neg q] at hi; exact hi
  refine ⟨⟨e1, e2, e3, ?_, e5, e6, e7, e8, e9, e10, e11⟩, ⟨r1, r2, r3, r4, fun j hj => r5 j (h7 j hj), r6⟩, RelB_c (fun i a b => sU_ne (by omega)) rfl hB, RelN_c (fun i a b => sU_ne (by omega)) rfl rfl h7 rfl rfl rfl hN, RelD_c rfl rfl hD, hK, RelH_c (n := n) (S := S) rfl rfl rfl rfl rfl (by have := swc_le (S := S) (c := c) h2 30; omega) hH⟩
  show upd (S 7) c v = upd (M 4) c v
  rw [e4]
/-- .. SWAPPING -/
theorem Rel_sw {n : Nat} {S M : St} {c o : Nat} {x : Int32} (hx : vp_in x 30) (hx2 : x.toInt < (S 4 8).toInt) (h : Rel n S M) : Rel (n + 1) (sU (sU S 7 c 2) 10 o x) (sU (sU M 4 c 2) 7 o x) := by
  obtain ⟨⟨e1, e2, e3, e4, e5, e6, e7, e8, e9, e10, e11⟩, ⟨r1, r2, r3, r4, r5, r6⟩, hB, hN, hD, hK, hH⟩ := Rel_mono h
  have hH0 := h.2.2.2.2.2.2
  have h7 : ∀ i, sU (sU S 7 c 2) 10 o x 7 i = 1 → S 7 i = 1 := by
    intro i hi
    have e : sU (sU S 7 c 2) 10 o x 7 i = if i = c then 2 else S 7 i := rfl
    rw [e] at hi
    by_cases q : i = c
    · rw [if_pos q] at hi; exact absurd hi (by decide)
    · rw [if_neg q] at hi; exact hi
  refine ⟨⟨e1, e2, e3, ?_, e5, ?_, e7, e8, e9, e10, e11⟩, ⟨r1, r2, r3, ?_, fun j hj => r5 j (h7 j hj), r6⟩, RelB_c (fun i a b => (sU_ne (by omega)).trans (sU_ne (by omega))) rfl hB, RelN_c (fun i a b => (sU_ne (by omega)).trans (sU_ne (by omega))) rfl rfl h7 rfl rfl rfl hN, RelD_c rfl rfl hD, hK, RelH_c (n := n) (S := S) rfl rfl rfl rfl rfl ?_ hH0⟩
  · show upd (S 7) c 2 = upd (M 4) c 2
    rw [e4]
  · show upd (S 10) o x = upd (M 7) o x
    rw [e6]
  · intro j
    have e : sU (sU S 7 c 2) 10 o x 10 j = if j = o then x else S 10 j := rfl
    rw [e]
    by_cases z : j = o
    · rw [if_pos z]; exact ⟨hx, Or.inr hx2⟩
    · rw [if_neg z]; exact r4 j
  · have := swc_up (S := S) (c := c) (v := 2) 30
    have e : swc (sU (sU S 7 c 2) 10 o x) 30 = swc (sU S 7 c 2) 30 := swc_congr rfl 30
    omega
/-- coins -/
theorem Rel_co {n : Nat} {S M : St} {c : Nat} {x : Int32} (h : Rel n S M) : Rel n (sU S 1 c x) (sU M 1 c x) := by
  obtain ⟨⟨e1, e2, e3, e4, e5, e6, e7, e8, e9, e10, e11⟩, hR, hB, hN, hD, hK, hH⟩ := h
  refine ⟨⟨e1, e2, e3, e4, e5, e6, e7, e8, ?_, e10, e11⟩, hR, RelB_c (fun i a b => sU_ne (by omega)) rfl hB, RelN_c (fun i a b => sU_ne (by omega)) rfl rfl (fun _ q => q) rfl rfl rfl hN, RelD_c rfl rfl hD, hK, RelH_c (n := n) (S := S) rfl rfl rfl rfl rfl (by rw [swc_congr (S := S) (S' := sU S 1 c x) rfl]; omega) hH⟩
  show upd (S 1) c x = upd (M 1) c x
  rw [e9]
/-- loans: the holder and the day -/
theorem Rel_le {n : Nat} {S M : St} {c d : Nat} {x y : Int32} (h : Rel n S M) : Rel n (sU (sU S 11 c x) 12 d y) (sU (sU M 8 c x) 9 d y) := by
  obtain ⟨⟨e1, e2, e3, e4, e5, e6, e7, e8, e9, e10, e11⟩, hR, hB, hN, hD, hK, hH⟩ := h
  refine ⟨⟨e1, e2, e3, e4, e5, e6, ?_, ?_, e9, e10, e11⟩, hR, RelB_c (fun i a b => (sU_ne (by omega)).trans (sU_ne (by omega))) rfl hB, RelN_c (fun i a b => (sU_ne (by omega)).trans (sU_ne (by omega))) rfl rfl (fun _ q => q) rfl rfl rfl hN, RelD_c rfl rfl hD, hK, RelH_c (n := n) (S := S) rfl rfl rfl rfl rfl (by rw [swc_congr (S := S) (S' := sU (sU S 11 c x) 12 d y) rfl]; omega) hH⟩
  · show upd (S 11) c x = upd (M 8) c x
    rw [e7]
  · show upd (S 12) d y = upd (M 9) d y
    rw [e8]
theorem Rel_0 : Rel 0 S0c S0m := by
  have hz : ∀ (i j : Nat), 3 ≤ i → S0c i j = 0 := fun i j h => by
    unfold S0c
    rw [if_neg (by omega), if_neg (by omega)]
  have v0 : ∀ N : Nat, 0 < N → N < 2 ^ 31 → vp_in 0 N := fun N h h2 => vp_in_nI (n := 0) h h2
  refine ⟨⟨rfl, rfl, rfl, rfl, rfl, rfl, rfl, rfl, rfl, rfl, rfl⟩, ⟨⟨by decide, by decide⟩, fun j => v0 8 (by decide) (by decide), fun j => v0 5 (by decide) (by decide), fun j => ⟨v0 30 (by decide) (by decide), Or.inl rfl⟩, fun j hj => ?_, by decide, by decide⟩, fun p k hp hk => ?_, ⟨⟨by decide, by decide⟩, ⟨by decide, by decide⟩, fun i hi => ?_, fun i j hi => ?_, fun p k hp hk hq => ?_, fun p q k hp hq hk hz2 => ?_⟩, fun k hk => Or.inl ?_, fun p hp => ?_, ⟨⟨by decide, by decide⟩, by decide, fun j hj => ?_⟩⟩
  · exact absurd (show (0 : Int32) = 1 from hj) (by decide)
  · rw [hz (15 + p) k (by omega)]
    exact ⟨rfl, by decide, by decide⟩
  · exact absurd (show (0 : Int32) = 1 from hi) (by decide)
  · exact absurd (show (0 : Int32) = 1 from hi) (by decide)
  · exact absurd (hz (15 + p) k (by omega)) hq
  · exact absurd (hz (15 + p) k (by omega)) hz2
  · constructor
    · show (if k < 8 then (-1 : Int32) else 0) = -1
      rw [if_pos hk]
    · show (if k < 8 then (1000000 : Int32) else 0) = 1000000
      rw [if_pos hk]
  · show (0 : Int32).toBitVec.toNat < 2 ^ (0 : Int32).toNatClampNeg
    decide
  · exact absurd (show j < 0 from hj) (Nat.not_lt_zero _)
