theorem idx {x y : Int32} (h1 : vp_in x 5) (h2 : vp_in y 8) : (8 * x + y).toNatClampNeg = 8 * x.toNatClampNeg + y.toNatClampNeg := by
  obtain ⟨i, hi, rfl⟩ := vp_in_of h1 (by decide)
  obtain ⟨j, hj, rfl⟩ := vp_in_of h2 (by decide)
  rw [show (8 : Int32) = nI 8 from rfl, pk_mul, nI_add, nI_clamp (by omega), nI_clamp (by omega), nI_clamp (by omega)]
theorem sU_same {S : St} {i k : Nat} {x : Int32} (h : S i k = x) : sU S i k x = S := by
  funext a b
  by_cases q : a = i
  · subst q
    rw [sU_eq]
    show (if b = k then x else S a b) = S a b
    by_cases q2 : b = k
    · rw [if_pos q2, q2, h]
    · rw [if_neg q2]
  · rw [sU_ne q]
theorem sU_comm {S : St} {i j k l : Nat} {x y : Int32} (h : i ≠ j) : sU (sU S i k x) j l y = sU (sU S j l y) i k x := by
  funext a
  by_cases q : a = i
  · subst q
    rw [sU_ne h, sU_eq, sU_eq, sU_ne h]
  · rw [sU_ne (i := i) q]
    by_cases q2 : a = j
    · subst q2
      rw [sU_eq, sU_eq, sU_ne q]
    · rw [sU_ne q2, sU_ne q2, sU_ne q]
theorem s15 {S : St} {p k p' k' : Nat} {x : Int32} (o : Nat) : sU S (o + p) k x (o + p') k' = if p' = p ∧ k' = k then x else S (o + p') k' := by
  by_cases q : p' = p
  · subst q
    rw [sU_eq]
    show (if k' = k then x else S (o + p') k') = _
    by_cases q2 : k' = k
    · rw [if_pos q2, if_pos ⟨rfl, q2⟩]
    · rw [if_neg q2, if_neg (fun z => q2 z.2)]
  · rw [sU_ne (by omega), if_neg (fun z => q z.1)]
theorem s11 {M : St} {o p k p' k' : Nat} {x : Int32} (hk : k < 8) (hk' : k' < 8) : sU M o (8 * p + k) x o (8 * p' + k') = if p' = p ∧ k' = k then x else M o (8 * p' + k') := by
  rw [sU_eq]
  show (if 8 * p' + k' = 8 * p + k then x else M o (8 * p' + k')) = _
  by_cases q : p' = p ∧ k' = k
  · rw [if_pos (show 8 * p' + k' = 8 * p + k by omega), if_pos q]
  · rw [if_neg (show ¬ (8 * p' + k' = 8 * p + k) by omega), if_neg q]
theorem RelR_c {n : Nat} {S S' : St} (h4 : S' 4 = S 4) (h5 : S' 5 = S 5) (h6 : S' 6 = S 6) (h10 : S' 10 = S 10) (h7 : ∀ j, S' 7 j = 1 → S 7 j = 1) (h8 : S' 8 = S 8) (h0 : S' 0 7 = S 0 7) (h : RelR n S) : RelR n S' := by
  obtain ⟨r1, r2, r3, r4, r5, r6⟩ := h
  unfold RelR cntC
  rw [h4, h5, h6, h10, h8, h0]
  exact ⟨r1, r2, r3, r4, fun j hj => r5 j (h7 j hj), r6⟩
/-- a bid is taken away -/
theorem Rel_bt {n : Nat} {S M : St} {p k : Nat} (hp : p < 5) (hk : k < 8) (h : Rel n S M) : Rel n (sU S (15 + p) k 0) (sU M 11 (8 * p + k) 0) := by
  obtain ⟨⟨e1, e2, e3, e4, e5, e6, e7, e8, e9, e10, e11⟩, hR, hB, hN, hD, hK, hH⟩ := h
  have f : ∀ i, i < 15 ∨ 19 < i → sU S (15 + p) k 0 i = S i := fun i hi => sU_ne (by omega)
  have f0 : ∀ q j, sU S (15 + p) k 0 (15 + q) j ≠ 0 → S (15 + q) j ≠ 0 := by
    intro q j hq
    rw [s15] at hq
    by_cases z : q = p ∧ j = k
    · rw [if_pos z] at hq; exact absurd rfl hq
    · rw [if_neg z] at hq; exact hq
  obtain ⟨n1, n2, n3, n4, n5, n6⟩ := hN
  refine ⟨⟨by rw [f 4 (by omega)]; exact e1, (f 5 (by omega)).trans e2, (f 6 (by omega)).trans e3, (f 7 (by omega)).trans e4, (f 8 (by omega)).trans e5, (f 10 (by omega)).trans e6, (f 11 (by omega)).trans e7, (f 12 (by omega)).trans e8, (f 1 (by omega)).trans e9, (f 3 (by omega)).trans e10, by rw [f 0 (by omega)]; exact e11⟩, RelR_c (f 4 (by omega)) (f 5 (by omega)) (f 6 (by omega)) (f 10 (by omega)) (fun j hj => by rw [f 7 (by omega)] at hj; exact hj) (f 8 (by omega)) (by rw [f 0 (by omega)]) hR, fun q j hq hj => ?_, ⟨by rw [f 0 (by omega)]; exact n1, n2, fun i hi => ?_, fun i j hi hj => ?_, fun q j hq hj hz => ?_, fun q r j hq hr hj hz hz2 => ?_⟩, RelD_c (f 2 (by omega)) rfl hD, fun q hq => ?_, RelH_c (n := n) (S := S) (f 26 (by omega)) (f 27 (by omega)) (f 28 (by omega)) (f 6 (by omega)) (f 4 (by omega)) (by rw [swc_congr (f 7 (by omega))]; omega) hH⟩
  · rw [s15, s11 hk hj]
    by_cases z : q = p ∧ j = k
    · rw [if_pos z, if_pos z, c_0]; exact ⟨rfl, by omega, by omega⟩
    · rw [if_neg z, if_neg z]; exact hB q j hq hj
  · rw [f 7 (by omega)] at hi
    rw [f 0 (by omega), f 9 (by omega)]
    exact n3 i hi
  · rw [f 7 (by omega)] at hi hj
    rw [f 9 (by omega)]
    exact n4 i j hi hj
  · rw [f (21 + q) (by omega), f 0 (by omega)]
    exact n5 q j hq hj (f0 q j hz)
  · rw [f (21 + q) (by omega), f (21 + r) (by omega)]
    exact n6 q r j hq hr hj (f0 q j hz) (f0 r j hz2)
  · rw [f 3 (by omega), f 4 (by omega)]
    exact hK q hq
/-- the reference's counter goes on -/
theorem Rel_nx {n : Nat} {S M : St} (hn : n < 512) (h : Rel n S M) : Rel (n + 1) S (sU M 0 13 (M 0 13 + 1)) := by
  have h2 := Rel_mono h
  have hb := h.2.2.2.1.2.1
  have e : (M 0 13 + 1).toInt = (M 0 13).toInt + 1 := by rw [i_add (by rw [c_1]; omega) (by rw [c_1]; omega), c_1]
  obtain ⟨hE, hR, hB, ⟨n1, n2, n3, n4, n5, n6⟩, hD, hK, hH⟩ := h2
  have a : sU M 0 13 (M 0 13 + 1) 0 13 = M 0 13 + 1 := rfl
  refine ⟨hE, hR, hB, ⟨n1, by rw [a, e]; omega, fun i hi => ?_, n4, fun p k hp hk hz => ?_, n6⟩, hD, hK, hH⟩
  · have := n3 i hi
    rw [a, e]
    exact ⟨this.1, by show (M 6 i).toInt ≤ _; omega⟩
  · have := n5 p k hp hk hz
    rw [a, e]
    exact ⟨this.1, by show (M 12 (8 * p + k)).toInt ≤ _; omega⟩
/-- a bid is put -/
theorem Rel_bp {n : Nat} {S M : St} {p k : Nat} {v : Int32} (hn : n < 512) (hp : p < 5) (hk : k < 8) (hv : inP v) (h : Rel n S M) : Rel (n + 1) (sU (sU (sU S (15 + p) k v) (21 + p) k (S 0 6)) 0 6 (S 0 6 + 1)) (sU (sU (sU M 0 13 (M 0 13 + 1)) 11 (8 * p + k) v) 12 (8 * p + k) (M 0 13 + 1)) := by
  have h2 := Rel_mono h
  obtain ⟨⟨e1, e2, e3, e4, e5, e6, e7, e8, e9, e10, e11⟩, hR, hB, -, hD, hK, hH⟩ := h2
  obtain ⟨n1, n2, n3, n4, n5, n6⟩ := h.2.2.2.1
  have c1 : (S 0 6 + 1).toInt = (S 0 6).toInt + 1 := by rw [i_add (by rw [c_1]; omega) (by rw [c_1]; omega), c_1]
  have c2 : (M 0 13 + 1).toInt = (M 0 13).toInt + 1 := by rw [i_add (by rw [c_1]; omega) (by rw [c_1]; omega), c_1]
  generalize hS : sU (sU (sU S (15 + p) k v) (21 + p) k (S 0 6)) 0 6 (S 0 6 + 1) = S'
  generalize hM : sU (sU (sU M 0 13 (M 0 13 + 1)) 11 (8 * p + k) v) 12 (8 * p + k) (M 0 13 + 1) = M'
  have f : ∀ i, 1 ≤ i → i < 15 ∨ 25 < i → S' i = S i := fun i h1 hi => by
    rw [← hS, sU_ne (by omega), sU_ne (by omega), sU_ne (by omega)]
  have f06 : S' 0 6 = S 0 6 + 1 := by rw [← hS]; rfl
  have f07 : S' 0 7 = S 0 7 := by
    rw [← hS]
    show sU (sU S (15 + p) k v) (21 + p) k (S 0 6) 0 7 = _
    rw [sU_ne (by omega), sU_ne (by omega)]
  have f15 : ∀ q j, q < 5 → S' (15 + q) j = if q = p ∧ j = k then v else S (15 + q) j := fun q j hq => by
    rw [← hS, sU_ne (by omega), sU_ne (by omega), s15]
  have f21 : ∀ q j, q < 5 → S' (21 + q) j = if q = p ∧ j = k then S 0 6 else S (21 + q) j := fun q j hq => by
    rw [← hS, sU_ne (by omega), s15]
    have : sU S (15 + p) k v (21 + q) = S (21 + q) := sU_ne (by omega)
    rw [this]
  have m11 : ∀ q j, j < 8 → M' 11 (8 * q + j) = if q = p ∧ j = k then v else M 11 (8 * q + j) := fun q j hj => by
    rw [← hM, sU_ne (by omega), s11 hk hj]; rfl
  have m12 : ∀ q j, j < 8 → M' 12 (8 * q + j) = if q = p ∧ j = k then M 0 13 + 1 else M 12 (8 * q + j) := fun q j hj => by
    rw [← hM, s11 hk hj]; rfl
  have m013 : M' 0 13 = M 0 13 + 1 := by rw [← hM]; rfl
  have g : ∀ i, 1 ≤ i → i ≠ 11 → i ≠ 12 → M' i = M i := fun i h1 h2 h3 => by
    rw [← hM, sU_ne h3, sU_ne h2, sU_ne (by omega)]
  have g0 : M' 0 0 = M 0 0 := by rw [← hM]; rfl
  have g10 : M' 0 10 = M 0 10 := by rw [← hM]; rfl
  clear hS hM
  refine ⟨⟨by rw [f 4 (by omega) (by omega), g10]; exact e1, by rw [f 5 (by omega) (by omega), g 2 (by omega) (by omega) (by omega)]; exact e2, by rw [f 6 (by omega) (by omega), g 3 (by omega) (by omega) (by omega)]; exact e3, by rw [f 7 (by omega) (by omega), g 4 (by omega) (by omega) (by omega)]; exact e4, by rw [f 8 (by omega) (by omega), g 5 (by omega) (by omega) (by omega)]; exact e5, by rw [f 10 (by omega) (by omega), g 7 (by omega) (by omega) (by omega)]; exact e6, by rw [f 11 (by omega) (by omega), g 8 (by omega) (by omega) (by omega)]; exact e7, by rw [f 12 (by omega) (by omega), g 9 (by omega) (by omega) (by omega)]; exact e8, by rw [f 1 (by omega) (by omega), g 1 (by omega) (by omega) (by omega)]; exact e9, by rw [f 3 (by omega) (by omega), g 15 (by omega) (by omega) (by omega)]; exact e10, by rw [f07, g0]; exact e11⟩, RelR_c (f 4 (by omega) (by omega)) (f 5 (by omega) (by omega)) (f 6 (by omega) (by omega)) (f 10 (by omega) (by omega)) (fun j hj => by rw [f 7 (by omega) (by omega)] at hj; exact hj) (f 8 (by omega) (by omega)) f07 hR, fun q j hq hj => ?_, ⟨by rw [f06, c1]; omega, by rw [m013, c2]; omega, fun i hi => ?_, fun i j hi hj => ?_, fun q j hq hj hz => ?_, fun q r j hq hr hj hz hz2 => ?_⟩, RelD_c (f 2 (by omega) (by omega)) (g 14 (by omega) (by omega) (by omega)) hD, fun q hq => ?_, RelH_c (n := n + 1) (S := S) (f 26 (by omega) (by omega)) (f 27 (by omega) (by omega)) (f 28 (by omega) (by omega)) (f 6 (by omega) (by omega)) (f 4 (by omega) (by omega)) (by rw [swc_congr (f 7 (by omega) (by omega))]; omega) hH⟩
  · rw [f15 q j hq, m11 q j hj]
    by_cases z : q = p ∧ j = k
    · unfold inP at hv
      rw [if_pos z, if_pos z]; exact ⟨rfl, by omega, by omega⟩
    · rw [if_neg z, if_neg z]; exact hB q j hq hj
  · rw [f 7 (by omega) (by omega)] at hi
    rw [f06, m013, c1, c2, f 9 (by omega) (by omega), g 6 (by omega) (by omega) (by omega)]
    have := n3 i hi
    omega
  · rw [f 7 (by omega) (by omega)] at hi hj
    rw [f 9 (by omega) (by omega), g 6 (by omega) (by omega) (by omega)]
    exact n4 i j hi hj
  · rw [f21 q j hq, m12 q j hj, f06, m013, c1, c2]
    rw [f15 q j hq] at hz
    by_cases z : q = p ∧ j = k
    · rw [if_pos z, if_pos z, c2]; omega
    · rw [if_neg z] at hz
      rw [if_neg z, if_neg z]
      have := n5 q j hq hj hz
      omega
  · rw [f21 q j hq, m12 q j hj, f21 r j hr, m12 r j hj]
    rw [f15 q j hq] at hz
    rw [f15 r j hr] at hz2
    by_cases z : q = p ∧ j = k
    · rw [if_pos z, if_pos z]
      by_cases z2 : r = p ∧ j = k
      · rw [if_pos z2, if_pos z2, i_lt, i_lt]; omega
      · rw [if_neg z2] at hz2
        rw [if_neg z2, if_neg z2, i_lt, i_lt, c2]
        have := n5 r j hr hj hz2
        omega
    · rw [if_neg z] at hz
      rw [if_neg z, if_neg z]
      by_cases z2 : r = p ∧ j = k
      · rw [if_pos z2, if_pos z2, i_lt, i_lt, c2]
        have := n5 q j hq hj hz
        omega
      · rw [if_neg z2] at hz2
        rw [if_neg z2, if_neg z2]
        exact n6 q r j hq hr hj hz hz2
  · rw [f 3 (by omega) (by omega), f 4 (by omega) (by omega)]
    exact hK q hq
theorem upd_at (f : Nat → Int32) (c j : Nat) (x : Int32) : upd f c x j = if j = c then x else f j := rfl
/-- a card is put to sale -/
theorem Rel_sp {n : Nat} {S M : St} {c : Nat} {v : Int32} (hn : n < 512) (hv : inP v) (h : Rel n S M) : Rel (n + 1) (sU (sU (sU (sU S 7 c 1) 8 c v) 9 c (S 0 6)) 0 6 (S 0 6 + 1)) (sU (sU (sU (sU M 0 13 (M 0 13 + 1)) 4 c 1) 5 c v) 6 c (M 0 13 + 1)) := by
  have h2 := Rel_mono h
  obtain ⟨⟨e1, e2, e3, e4, e5, e6, e7, e8, e9, e10, e11⟩, ⟨r1, r2, r3, r4, r5, r6⟩, hB, -, hD, hK, hH⟩ := h2
  obtain ⟨n1, n2, n3, n4, n5, n6⟩ := h.2.2.2.1
  have c1 : (S 0 6 + 1).toInt = (S 0 6).toInt + 1 := by rw [i_add (by rw [c_1]; omega) (by rw [c_1]; omega), c_1]
  have c2 : (M 0 13 + 1).toInt = (M 0 13).toInt + 1 := by rw [i_add (by rw [c_1]; omega) (by rw [c_1]; omega), c_1]
  have hw := swc_le (S := S) (c := c) (v := 1) (by decide) 30
  unfold inP at hv
  refine ⟨⟨e1, e2, e3, ?_, ?_, e6, e7, e8, e9, e10, e11⟩, ⟨r1, r2, r3, r4, fun j hj => ?_, r6⟩, RelB_c (fun i a b => ((sU_ne (by omega)).trans (sU_ne (by omega))).trans ((sU_ne (by omega)).trans (sU_ne (by omega)))) rfl hB, ⟨?_, ?_, fun i hi => ?_, fun i j hi hj => ?_, fun q j hq hj hz => ?_, fun q r j hq hr hj hz hz2 => ?_⟩, RelD_c rfl rfl hD, hK, RelH_c (n := n + 1) (S := S) rfl rfl rfl rfl rfl ?_ hH⟩
  · show upd (S 7) c 1 = upd (M 4) c 1
    rw [e4]
  · show upd (S 8) c v = upd (M 5) c v
    rw [e5]
  · replace hj : upd (S 7) c 1 j = 1 := hj
    show 1 ≤ (upd (S 8) c v j).toInt ∧ (upd (S 8) c v j).toInt ≤ 1000
    rw [upd_at] at hj ⊢
    by_cases z : j = c
    · rw [if_pos z]; exact hv
    · rw [if_neg z] at hj ⊢; exact r5 j hj
  · show 0 ≤ (S 0 6 + 1).toInt ∧ (S 0 6 + 1).toInt ≤ _
    rw [c1]; omega
  · show 0 ≤ (M 0 13 + 1).toInt ∧ (M 0 13 + 1).toInt ≤ _
    rw [c2]; omega
  · replace hi : upd (S 7) c 1 i = 1 := hi
    show (upd (S 9) c (S 0 6) i).toInt < (S 0 6 + 1).toInt ∧ (upd (M 6) c (M 0 13 + 1) i).toInt ≤ (M 0 13 + 1).toInt
    rw [upd_at] at hi
    rw [upd_at, upd_at, c1, c2]
    by_cases z : i = c
    · rw [if_pos z, if_pos z, c2]; omega
    · rw [if_neg z] at hi
      rw [if_neg z, if_neg z]
      have := n3 i hi
      omega
  · replace hi : upd (S 7) c 1 i = 1 := hi
    replace hj : upd (S 7) c 1 j = 1 := hj
    show upd (S 9) c (S 0 6) i < upd (S 9) c (S 0 6) j ↔ upd (M 6) c (M 0 13 + 1) i < upd (M 6) c (M 0 13 + 1) j
    rw [upd_at] at hi hj
    rw [upd_at, upd_at, upd_at, upd_at]
    by_cases z : i = c
    · rw [if_pos z, if_pos z]
      by_cases z2 : j = c
      · rw [if_pos z2, if_pos z2, i_lt, i_lt]; omega
      · rw [if_neg z2] at hj
        rw [if_neg z2, if_neg z2, i_lt, i_lt, c2]
        have := n3 j hj
        omega
    · rw [if_neg z] at hi
      rw [if_neg z, if_neg z]
      by_cases z2 : j = c
      · rw [if_pos z2, if_pos z2, i_lt, i_lt, c2]
        have := n3 i hi
        omega
      · rw [if_neg z2] at hj
        rw [if_neg z2, if_neg z2]
        exact n4 i j hi hj
  · have a : ∀ i, 15 ≤ i → sU (sU (sU (sU S 7 c 1) 8 c v) 9 c (S 0 6)) 0 6 (S 0 6 + 1) i = S i := fun i hi => ((sU_ne (by omega)).trans (sU_ne (by omega))).trans ((sU_ne (by omega)).trans (sU_ne (by omega)))
    rw [a (15 + q) (by omega)] at hz
    rw [a (21 + q) (by omega)]
    have := n5 q j hq hj hz
    show (S (21 + q) j).toInt < (S 0 6 + 1).toInt ∧ (M 12 (8 * q + j)).toInt ≤ (M 0 13 + 1).toInt
    rw [c1, c2]
    omega
  · have a : ∀ i, 15 ≤ i → sU (sU (sU (sU S 7 c 1) 8 c v) 9 c (S 0 6)) 0 6 (S 0 6 + 1) i = S i := fun i hi => ((sU_ne (by omega)).trans (sU_ne (by omega))).trans ((sU_ne (by omega)).trans (sU_ne (by omega)))
    rw [a (15 + q) (by omega)] at hz
    rw [a (15 + r) (by omega)] at hz2
    rw [a (21 + q) (by omega), a (21 + r) (by omega)]
    exact n6 q r j hq hr hj hz hz2
  · have e : swc (sU (sU (sU (sU S 7 c 1) 8 c v) 9 c (S 0 6)) 0 6 (S 0 6 + 1)) 30 = swc (sU S 7 c 1) 30 := swc_congr rfl 30
    omega
theorem sim_cancelBid {n : Nat} {S M : St} (h : Rel n S M) (hn : n < 512) (p1 p2 : Int32) : r_X4_thrown (s_X4_cancelBid M p1 p2) = k_L_cancelBid S p1 p2 ∧ (k_L_cancelBid S p1 p2 = 0 → ∀ F : Nat → Int64, f_L_cancelBid S p1 p2 F 0 = (r_X4_cancelBid M p1 p2).toInt64) ∧ Rel (n + 1) (s_L_cancelBid S p1 p2) (s_X4_cancelBid M p1 p2) := by
  obtain ⟨x10, x2, x3, x4, x5, x7, x8, x9, x1, x15, x0⟩ := h.1
  by_cases hp : vp_in p1 5
  · have e1 := np_t hp
    have e2 := ip_t hp
    by_cases hk : vp_in p2 8
    · have e3 := nk_t hk
      have e4 := ik_t hk
      have hb := h.2.2.1 p1.toNatClampNeg p2.toNatClampNeg (vp_lt hp) (vp_lt hk)
      have ei := idx hp hk
      by_cases h1 : S (15 + p1.toNatClampNeg) p2.toNatClampNeg = 0
      · have h2 : M 11 (8 * p1 + p2).toNatClampNeg ≤ 0 := by rw [ei, ← hb.1, h1]; decide
        exact fail3 h (v := 2) (by decide) (by simp [s_X4_cancelBid, as2, ar2, e2, e4, h2]) (by simp [k_L_cancelBid, x_X3_cancelBid, e1, e3, r_X0_has, h1, ne31]) (by simp [s_L_cancelBid, x_X3_cancelBid, e1, e3, r_X0_has, h1])
      · have h2 : ¬ M 11 (8 * p1 + p2).toNatClampNeg ≤ 0 := by
          rw [ei, ← hb.1, i_le, c_0]
          rw [i_eq, c_0] at h1
          omega
        have hx : x_X3_cancelBid S p1 p2 = none := by simp [x_X3_cancelBid, e1, e3, r_X0_has, h1]
        have hM : s_X4_cancelBid M p1 p2 = sU (sU (sU M 0 16 0) 1 p1.toNatClampNeg (M 1 p1.toNatClampNeg + M 11 (8 * p1 + p2).toNatClampNeg)) 11 (8 * p1 + p2).toNatClampNeg 0 := by
          simp [s_X4_cancelBid, as2, ar2, e2, e4, h2]
          rfl
        have hS : s_L_cancelBid S p1 p2 = sU (sU S (15 + p1.toNatClampNeg) p2.toNatClampNeg 0) 1 p1.toNatClampNeg (S 1 p1.toNatClampNeg + S (15 + p1.toNatClampNeg) p2.toNatClampNeg) := by
          simp only [s_L_cancelBid, hx, s_X3_cancelBid, e1, e3, r_X0_has, h1, s_X3_giveBidBack, s_X0_take, r_X0_take, if_true, if_false]
          rw [sU_ne (b := 1) (by omega)]
          rfl
        have hr : r_X3_cancelBid S p1 p2 = r_X4_cancelBid M p1 p2 := by
          have a1 : r_X3_cancelBid S p1 p2 = S (15 + p1.toNatClampNeg) p2.toNatClampNeg := by simp [r_X3_cancelBid, e1, e3, r_X0_has, h1, r_X3_giveBidBack, r_X0_take]
          have a2 : r_X4_cancelBid M p1 p2 = M 11 (8 * p1 + p2).toNatClampNeg := by
            simp [r_X4_cancelBid, as2, ar2, e2, e4, h2]
            rfl
          rw [a1, a2, ei]; exact hb.1
        refine good3 (by simp [k_L_cancelBid, hx]) (by rw [hM]; rfl) (fun F => by simp [f_L_cancelBid, hx, vp_updL, hr]) ?_
        rw [hM, hS, ei, ← hb.1, ← x1, sU_comm (by omega)]
        have := Rel_bt (vp_lt hp) (vp_lt hk) (Rel_co (c := p1.toNatClampNeg) (x := S 1 p1.toNatClampNeg + S (15 + p1.toNatClampNeg) p2.toNatClampNeg) (Rel_thr 0 (Rel_mono h)))
        exact this
    · have e3 := nk_f hk
      have e4 := ik_f hk
      exact fail3 h (v := 1) (by decide) (by simp [s_X4_cancelBid, as2, ar2, e2, e4]) (by simp [k_L_cancelBid, x_X3_cancelBid, e1, e3]) (by simp [s_L_cancelBid, x_X3_cancelBid, e1, e3])
  · have e1 := np_f hp
    have e2 := ip_f hp
    exact fail3 h (v := 1) (by decide) (by simp [s_X4_cancelBid, as2, ar2, e2]) (by simp [k_L_cancelBid, x_X3_cancelBid, e1]) (by simp [s_L_cancelBid, x_X3_cancelBid, e1])
