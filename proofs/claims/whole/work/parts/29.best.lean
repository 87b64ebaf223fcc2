theorem sub_1000 {x y : Int32} (hx : 0 ≤ x.toInt ∧ x.toInt ≤ 1000) (hy : 0 ≤ y.toInt ∧ y.toInt ≤ 1000) : (0 < x - y ↔ y < x) ∧ (x - y = 0 ↔ x = y) := by
  have e : (x - y).toInt = x.toInt - y.toInt := i_sub (by omega) (by omega)
  constructor
  · rw [i_lt, i_lt, e, c_0]; omega
  · rw [i_eq, i_eq, e, c_0]; omega
theorem nI_m1 {j : Nat} (hj : j < 2 ^ 31) : nI j ≠ -1 := by
  intro q
  have := congrArg Int32.toInt q
  rw [nI_toInt hj, c_m1] at this
  omega
theorem nlt {x y : Int32} : ¬ x < y ↔ y ≤ x := by
  rw [i_lt, i_le]; omega
theorem offer_lp {n : Nat} {S M : St} (h : Rel n S M) (k o : Int32) (m : Nat) (hm : m ≤ 30) : lp1_X1_bestSale S k o m = lp1_X4_offer M k o m ∧ (lp1_X1_bestSale S k o m = -1 ∨ ∃ j, j < m ∧ lp1_X1_bestSale S k o m = nI j ∧ S 7 j = 1 ∧ S 5 j = k ∧ S 6 j ≠ o) := by
  obtain ⟨x10, x2, x3, x4, x5, x7, x8, x9, x1, x15, x0⟩ := h.1
  induction m with
  | zero => exact ⟨rfl, Or.inl rfl⟩
  | succ m ih =>
    obtain ⟨i1, i2⟩ := ih (by omega)
    rw [e_lp1_X1_bestSale, e_lp1_X4_offer, ← i1]
    have hw : lp1_X1_bestSale S k o m = -1 ∨ ∃ j, j < m + 1 ∧ lp1_X1_bestSale S k o m = nI j ∧ S 7 j = 1 ∧ S 5 j = k ∧ S 6 j ≠ o := by
      rcases i2 with q | ⟨j, a, b⟩
      · exact Or.inl q
      · exact Or.inr ⟨j, by omega, b⟩
    generalize lp1_X1_bestSale S k o m = q at i2 hw
    unfold st1_X1_bestSale st1_X4_offer r_X1_isOnSale
    rw [nI_clamp (show m < 2 ^ 31 by omega), ← x4, ← x2, ← x3, ← x5]
    by_cases h1 : S 7 m = 1
    · rw [if_pos h1, if_pos h1]
      by_cases h2 : S 5 m = k
      · rw [if_pos h2, if_pos h2, if_neg (show ¬ (1 : Int32) = 0 by decide)]
        by_cases h3 : S 6 m = o
        · rw [if_pos h3, if_pos h3]
          exact ⟨rfl, hw⟩
        · rw [if_neg h3, if_neg h3]
          have hnew : nI m = -1 ∨ ∃ j, j < m + 1 ∧ nI m = nI j ∧ S 7 j = 1 ∧ S 5 j = k ∧ S 6 j ≠ o := Or.inr ⟨m, by omega, rfl, h1, h2, h3⟩
          rcases i2 with z | ⟨j, a, b, d1, d2, d3⟩
          · rw [if_pos z, if_pos z]
            exact ⟨rfl, hnew⟩
          · have hq : ¬ q = -1 := by rw [b]; exact nI_m1 (by omega)
            rw [if_neg hq, if_neg hq]
            have hj : q.toNatClampNeg = j := by rw [b]; exact nI_clamp (by omega)
            unfold r_X1_saleIsBefore
            rw [hj, nI_clamp (show m < 2 ^ 31 by omega)]
            have pj := h.2.1.2.2.2.2.1 j d1
            have pm := h.2.1.2.2.2.2.1 m h1
            obtain ⟨s1, s2⟩ := sub_1000 (x := S 8 j) (y := S 8 m) (by omega) (by omega)
            have ho := h.2.2.2.1.2.2.2.1 m j h1 d1
            by_cases g1 : S 8 m < S 8 j
            · rw [if_pos g1, if_neg (show ¬ (1 : Int32) = 0 by decide), if_pos (s1.mpr g1)]
              exact ⟨rfl, hnew⟩
            · rw [if_neg g1, if_neg (fun z => g1 (s1.mp z))]
              by_cases g2 : S 8 m = S 8 j
              · rw [if_pos g2, if_pos (s2.mpr g2.symm)]
                by_cases g3 : S 9 j ≤ S 9 m
                · rw [if_pos g3, if_pos (show (0 : Int32) = 0 from rfl), if_pos (nlt.mp fun z => nlt.mpr g3 (ho.mpr z))]
                  exact ⟨rfl, hw⟩
                · rw [if_neg g3, if_neg (show ¬ (1 : Int32) = 0 by decide), if_neg (fun z => g3 (nlt.mp fun z2 => nlt.mpr z (ho.mp z2)))]
                  exact ⟨rfl, hnew⟩
              · rw [if_neg g2, if_pos (show (0 : Int32) = 0 from rfl), if_neg (fun z => g2 (s2.mp z).symm)]
                exact ⟨rfl, hw⟩
      · rw [if_neg h2, if_neg h2, if_pos (show (0 : Int32) = 0 from rfl)]
        exact ⟨rfl, hw⟩
    · rw [if_neg h1, if_neg h1, if_pos (show (0 : Int32) = 0 from rfl)]
      exact ⟨rfl, hw⟩
theorem offer_eq {n : Nat} {S M : St} (h : Rel n S M) (k o : Int32) : r_X1_bestSale S k o = r_X4_offer M k o ∧ (r_X1_bestSale S k o = -1 ∨ ∃ j, j < (S 4 8).toNatClampNeg ∧ r_X1_bestSale S k o = nI j ∧ S 7 j = 1 ∧ S 5 j = k ∧ S 6 j ≠ o) := by
  have hc := h.hcnt
  unfold cntC at hc
  have := i_nat hc.1
  unfold r_X1_bestSale r_X4_offer
  rw [← h.1.1]
  exact offer_lp h k o _ (by omega)
theorem bidder_lp {n : Nat} {S M : St} (h : Rel n S M) {k : Int32} (hk : vp_in k 8) (o : Int32) (m : Nat) (hm : m ≤ 5) : lp1_X0_bestBidder S k o m = lp1_X4_bidder M k o m ∧ (lp1_X0_bestBidder S k o m = -1 ∨ ∃ j, j < m ∧ lp1_X0_bestBidder S k o m = nI j ∧ S (15 + j) k.toNatClampNeg ≠ 0 ∧ nI j ≠ o) := by
  have hk8 := vp_lt hk
  induction m with
  | zero => exact ⟨rfl, Or.inl rfl⟩
  | succ m ih =>
    obtain ⟨i1, i2⟩ := ih (by omega)
    rw [e_lp1_X0_bestBidder, e_lp1_X4_bidder, ← i1]
    have hw : lp1_X0_bestBidder S k o m = -1 ∨ ∃ j, j < m + 1 ∧ lp1_X0_bestBidder S k o m = nI j ∧ S (15 + j) k.toNatClampNeg ≠ 0 ∧ nI j ≠ o := by
      rcases i2 with q | ⟨j, a, b⟩
      · exact Or.inl q
      · exact Or.inr ⟨j, by omega, b⟩
    generalize lp1_X0_bestBidder S k o m = q at i2 hw
    have em : (8 * nI m + k).toNatClampNeg = 8 * m + k.toNatClampNeg := by
      rw [idx (vp_in_nI (by omega) (by decide)) hk, nI_clamp (by omega)]
    have hbm := h.2.2.1 m k.toNatClampNeg (by omega) hk8
    unfold st1_X0_bestBidder st1_X4_bidder r_X0_has
    rw [nI_clamp (show m < 2 ^ 31 by omega), em, ← hbm.1]
    by_cases h1 : S (15 + m) k.toNatClampNeg = 0
    · rw [if_pos h1, if_pos (show (0 : Int32) = 0 from rfl), if_pos (show S (15 + m) k.toNatClampNeg ≤ 0 by rw [h1]; decide), ite_self]
      exact ⟨rfl, hw⟩
    · have h1b : ¬ S (15 + m) k.toNatClampNeg ≤ 0 := by
        rw [i_eq, c_0] at h1
        rw [i_le, c_0]; omega
      rw [if_neg h1, if_neg (show ¬ (1 : Int32) = 0 by decide), if_neg h1b]
      by_cases h3 : nI m = o
      · rw [if_pos h3, if_pos h3]
        exact ⟨rfl, hw⟩
      · rw [if_neg h3, if_neg h3]
        have hnew : nI m = -1 ∨ ∃ j, j < m + 1 ∧ nI m = nI j ∧ S (15 + j) k.toNatClampNeg ≠ 0 ∧ nI j ≠ o := Or.inr ⟨m, by omega, rfl, h1, h3⟩
        rcases i2 with z | ⟨j, a, b, d1, d2⟩
        · rw [if_pos z, if_pos z]
          exact ⟨rfl, hnew⟩
        · have hq : ¬ q = -1 := by rw [b]; exact nI_m1 (by omega)
          rw [if_neg hq, if_neg hq]
          have hj : q.toNatClampNeg = j := by rw [b]; exact nI_clamp (by omega)
          have ej : (8 * q + k).toNatClampNeg = 8 * j + k.toNatClampNeg := by
            rw [b, idx (vp_in_nI (by omega) (by decide)) hk, nI_clamp (by omega)]
          have hbj := h.2.2.1 j k.toNatClampNeg (by omega) hk8
          unfold r_X0_isBefore
          rw [hj, ej, nI_clamp (show m < 2 ^ 31 by omega), ← hbj.1]
          obtain ⟨s1, s2⟩ := sub_1000 (x := S (15 + m) k.toNatClampNeg) (y := S (15 + j) k.toNatClampNeg) (by omega) (by omega)
          have ho := h.2.2.2.1.2.2.2.2.2 m j k.toNatClampNeg (by omega) (by omega) hk8 h1 d1
          by_cases g1 : S (15 + j) k.toNatClampNeg < S (15 + m) k.toNatClampNeg
          · rw [if_pos g1, if_neg (show ¬ (1 : Int32) = 0 by decide), if_pos (s1.mpr g1)]
            exact ⟨rfl, hnew⟩
          · rw [if_neg g1, if_neg (fun z => g1 (s1.mp z))]
            by_cases g2 : S (15 + m) k.toNatClampNeg = S (15 + j) k.toNatClampNeg
            · rw [if_pos g2, if_pos (s2.mpr g2)]
              by_cases g3 : S (21 + j) k.toNatClampNeg ≤ S (21 + m) k.toNatClampNeg
              · rw [if_pos g3, if_pos (show (0 : Int32) = 0 from rfl), if_pos (nlt.mp fun z => nlt.mpr g3 (ho.mpr z))]
                exact ⟨rfl, hw⟩
              · rw [if_neg g3, if_neg (show ¬ (1 : Int32) = 0 by decide), if_neg (fun z => g3 (nlt.mp fun z2 => nlt.mpr z (ho.mp z2)))]
                exact ⟨rfl, hnew⟩
            · rw [if_neg g2, if_pos (show (0 : Int32) = 0 from rfl), if_neg (fun z => g2 (s2.mp z))]
              exact ⟨rfl, hw⟩
theorem bidder_eq {n : Nat} {S M : St} (h : Rel n S M) {k : Int32} (hk : vp_in k 8) (o : Int32) : r_X0_bestBidder S k o = r_X4_bidder M k o ∧ (r_X0_bestBidder S k o = -1 ∨ ∃ j, j < 5 ∧ r_X0_bestBidder S k o = nI j ∧ S (15 + j) k.toNatClampNeg ≠ 0 ∧ nI j ≠ o) := bidder_lp h hk o 5 (Nat.le_refl _)
theorem sim_leastSale {n : Nat} {S M : St} (h : Rel n S M) (hn : n < 512) (p1 : Int32) : r_X4_thrown (s_X4_leastSale M p1) = k_L_leastSale S p1 ∧ (k_L_leastSale S p1 = 0 → ∀ F : Nat → Int64, f_L_leastSale S p1 F 0 = (r_X4_leastSale M p1).toInt64) ∧ Rel (n + 1) S (s_X4_leastSale M p1) := by
  by_cases hc : vp_in p1 8
  · have e1 := nk_t hc
    have e2 := ik_t hc
    have hx : x_X3_leastSale S p1 = none := by simp [x_X3_leastSale, e1]
    have hM : s_X4_leastSale M p1 = sU M 0 16 0 := by simp [s_X4_leastSale, as1, ar1, e2]
    have ho := (offer_eq (Rel_thr 0 h) p1 (-1)).1
    have hr : r_X3_leastSale S p1 = r_X4_leastSale M p1 := by
      have a2 : r_X4_leastSale M p1 = if r_X4_offer (sU M 0 16 0) p1 (-1) = -1 then -1 else (sU M 0 16 0) 5 (r_X4_offer (sU M 0 16 0) p1 (-1)).toNatClampNeg := by
        simp [r_X4_leastSale, as1, ar1, e2]
      have a1 : r_X3_leastSale S p1 = if r_X1_bestSale S p1 (-1) = -1 then -1 else S 8 (r_X1_bestSale S p1 (-1)).toNatClampNeg := by
        simp [r_X3_leastSale, e1]
      have a3 : (sU M 0 16 0) 5 = S 8 := h.1.2.2.2.2.1.symm
      rw [a1, a2, ← ho, a3]
    refine good3 (by simp [k_L_leastSale, hx]) (by rw [hM]; rfl) (fun F => by simp [f_L_leastSale, hx, vp_updL, hr]) ?_
    rw [hM]
    exact Rel_thr _ (Rel_mono h)
  · have e1 := nk_f hc
    have e2 := ik_f hc
    exact fail3 h (v := 1) (by decide) (by simp [s_X4_leastSale, as1, ar1, e2]) (by simp [k_L_leastSale, x_X3_leastSale, e1]) rfl
theorem sim_greatestBid {n : Nat} {S M : St} (h : Rel n S M) (hn : n < 512) (p1 : Int32) : r_X4_thrown (s_X4_greatestBid M p1) = k_L_greatestBid S p1 ∧ (k_L_greatestBid S p1 = 0 → ∀ F : Nat → Int64, f_L_greatestBid S p1 F 0 = (r_X4_greatestBid M p1).toInt64) ∧ Rel (n + 1) S (s_X4_greatestBid M p1) := by
  by_cases hc : vp_in p1 8
  · have e1 := nk_t hc
    have e2 := ik_t hc
    have hx : x_X3_greatestBid S p1 = none := by simp [x_X3_greatestBid, e1]
    have hM : s_X4_greatestBid M p1 = sU M 0 16 0 := by simp [s_X4_greatestBid, as1, ar1, e2]
    obtain ⟨ho, hj⟩ := bidder_eq (Rel_thr 0 h) hc (-1)
    have hr : r_X3_greatestBid S p1 = r_X4_greatestBid M p1 := by
      have a2 : r_X4_greatestBid M p1 = if r_X4_bidder (sU M 0 16 0) p1 (-1) = -1 then -1 else (sU M 0 16 0) 11 (8 * (r_X4_bidder (sU M 0 16 0) p1 (-1)) + p1).toNatClampNeg := by
        simp [r_X4_greatestBid, as1, ar1, e2]
      have a1 : r_X3_greatestBid S p1 = if r_X0_bestBidder S p1 (-1) = -1 then -1 else S (15 + (r_X0_bestBidder S p1 (-1)).toNatClampNeg) p1.toNatClampNeg := by
        simp [r_X3_greatestBid, e1]
      rw [a1, a2, ← ho]
      rcases hj with z | ⟨j, b1, b2, b3, b4⟩
      · rw [if_pos z, if_pos z]
      · have hq : ¬ r_X0_bestBidder S p1 (-1) = -1 := by rw [b2]; exact nI_m1 (by omega)
        rw [if_neg hq, if_neg hq, b2, idx (vp_in_nI b1 (by decide)) hc, nI_clamp (by omega)]
        exact (h.2.2.1 j p1.toNatClampNeg b1 (vp_lt hc)).1
    refine good3 (by simp [k_L_greatestBid, hx]) (by rw [hM]; rfl) (fun F => by simp [f_L_greatestBid, hx, vp_updL, hr]) ?_
    rw [hM]
    exact Rel_thr _ (Rel_mono h)
  · have e1 := nk_f hc
    have e2 := ik_f hc
    exact fail3 h (v := 1) (by decide) (by simp [s_X4_greatestBid, as1, ar1, e2]) (by simp [k_L_greatestBid, x_X3_greatestBid, e1]) rfl
