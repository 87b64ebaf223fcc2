theorem sim_bid {n : Nat} {S M : St} (h : Rel n S M) (hn : n < 512) (p1 p2 p3 : Int32) : r_X4_thrown (s_X4_bid M p1 p2 p3) = k_L_bid S p1 p2 p3 ∧ (k_L_bid S p1 p2 p3 = 0 → ∀ F : Nat → Int64, f_L_bid S p1 p2 p3 F 0 = (r_X4_bid M p1 p2 p3).toInt64) ∧ Rel (n + 1) (s_L_bid S p1 p2 p3) (s_X4_bid M p1 p2 p3) := by
  obtain ⟨x10, x2, x3, x4, x5, x7, x8, x9, x1, x15, x0⟩ := h.1
  by_cases hp : vp_in p1 5
  · have e1 := np_t hp
    have e2 := ip_t hp
    by_cases hk : vp_in p2 8
    · have e3 := nk_t hk
      have e4 := ik_t hk
      by_cases hx : inP p3
      · have e5 := nx_t hx
        have e6 := ix_t hx
        have ei := idx hp hk
        have hbb := (h.2.2.1 p1.toNatClampNeg p2.toNatClampNeg (vp_lt hp) (vp_lt hk)).1
        have hb := ban_eq h (by omega) hk
        by_cases h1 : S 1 p1.toNatClampNeg < p3
        · have h2 : M 1 p1.toNatClampNeg < p3 := by rw [← x1]; exact h1
          exact fail3 h (v := 3) (by decide) (by simp [s_X4_bid, as3, ar3, e2, e4, e6, h2]) (by simp [k_L_bid, x_X3_bid, e1, e3, e5, h1, ne31, ne32]) (by simp [s_L_bid, x_X3_bid, e1, e3, e5, h1])
        · have h2 : ¬ M 1 p1.toNatClampNeg < p3 := by rw [← x1]; exact h1
          by_cases h3 : S (15 + p1.toNatClampNeg) p2.toNatClampNeg = 0
          · have h4 : M 11 (8 * p1 + p2).toNatClampNeg = 0 := by rw [ei, ← hbb]; exact h3
            by_cases h5 : r_X4_banned M p2 = 0
            · rw [h5] at hb
              have hT : Rel (n + 1) S (sU (sU M 0 16 0) 0 13 (M 0 13 + 1)) := Rel_nx hn (Rel_thr 0 h)
              obtain ⟨hq, hj⟩ := offer_eq hT p2 p1
              have hMs : s_X4_bid M p1 p2 p3 = if (r_X4_offer (sU (sU M 0 16 0) 0 13 (M 0 13 + 1)) p2 p1) = -1 then sU (sU (sU (sU (sU M 0 16 0) 0 13 (M 0 13 + 1)) 1 p1.toNatClampNeg (M 1 p1.toNatClampNeg - p3)) 11 (8 * p1 + p2).toNatClampNeg p3) 12 (8 * p1 + p2).toNatClampNeg (M 0 13 + 1) else if p3 < M 5 (r_X4_offer (sU (sU M 0 16 0) 0 13 (M 0 13 + 1)) p2 p1).toNatClampNeg then sU (sU (sU (sU (sU M 0 16 0) 0 13 (M 0 13 + 1)) 1 p1.toNatClampNeg (M 1 p1.toNatClampNeg - p3)) 11 (8 * p1 + p2).toNatClampNeg p3) 12 (8 * p1 + p2).toNatClampNeg (M 0 13 + 1) else sU (sU (sU (sU (sU (sU M 0 16 0) 0 13 (M 0 13 + 1)) 1 p1.toNatClampNeg (M 1 p1.toNatClampNeg - M 5 (r_X4_offer (sU (sU M 0 16 0) 0 13 (M 0 13 + 1)) p2 p1).toNatClampNeg)) 1 (M 3 (r_X4_offer (sU (sU M 0 16 0) 0 13 (M 0 13 + 1)) p2 p1).toNatClampNeg).toNatClampNeg ((if (M 3 (r_X4_offer (sU (sU M 0 16 0) 0 13 (M 0 13 + 1)) p2 p1).toNatClampNeg).toNatClampNeg = p1.toNatClampNeg then M 1 p1.toNatClampNeg - M 5 (r_X4_offer (sU (sU M 0 16 0) 0 13 (M 0 13 + 1)) p2 p1).toNatClampNeg else M 1 (M 3 (r_X4_offer (sU (sU M 0 16 0) 0 13 (M 0 13 + 1)) p2 p1).toNatClampNeg).toNatClampNeg) + M 5 (r_X4_offer (sU (sU M 0 16 0) 0 13 (M 0 13 + 1)) p2 p1).toNatClampNeg)) 3 (r_X4_offer (sU (sU M 0 16 0) 0 13 (M 0 13 + 1)) p2 p1).toNatClampNeg p1) 4 (r_X4_offer (sU (sU M 0 16 0) 0 13 (M 0 13 + 1)) p2 p1).toNatClampNeg 0 := by
                simp [s_X4_bid, as3, ar3, e2, e4, e6, h2, h4, h5, sU_ne, sU_eq, upd_at]
              have hMr : r_X4_bid M p1 p2 p3 = if (r_X4_offer (sU (sU M 0 16 0) 0 13 (M 0 13 + 1)) p2 p1) = -1 then -1 else if p3 < M 5 (r_X4_offer (sU (sU M 0 16 0) 0 13 (M 0 13 + 1)) p2 p1).toNatClampNeg then -1 else (r_X4_offer (sU (sU M 0 16 0) 0 13 (M 0 13 + 1)) p2 p1) := by
                simp [r_X4_bid, as3, ar3, e2, e4, e6, h2, h4, h5, sU_ne, sU_eq, upd_at]
              have hxx : x_X3_bid S p1 p2 p3 = none := by simp [x_X3_bid, e1, e3, e5, h1, r_X0_has, h3, hb]
              have hSs : s_L_bid S p1 p2 p3 = if (r_X1_bestSale S p2 p1) = -1 then sU (sU (sU (sU S 1 p1.toNatClampNeg (S 1 p1.toNatClampNeg - p3)) (15 + p1.toNatClampNeg) p2.toNatClampNeg p3) (21 + p1.toNatClampNeg) p2.toNatClampNeg (S 0 6)) 0 6 (S 0 6 + 1) else if S 8 (r_X1_bestSale S p2 p1).toNatClampNeg ≤ p3 then s_X3_giveTo (sU (sU (sU S 7 (r_X1_bestSale S p2 p1).toNatClampNeg 0) 1 p1.toNatClampNeg (S 1 p1.toNatClampNeg - S 8 (r_X1_bestSale S p2 p1).toNatClampNeg)) 1 (S 6 (r_X1_bestSale S p2 p1).toNatClampNeg).toNatClampNeg ((if (S 6 (r_X1_bestSale S p2 p1).toNatClampNeg).toNatClampNeg = p1.toNatClampNeg then S 1 p1.toNatClampNeg - S 8 (r_X1_bestSale S p2 p1).toNatClampNeg else S 1 (S 6 (r_X1_bestSale S p2 p1).toNatClampNeg).toNatClampNeg) + S 8 (r_X1_bestSale S p2 p1).toNatClampNeg)) (r_X1_bestSale S p2 p1) p1 else sU (sU (sU (sU S 1 p1.toNatClampNeg (S 1 p1.toNatClampNeg - p3)) (15 + p1.toNatClampNeg) p2.toNatClampNeg p3) (21 + p1.toNatClampNeg) p2.toNatClampNeg (S 0 6)) 0 6 (S 0 6 + 1) := by
                simp only [s_L_bid, hxx, s_X3_bid, e1, e3, e5, h1, r_X0_has, h3, hb, s_X0_put, if_true, if_false, r_X1_takeSale, s_X1_takeSale]
                have z : sU (sU (sU S 1 p1.toNatClampNeg (S 1 p1.toNatClampNeg - p3)) (15 + p1.toNatClampNeg) p2.toNatClampNeg p3) (21 + p1.toNatClampNeg) p2.toNatClampNeg (S 0 6) 0 = S 0 := by
                  rw [sU_ne (by omega), sU_ne (by omega), sU_ne (by omega)]
                have z2 : sU S 1 p1.toNatClampNeg (S 1 p1.toNatClampNeg - p3) 0 = S 0 := rfl
                rw [z2, z]
                rfl
              have hSr : r_X3_bid S p1 p2 p3 = if (r_X1_bestSale S p2 p1) = -1 then -1 else if S 8 (r_X1_bestSale S p2 p1).toNatClampNeg ≤ p3 then (r_X1_bestSale S p2 p1) else -1 := by
                simp [r_X3_bid, e1, e3, e5, h1, r_X0_has, h3, hb]
              rw [← hq] at hMs hMr
              rw [ei, ← x1, ← x3, ← x5] at hMs
              rw [← x5] at hMr
              have hkk : k_L_bid S p1 p2 p3 = 0 := by simp [k_L_bid, hxx]
              have hput : Rel (n + 1) (sU (sU (sU (sU S 1 p1.toNatClampNeg (S 1 p1.toNatClampNeg - p3)) (15 + p1.toNatClampNeg) p2.toNatClampNeg p3) (21 + p1.toNatClampNeg) p2.toNatClampNeg (S 0 6)) 0 6 (S 0 6 + 1)) (sU (sU (sU (sU (sU M 0 16 0) 0 13 (M 0 13 + 1)) 1 p1.toNatClampNeg (S 1 p1.toNatClampNeg - p3)) 11 (8 * p1.toNatClampNeg + p2.toNatClampNeg) p3) 12 (8 * p1.toNatClampNeg + p2.toNatClampNeg) (M 0 13 + 1)) := by
                rw [sU_comm (i := 0) (j := 1) (by decide)]
                exact Rel_bp hn (vp_lt hp) (vp_lt hk) hx (Rel_co (c := p1.toNatClampNeg) (x := S 1 p1.toNatClampNeg - p3) (Rel_thr 0 h))
              generalize r_X1_bestSale S p2 p1 = q at hMs hMr hSs hSr hj
              rcases hj with z | ⟨j, b1, b2, b3, b4, b5⟩
              · rw [if_pos z] at hMs hMr hSs hSr
                refine good3 hkk (by rw [hMs]; rfl) (fun F => by simp [f_L_bid, hxx, vp_updL, hMr, hSr]) ?_
                rw [hMs, hSs]
                exact hput
              · have hcn := h.hcnt
                unfold cntC at hcn
                have hcc := i_nat hcn.1
                have hnq : ¬ q = -1 := by rw [b2]; exact nI_m1 (by omega)
                rw [if_neg hnq] at hMs hMr hSs hSr
                have hc : inC S q := by
                  unfold inC
                  rw [b2, nI_toInt (by omega)]
                  omega
                have hqj : q.toNatClampNeg = j := by rw [b2, nI_clamp (by omega)]
                rw [hqj] at hMs hSs hMr hSr
                by_cases g : S 8 j ≤ p3
                · rw [if_pos g] at hSs hSr
                  rw [if_neg (fun y => nlt.mpr g y)] at hMs hMr
                  refine good3 hkk (by rw [hMs]; rfl) (fun F => by simp [f_L_bid, hxx, vp_updL, hMr, hSr]) ?_
                  rw [hMs, hSs]
                  generalize ((if (S 6 j).toNatClampNeg = p1.toNatClampNeg then S 1 p1.toNatClampNeg - S 8 j else S 1 (S 6 j).toNatClampNeg) + S 8 j) = cv
                  generalize S 1 p1.toNatClampNeg - S 8 j = cw
                  generalize (S 6 j).toNatClampNeg = ow
                  have g1 := Rel_co (c := ow) (x := cv) (Rel_co (c := p1.toNatClampNeg) (x := cw) (Rel_st (c := j) (v := 0) (by decide) (by decide) hT))
                  have hH := h.2.2.2.2.2.2.2.1
                  have hw := swc_le (S := S) (c := j) (v := 0) (by decide) 30
                  have hw2 : swc (sU (sU (sU S 7 j 0) 1 p1.toNatClampNeg cw) 1 ow cv) 30 = swc (sU S 7 j 0) 30 := swc_congr rfl 30
                  have g2 := Rel_gv (n := n + 1) (S := sU (sU (sU S 7 j 0) 1 p1.toNatClampNeg cw) 1 ow cv) (x := q) (by omega) hc hp (by
                    show (S 26 2).toInt + _ + 1 ≤ _
                    rw [hw2]; omega) g1
                  rw [hqj] at g2
                  have e : sU (sU (sU (sU (sU (sU (sU M 0 16 0) 0 13 (M 0 13 + 1)) 4 j 0) 1 p1.toNatClampNeg cw) 1 ow cv) 3 j p1) 4 j 0 = sU (sU (sU (sU (sU (sU M 0 16 0) 0 13 (M 0 13 + 1)) 1 p1.toNatClampNeg cw) 1 ow cv) 3 j p1) 4 j 0 := by
                    rw [sU_comm (i := 4) (j := 1) (by decide), sU_comm (i := 4) (j := 1) (by decide), sU_comm (i := 4) (j := 3) (by decide), sU_idem]
                  rw [e] at g2
                  exact g2
                · rw [if_neg g] at hSs hSr
                  rw [if_pos (show p3 < S 8 j by rw [i_le] at g; rw [i_lt]; omega)] at hMs hMr
                  refine good3 hkk (by rw [hMs]; rfl) (fun F => by simp [f_L_bid, hxx, vp_updL, hMr, hSr]) ?_
                  rw [hMs, hSs]
                  exact hput
            · have h5' : r_X4_banned M p2 = 1 := (b_X4_banned M _).resolve_left h5
              rw [h5'] at hb
              exact fail3 h (v := 3) (by decide) (by simp [s_X4_bid, as3, ar3, e2, e4, e6, h2, h4, h5]) (by simp [k_L_bid, x_X3_bid, e1, e3, e5, h1, r_X0_has, h3, hb, ne31, ne32]) (by simp [s_L_bid, x_X3_bid, e1, e3, e5, h1, r_X0_has, h3, hb])
          · have h4 : ¬ M 11 (8 * p1 + p2).toNatClampNeg = 0 := by rw [ei, ← hbb]; exact h3
            exact fail3 h (v := 3) (by decide) (by simp [s_X4_bid, as3, ar3, e2, e4, e6, h2, h4]) (by simp [k_L_bid, x_X3_bid, e1, e3, e5, h1, r_X0_has, h3, ne31, ne32]) (by simp [s_L_bid, x_X3_bid, e1, e3, e5, h1, r_X0_has, h3])
      · have e5 := nx_f hx
        have e6 := ix_f hx
        exact fail3 h (v := 2) (by decide) (by simp [s_X4_bid, as3, ar3, e2, e4, e6]) (by simp [k_L_bid, x_X3_bid, e1, e3, e5, ne21]) (by simp [s_L_bid, x_X3_bid, e1, e3, e5])
    · have e3 := nk_f hk
      have e4 := ik_f hk
      exact fail3 h (v := 1) (by decide) (by simp [s_X4_bid, as3, ar3, e2, e4]) (by simp [k_L_bid, x_X3_bid, e1, e3]) (by simp [s_L_bid, x_X3_bid, e1, e3])
  · have e1 := np_f hp
    have e2 := ip_f hp
    exact fail3 h (v := 1) (by decide) (by simp [s_X4_bid, as3, ar3, e2]) (by simp [k_L_bid, x_X3_bid, e1]) (by simp [s_L_bid, x_X3_bid, e1])
