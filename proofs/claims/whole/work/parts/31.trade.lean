theorem sU_idem {S : St} {i k : Nat} {x y : Int32} : sU (sU S i k x) i k y = sU S i k y := by
  funext a b
  by_cases q : a = i
  · subst q
    rw [sU_eq, sU_eq, sU_eq, upd_at, upd_at, upd_at]
    by_cases z : b = k
    · rw [if_pos z, if_pos z]
    · rw [if_neg z, if_neg z, if_neg z]
  · rw [sU_ne q, sU_ne q, sU_ne q]
theorem sim_agree {n : Nat} {S M : St} (h : Rel n S M) (hn : n < 512) (p1 : Int32) : r_X4_thrown (s_X4_agree M p1) = k_L_agree S p1 ∧ (k_L_agree S p1 = 0 → ∀ F : Nat → Int64, f_L_agree S p1 F 0 = (r_X4_agree M p1).toInt64) ∧ Rel (n + 1) (s_L_agree S p1) (s_X4_agree M p1) := by
  obtain ⟨x10, x2, x3, x4, x5, x7, x8, x9, x1, x15, x0⟩ := h.1
  by_cases hc : inC S p1
  · have e1 := nc_t hc
    have e2 := ic_t h hc
    by_cases h1 : S 7 p1.toNatClampNeg = 2
    · have h2 : M 4 p1.toNatClampNeg = 2 := by rw [← x4]; exact h1
      have y7 : M 7 p1.toNatClampNeg = S 10 p1.toNatClampNeg := by rw [x7]
      obtain ⟨w1, w2⟩ := h.2.1.2.2.2.1 p1.toNatClampNeg
      have ho : inC S (S 10 p1.toNatClampNeg) := by
        unfold inC at hc ⊢
        rw [vp_in_iff] at w1
        refine ⟨w1.1, ?_⟩
        rcases w2 with z | z
        · rw [z, c_0]; omega
        · exact z
      have hh := has_t ho
      generalize hoo : S 10 p1.toNatClampNeg = o at w1 w2 ho hh y7
      have n2 : ¬ (2 : Int32) = 0 := by decide
      by_cases h3 : S 7 o.toNatClampNeg = 0
      · have h4 : M 4 o.toNatClampNeg = 0 := by rw [← x4]; exact h3
        by_cases h5 : S 6 p1.toNatClampNeg = S 6 o.toNatClampNeg
        · have h6 : M 3 p1.toNatClampNeg = M 3 o.toNatClampNeg := by rw [← x3]; exact h5
          exact fail3 h (v := 2) (by decide) (by simp [s_X4_agree, as2, ar2, e2, h2, y7, h4, h6]) (by simp [k_L_agree, x_X3_agree, e1, r_X1_canBeSwapped, h1, hoo, hh, h3, h5, ne31]) (by simp [s_L_agree, x_X3_agree, e1, r_X1_canBeSwapped, h1, hoo, hh, h3, h5])
        · have h6 : ¬ M 3 p1.toNatClampNeg = M 3 o.toNatClampNeg := by rw [← x3]; exact h5
          have hx : x_X3_agree S p1 = none := by simp [x_X3_agree, e1, r_X1_canBeSwapped, h1, hoo, hh, h3, h5]
          have hM : s_X4_agree M p1 = sU (sU (sU (sU M 0 16 0) 3 p1.toNatClampNeg (S 6 o.toNatClampNeg)) 3 o.toNatClampNeg (S 6 p1.toNatClampNeg)) 4 p1.toNatClampNeg 0 := by
            rw [x3]
            simp [s_X4_agree, as2, ar2, e2, h2, y7, h4, h6, sU_ne, sU_eq, upd_at]
          have hS : s_L_agree S p1 = s_X3_giveTo (s_X3_giveTo S p1 (S 6 o.toNatClampNeg)) o (S 6 p1.toNatClampNeg) := by
            simp [s_L_agree, hx, s_X3_agree, e1, r_X1_canBeSwapped, h1, hoo, hh, h3, h5]
          have hr : r_X3_agree S p1 = r_X4_agree M p1 := by
            simp [r_X3_agree, r_X4_agree, as2, ar2, e1, e2, r_X1_canBeSwapped, h1, h2, hoo, hh, h3, h4, h5, h6, y7]
          refine good3 (by simp [k_L_agree, hx]) (by rw [hM]; rfl) (fun F => by simp [f_L_agree, hx, vp_updL, hr]) ?_
          rw [hM, hS]
          have hH := h.2.2.2.2.2.2.2.1
          have g1 := Rel_gv (n := n) (by omega) hc (h.hown o.toNatClampNeg) (by rw [if_pos h1]; omega) (Rel_thr 0 h)
          have hH1 := g1.2.2.2.2.2.2.2.1
          have k4 : ∀ (a b : Int32), s_X3_giveTo S a b 4 = S 4 := by
            intro a b
            unfold s_X3_giveTo s_X2_record
            split <;> rfl
          have ho1 : inC (s_X3_giveTo S p1 (S 6 o.toNatClampNeg)) o := by
            unfold inC at ho ⊢
            rw [k4]; exact ho
          have g2 := Rel_gv (n := n + 1) (by omega) ho1 (h.hown p1.toNatClampNeg) (by omega) (Rel_mono g1)
          have e : sU (sU (sU (sU (sU M 0 16 0) 3 p1.toNatClampNeg (S 6 o.toNatClampNeg)) 4 p1.toNatClampNeg 0) 3 o.toNatClampNeg (S 6 p1.toNatClampNeg)) 4 o.toNatClampNeg 0 = sU (sU (sU (sU M 0 16 0) 3 p1.toNatClampNeg (S 6 o.toNatClampNeg)) 3 o.toNatClampNeg (S 6 p1.toNatClampNeg)) 4 p1.toNatClampNeg 0 := by
            rw [sU_same (i := 4) (k := o.toNatClampNeg), sU_comm (i := 4) (j := 3) (by decide)]
            show upd (M 4) p1.toNatClampNeg 0 o.toNatClampNeg = 0
            rw [upd_at, h4, ite_self]
          rw [e] at g2
          exact g2
      · have h4 : ¬ M 4 o.toNatClampNeg = 0 := by rw [← x4]; exact h3
        exact fail3 h (v := 2) (by decide) (by simp [s_X4_agree, as2, ar2, e2, h2, y7, h4]) (by simp [k_L_agree, x_X3_agree, e1, r_X1_canBeSwapped, h1, hoo, hh, h3, ne31]) (by simp [s_L_agree, x_X3_agree, e1, r_X1_canBeSwapped, h1, hoo, hh, h3])
    · have h2 : ¬ M 4 p1.toNatClampNeg = 2 := by rw [← x4]; exact h1
      exact fail3 h (v := 2) (by decide) (by simp [s_X4_agree, as2, ar2, e2, h2]) (by simp [k_L_agree, x_X3_agree, e1, r_X1_canBeSwapped, h1, ne31]) (by simp [s_L_agree, x_X3_agree, e1, r_X1_canBeSwapped, h1])
  · have e1 := nc_f hc
    have e2 := ic_f h hc
    exact fail3 h (v := 1) (by decide) (by simp [s_X4_agree, as2, ar2, e2]) (by simp [k_L_agree, x_X3_agree, e1]) (by simp [s_L_agree, x_X3_agree, e1])
theorem sim_sell {n : Nat} {S M : St} (h : Rel n S M) (hn : n < 512) (p1 p2 : Int32) : r_X4_thrown (s_X4_sell M p1 p2) = k_L_sell S p1 p2 ∧ (k_L_sell S p1 p2 = 0 → ∀ F : Nat → Int64, f_L_sell S p1 p2 F 0 = (r_X4_sell M p1 p2).toInt64) ∧ Rel (n + 1) (s_L_sell S p1 p2) (s_X4_sell M p1 p2) := by
  obtain ⟨x10, x2, x3, x4, x5, x7, x8, x9, x1, x15, x0⟩ := h.1
  by_cases hc : inC S p1
  · have e1 := nc_t hc
    have e2 := ic_t h hc
    by_cases hx : inP p2
    · have e3 := nx_t hx
      have e4 := ix_t hx
      by_cases h1 : S 7 p1.toNatClampNeg = 0
      · have h2 : M 4 p1.toNatClampNeg = 0 := by rw [← x4]; exact h1
        have hkin := h.hkin p1.toNatClampNeg
        have hb := ban_eq h (by omega) hkin
        have y2 : M 2 p1.toNatClampNeg = S 5 p1.toNatClampNeg := by rw [x2]
        by_cases h3 : r_X4_banned M (S 5 p1.toNatClampNeg) = 0
        · rw [h3] at hb
          have hT : Rel (n + 1) S (sU (sU M 0 16 0) 0 13 (M 0 13 + 1)) := Rel_nx hn (Rel_thr 0 h)
          obtain ⟨hq, hj⟩ := bidder_eq hT hkin (S 6 p1.toNatClampNeg)
          have g2 : (sU (sU M 0 16 0) 0 13 (M 0 13 + 1)) 2 p1.toNatClampNeg = S 5 p1.toNatClampNeg := y2
          have g3 : (sU (sU M 0 16 0) 0 13 (M 0 13 + 1)) 3 p1.toNatClampNeg = S 6 p1.toNatClampNeg := by rw [x3]; rfl
          have hMs : s_X4_sell M p1 p2 = if r_X4_bidder (sU (sU M 0 16 0) 0 13 (M 0 13 + 1)) (S 5 p1.toNatClampNeg) (S 6 p1.toNatClampNeg) = -1 then sU (sU (sU (sU (sU M 0 16 0) 0 13 (M 0 13 + 1)) 4 p1.toNatClampNeg 1) 5 p1.toNatClampNeg p2) 6 p1.toNatClampNeg (M 0 13 + 1) else if M 11 (8 * r_X4_bidder (sU (sU M 0 16 0) 0 13 (M 0 13 + 1)) (S 5 p1.toNatClampNeg) (S 6 p1.toNatClampNeg) + S 5 p1.toNatClampNeg).toNatClampNeg < p2 then sU (sU (sU (sU (sU M 0 16 0) 0 13 (M 0 13 + 1)) 4 p1.toNatClampNeg 1) 5 p1.toNatClampNeg p2) 6 p1.toNatClampNeg (M 0 13 + 1) else sU (sU (sU (sU (sU M 0 16 0) 0 13 (M 0 13 + 1)) 1 (S 6 p1.toNatClampNeg).toNatClampNeg (M 1 (S 6 p1.toNatClampNeg).toNatClampNeg + M 11 (8 * r_X4_bidder (sU (sU M 0 16 0) 0 13 (M 0 13 + 1)) (S 5 p1.toNatClampNeg) (S 6 p1.toNatClampNeg) + S 5 p1.toNatClampNeg).toNatClampNeg)) 3 p1.toNatClampNeg (r_X4_bidder (sU (sU M 0 16 0) 0 13 (M 0 13 + 1)) (S 5 p1.toNatClampNeg) (S 6 p1.toNatClampNeg))) 11 (8 * r_X4_bidder (sU (sU M 0 16 0) 0 13 (M 0 13 + 1)) (S 5 p1.toNatClampNeg) (S 6 p1.toNatClampNeg) + S 5 p1.toNatClampNeg).toNatClampNeg 0 := by
            simp [s_X4_sell, as3, ar3, e2, e4, h2, y2, h3, sU_ne, sU_eq, upd_at, ← x3]
          have hMr : r_X4_sell M p1 p2 = if r_X4_bidder (sU (sU M 0 16 0) 0 13 (M 0 13 + 1)) (S 5 p1.toNatClampNeg) (S 6 p1.toNatClampNeg) = -1 then 0 else if M 11 (8 * r_X4_bidder (sU (sU M 0 16 0) 0 13 (M 0 13 + 1)) (S 5 p1.toNatClampNeg) (S 6 p1.toNatClampNeg) + (S 5 p1.toNatClampNeg)).toNatClampNeg < p2 then 0 else M 11 (8 * r_X4_bidder (sU (sU M 0 16 0) 0 13 (M 0 13 + 1)) (S 5 p1.toNatClampNeg) (S 6 p1.toNatClampNeg) + (S 5 p1.toNatClampNeg)).toNatClampNeg := by
            simp [r_X4_sell, as3, ar3, e2, e4, h2, y2, h3, sU_ne, sU_eq, upd_at, ← x3]
          have hxx : x_X3_sell S p1 p2 = none := by simp [x_X3_sell, e1, e3, h1, hb]
          have hSs : s_L_sell S p1 p2 = if r_X0_bestBidder S (S 5 p1.toNatClampNeg) (S 6 p1.toNatClampNeg) = -1 then sU (sU (sU (sU S 7 p1.toNatClampNeg 1) 8 p1.toNatClampNeg p2) 9 p1.toNatClampNeg (S 0 6)) 0 6 (S 0 6 + 1) else if p2 ≤ S (15 + (r_X0_bestBidder S (S 5 p1.toNatClampNeg) (S 6 p1.toNatClampNeg)).toNatClampNeg) (S 5 p1.toNatClampNeg).toNatClampNeg then s_X3_giveTo (sU (sU S (15 + (r_X0_bestBidder S (S 5 p1.toNatClampNeg) (S 6 p1.toNatClampNeg)).toNatClampNeg) (S 5 p1.toNatClampNeg).toNatClampNeg 0) 1 (S 6 p1.toNatClampNeg).toNatClampNeg (S 1 (S 6 p1.toNatClampNeg).toNatClampNeg + S (15 + (r_X0_bestBidder S (S 5 p1.toNatClampNeg) (S 6 p1.toNatClampNeg)).toNatClampNeg) (S 5 p1.toNatClampNeg).toNatClampNeg)) p1 (r_X0_bestBidder S (S 5 p1.toNatClampNeg) (S 6 p1.toNatClampNeg)) else sU (sU (sU (sU S 7 p1.toNatClampNeg 1) 8 p1.toNatClampNeg p2) 9 p1.toNatClampNeg (S 0 6)) 0 6 (S 0 6 + 1) := by
            have z6 : ∀ (a b : Nat) (x : Int32), sU S (15 + a) b x 6 = S 6 := fun a b x => sU_ne (by omega)
            have z1 : ∀ (a b : Nat) (x : Int32), sU S (15 + a) b x 1 = S 1 := fun a b x => sU_ne (by omega)
            simp [s_L_sell, hxx, s_X3_sell, e1, e3, h1, hb, s_X0_take, r_X0_take, s_X1_putSale, sU_ne, sU_eq, upd_at, z6, z1]
          have hSr : r_X3_sell S p1 p2 = if r_X0_bestBidder S (S 5 p1.toNatClampNeg) (S 6 p1.toNatClampNeg) = -1 then 0 else if p2 ≤ S (15 + (r_X0_bestBidder S (S 5 p1.toNatClampNeg) (S 6 p1.toNatClampNeg)).toNatClampNeg) (S 5 p1.toNatClampNeg).toNatClampNeg then S (15 + (r_X0_bestBidder S (S 5 p1.toNatClampNeg) (S 6 p1.toNatClampNeg)).toNatClampNeg) (S 5 p1.toNatClampNeg).toNatClampNeg else 0 := by
            simp [r_X3_sell, e1, e3, h1, hb, r_X0_take]
          rw [← hq] at hMs hMr
          have hput := Rel_sp (c := p1.toNatClampNeg) hn hx (Rel_thr 0 h)
          have hkk : k_L_sell S p1 p2 = 0 := by simp [k_L_sell, hxx]
          generalize r_X0_bestBidder S (S 5 p1.toNatClampNeg) (S 6 p1.toNatClampNeg) = q at hMs hMr hSs hSr hj
          rcases hj with z | ⟨j, b1, b2, b3, b4⟩
          · rw [if_pos z] at hMs hMr hSs hSr
            refine good3 hkk (by rw [hMs]; rfl) (fun F => by simp [f_L_sell, hxx, vp_updL, hMr, hSr]) ?_
            rw [hMs, hSs]
            exact hput
          · have hnq : ¬ q = -1 := by rw [b2]; exact nI_m1 (by omega)
            rw [if_neg hnq] at hMs hMr hSs hSr
            have hv5 : vp_in (nI j) 5 := vp_in_nI b1 (by decide)
            rw [b2] at hMs hMr hSs hSr
            rw [idx hv5 hkin, nI_clamp (show j < 2 ^ 31 by omega), ← (h.2.2.1 j (S 5 p1.toNatClampNeg).toNatClampNeg b1 (vp_lt hkin)).1] at hMs hMr
            rw [nI_clamp (show j < 2 ^ 31 by omega)] at hSs hSr
            by_cases g : p2 ≤ S (15 + j) (S 5 p1.toNatClampNeg).toNatClampNeg
            · rw [if_pos g] at hSs hSr
              rw [if_neg (fun y => nlt.mpr g y)] at hMs hMr
              refine good3 hkk (by rw [hMs]; rfl) (fun F => by simp [f_L_sell, hxx, vp_updL, hMr, hSr]) ?_
              rw [hMs, hSs, ← x1]
              have g1 := Rel_co (c := (S 6 p1.toNatClampNeg).toNatClampNeg) (x := S 1 (S 6 p1.toNatClampNeg).toNatClampNeg + S (15 + j) (S 5 p1.toNatClampNeg).toNatClampNeg) (Rel_bt b1 (vp_lt hkin) hT)
              generalize S 1 (S 6 p1.toNatClampNeg).toNatClampNeg + S (15 + j) (S 5 p1.toNatClampNeg).toNatClampNeg = cv at g1 ⊢
              have u : ∀ i, i ≠ 1 → i < 15 ∨ 19 < i → sU (sU S (15 + j) (S 5 p1.toNatClampNeg).toNatClampNeg 0) 1 (S 6 p1.toNatClampNeg).toNatClampNeg cv i = S i := fun i q1 q2 => (sU_ne q1).trans (sU_ne (by omega))
              have hH := h.2.2.2.2.2.2.2.1
              have hc2 : inC (sU (sU S (15 + j) (S 5 p1.toNatClampNeg).toNatClampNeg 0) 1 (S 6 p1.toNatClampNeg).toNatClampNeg cv) p1 := by
                unfold inC at hc ⊢
                rw [u 4 (by omega) (by omega)]; exact hc
              have g2 := Rel_gv (n := n + 1) (by omega) hc2 hv5 (by rw [u 26 (by omega) (by omega), swc_congr (u 7 (by omega) (by omega))]; omega) g1
              have e : sU (sU (sU (sU (sU (sU M 0 16 0) 0 13 (M 0 13 + 1)) 11 (8 * j + (S 5 p1.toNatClampNeg).toNatClampNeg) 0) 1 (S 6 p1.toNatClampNeg).toNatClampNeg cv) 3 p1.toNatClampNeg (nI j)) 4 p1.toNatClampNeg 0 = sU (sU (sU (sU (sU M 0 16 0) 0 13 (M 0 13 + 1)) 1 (S 6 p1.toNatClampNeg).toNatClampNeg cv) 3 p1.toNatClampNeg (nI j)) 11 (8 * j + (S 5 p1.toNatClampNeg).toNatClampNeg) 0 := by
                rw [sU_same (i := 4) (k := p1.toNatClampNeg), sU_comm (i := 11) (j := 1) (by decide), sU_comm (i := 11) (j := 3) (by decide)]
                exact h2
              rw [e] at g2
              exact g2
            · rw [if_neg g] at hSs hSr
              rw [if_pos (show S (15 + j) (S 5 p1.toNatClampNeg).toNatClampNeg < p2 by rw [i_le] at g; rw [i_lt]; omega)] at hMs hMr
              refine good3 hkk (by rw [hMs]; rfl) (fun F => by simp [f_L_sell, hxx, vp_updL, hMr, hSr]) ?_
              rw [hMs, hSs]
              exact hput
        · have h3' : r_X4_banned M (S 5 p1.toNatClampNeg) = 1 := (b_X4_banned M _).resolve_left h3
          rw [h3'] at hb
          exact fail3 h (v := 3) (by decide) (by simp [s_X4_sell, as3, ar3, e2, e4, h2, y2, h3]) (by simp [k_L_sell, x_X3_sell, e1, e3, h1, hb, ne31, ne32]) (by simp [s_L_sell, x_X3_sell, e1, e3, h1, hb])
      · have h2 : ¬ M 4 p1.toNatClampNeg = 0 := by rw [← x4]; exact h1
        exact fail3 h (v := 3) (by decide) (by simp [s_X4_sell, as3, ar3, e2, e4, h2]) (by simp [k_L_sell, x_X3_sell, e1, e3, h1, ne31, ne32]) (by simp [s_L_sell, x_X3_sell, e1, e3, h1])
    · have e3 := nx_f hx
      have e4 := ix_f hx
      exact fail3 h (v := 2) (by decide) (by simp [s_X4_sell, as3, ar3, e2, e4]) (by simp [k_L_sell, x_X3_sell, e1, e3, ne21]) (by simp [s_L_sell, x_X3_sell, e1, e3])
  · have e1 := nc_f hc
    have e2 := ic_f h hc
    exact fail3 h (v := 1) (by decide) (by simp [s_X4_sell, as3, ar3, e2]) (by simp [k_L_sell, x_X3_sell, e1]) (by simp [s_L_sell, x_X3_sell, e1])
