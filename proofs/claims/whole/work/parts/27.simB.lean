theorem ne21 : (v_E2 = v_E1) = False := by simp [v_E2, v_E1]
theorem ne31 : (v_E3 = v_E1) = False := by simp [v_E3, v_E1]
theorem ne32 : (v_E3 = v_E2) = False := by simp [v_E3, v_E2]
theorem fail3 {n : Nat} {S M S' M' : St} {kk v : Int32} {P : Prop} (h : Rel n S M) (hv : v ≠ 0) (hM : M' = sU M 0 16 v) (hk : kk = v) (hS : S' = S) : r_X4_thrown M' = kk ∧ (kk = 0 → P) ∧ Rel (n + 1) S' M' := by
  subst hM hk hS
  exact ⟨rfl, fun q => absurd q hv, Rel_thr _ (Rel_mono h)⟩
theorem good3 {n : Nat} {S' M' : St} {kk : Int32} {P : Prop} (hk : kk = 0) (ht : r_X4_thrown M' = 0) (hp : P) (hr : Rel (n + 1) S' M') : r_X4_thrown M' = kk ∧ (kk = 0 → P) ∧ Rel (n + 1) S' M' := ⟨ht.trans hk.symm, fun _ => hp, hr⟩
theorem fail2 {n : Nat} {S M S' M' : St} {kk v : Int32} (h : Rel n S M) (hM : M' = sU M 0 16 v) (hk : kk = v) (hS : S' = S) : r_X4_thrown M' = kk ∧ Rel (n + 1) S' M' := by
  subst hM hk hS
  exact ⟨rfl, Rel_thr _ (Rel_mono h)⟩
theorem sim_cancelSale {n : Nat} {S M : St} (h : Rel n S M) (hn : n < 512) (p1 : Int32) : r_X4_thrown (s_X4_cancelSale M p1) = k_L_cancelSale S p1 ∧ (k_L_cancelSale S p1 = 0 → ∀ F : Nat → Int64, f_L_cancelSale S p1 F 0 = (r_X4_cancelSale M p1).toInt64) ∧ Rel (n + 1) (s_L_cancelSale S p1) (s_X4_cancelSale M p1) := by
  obtain ⟨x10, x2, x3, x4, x5, x7, x8, x9, x1, x15, x0⟩ := h.1
  by_cases hc : inC S p1
  · have e1 := nc_t hc
    have e2 := ic_t h hc
    by_cases h1 : S 7 p1.toNatClampNeg = 1
    · have h2 : M 4 p1.toNatClampNeg = 1 := by rw [← x4]; exact h1
      have hx : x_X3_cancelSale S p1 = none := by simp [x_X3_cancelSale, e1, h1]
      have hM : s_X4_cancelSale M p1 = sU (sU M 0 16 0) 4 p1.toNatClampNeg 0 := by simp [s_X4_cancelSale, as2, ar2, e2, h2]
      have hS : s_L_cancelSale S p1 = sU S 7 p1.toNatClampNeg 0 := by simp [s_L_cancelSale, hx, s_X3_cancelSale, e1, h1, s_X1_takeSale]
      have hr : r_X3_cancelSale S p1 = r_X4_cancelSale M p1 := by simp [r_X3_cancelSale, r_X4_cancelSale, as2, ar2, e1, e2, h1, h2, r_X1_takeSale, sU, x5]
      refine good3 (by simp [k_L_cancelSale, hx]) (by rw [hM]; rfl) (fun F => by simp [f_L_cancelSale, hx, vp_updL, hr]) ?_
      rw [hM, hS]
      exact Rel_st (by decide) (by decide) (Rel_thr _ (Rel_mono h))
    · have h2 : ¬ M 4 p1.toNatClampNeg = 1 := by rw [← x4]; exact h1
      exact fail3 h (v := 2) (by decide) (by simp [s_X4_cancelSale, as2, ar2, e2, h2]) (by simp [k_L_cancelSale, x_X3_cancelSale, e1, h1, ne31]) (by simp [s_L_cancelSale, x_X3_cancelSale, e1, h1])
  · have e1 := nc_f hc
    have e2 := ic_f h hc
    exact fail3 h (v := 1) (by decide) (by simp [s_X4_cancelSale, as2, ar2, e2]) (by simp [k_L_cancelSale, x_X3_cancelSale, e1]) (by simp [s_L_cancelSale, x_X3_cancelSale, e1])
theorem sim_cancelSwap {n : Nat} {S M : St} (h : Rel n S M) (hn : n < 512) (p1 : Int32) : r_X4_thrown (s_X4_cancelSwap M p1) = k_L_cancelSwap S p1 ∧ Rel (n + 1) (s_L_cancelSwap S p1) (s_X4_cancelSwap M p1) := by
  obtain ⟨x10, x2, x3, x4, x5, x7, x8, x9, x1, x15, x0⟩ := h.1
  by_cases hc : inC S p1
  · have e1 := nc_t hc
    have e2 := ic_t h hc
    by_cases h1 : S 7 p1.toNatClampNeg = 2
    · have h2 : M 4 p1.toNatClampNeg = 2 := by rw [← x4]; exact h1
      have hx : x_X3_cancelSwap S p1 = none := by simp [x_X3_cancelSwap, e1, h1]
      have hM : s_X4_cancelSwap M p1 = sU (sU M 0 16 0) 4 p1.toNatClampNeg 0 := by simp [s_X4_cancelSwap, as2, ar2, e2, h2]
      have hS : s_L_cancelSwap S p1 = sU S 7 p1.toNatClampNeg 0 := by simp [s_L_cancelSwap, hx, s_X3_cancelSwap, e1, h1]
      have hk : k_L_cancelSwap S p1 = 0 := by simp [k_L_cancelSwap, hx]
      refine ⟨by rw [hM, hk]; rfl, ?_⟩
      rw [hM, hS]
      exact Rel_st (by decide) (by decide) (Rel_thr _ (Rel_mono h))
    · have h2 : ¬ M 4 p1.toNatClampNeg = 2 := by rw [← x4]; exact h1
      exact fail2 h (v := 2) (by simp [s_X4_cancelSwap, as2, ar2, e2, h2]) (by simp [k_L_cancelSwap, x_X3_cancelSwap, e1, h1, ne31]) (by simp [s_L_cancelSwap, x_X3_cancelSwap, e1, h1])
  · have e1 := nc_f hc
    have e2 := ic_f h hc
    exact fail2 h (v := 1) (by simp [s_X4_cancelSwap, as2, ar2, e2]) (by simp [k_L_cancelSwap, x_X3_cancelSwap, e1]) (by simp [s_L_cancelSwap, x_X3_cancelSwap, e1])
theorem sim_swap {n : Nat} {S M : St} (h : Rel n S M) (hn : n < 512) (p1 p2 : Int32) : r_X4_thrown (s_X4_swap M p1 p2) = k_L_swap S p1 p2 ∧ Rel (n + 1) (s_L_swap S p1 p2) (s_X4_swap M p1 p2) := by
  obtain ⟨x10, x2, x3, x4, x5, x7, x8, x9, x1, x15, x0⟩ := h.1
  by_cases hc : inC S p1
  · have e1 := nc_t hc
    have e2 := ic_t h hc
    by_cases hc2 : inC S p2
    · have e3 := nc_t hc2
      have e4 := ic_t h hc2
      by_cases ho : S 6 p1.toNatClampNeg = S 6 p2.toNatClampNeg
      · have ho2 : M 3 p1.toNatClampNeg = M 3 p2.toNatClampNeg := by rw [← x3]; exact ho
        exact fail2 h (v := 2) (by simp [s_X4_swap, as3, ar3, e2, e4, ho2]) (by simp [k_L_swap, x_X3_swap, e1, e3, ho, ne21]) (by simp [s_L_swap, x_X3_swap, e1, e3, ho])
      · have ho2 : ¬ M 3 p1.toNatClampNeg = M 3 p2.toNatClampNeg := by rw [← x3]; exact ho
        by_cases h1 : S 7 p1.toNatClampNeg = 0
        · have h2 : M 4 p1.toNatClampNeg = 0 := by rw [← x4]; exact h1
          have hx : x_X3_swap S p1 p2 = none := by simp [x_X3_swap, e1, e3, ho, h1]
          have hM : s_X4_swap M p1 p2 = sU (sU (sU M 0 16 0) 4 p1.toNatClampNeg 2) 7 p1.toNatClampNeg p2 := by simp [s_X4_swap, as3, ar3, e2, e4, ho2, h2]
          have hS : s_L_swap S p1 p2 = sU (sU S 7 p1.toNatClampNeg 2) 10 p1.toNatClampNeg p2 := by simp [s_L_swap, hx, s_X3_swap, e1, e3, ho, h1]
          have hk : k_L_swap S p1 p2 = 0 := by simp [k_L_swap, hx]
          refine ⟨by rw [hM, hk]; rfl, ?_⟩
          rw [hM, hS]
          exact Rel_sw (inC_30 h hc2) hc2.2 (Rel_thr _ h)
        · have h2 : ¬ M 4 p1.toNatClampNeg = 0 := by rw [← x4]; exact h1
          exact fail2 h (v := 3) (by simp [s_X4_swap, as3, ar3, e2, e4, ho2, h2]) (by simp [k_L_swap, x_X3_swap, e1, e3, ho, h1, ne31, ne32]) (by simp [s_L_swap, x_X3_swap, e1, e3, ho, h1])
    · have e3 := nc_f hc2
      have e4 := ic_f h hc2
      exact fail2 h (v := 1) (by simp [s_X4_swap, as3, ar3, e2, e4]) (by simp [k_L_swap, x_X3_swap, e1, e3]) (by simp [s_L_swap, x_X3_swap, e1, e3])
  · have e1 := nc_f hc
    have e2 := ic_f h hc
    exact fail2 h (v := 1) (by simp [s_X4_swap, as3, ar3, e2]) (by simp [k_L_swap, x_X3_swap, e1]) (by simp [s_L_swap, x_X3_swap, e1])
theorem sim_lend {n : Nat} {S M : St} (h : Rel n S M) (hn : n < 512) (p1 p2 p3 : Int32) : r_X4_thrown (s_X4_lend M p1 p2 p3) = k_L_lend S p1 p2 p3 ∧ (k_L_lend S p1 p2 p3 = 0 → ∀ F : Nat → Int64, f_L_lend S p1 p2 p3 F 0 = (r_X4_lend M p1 p2 p3).toInt64) ∧ Rel (n + 1) (s_L_lend S p1 p2 p3) (s_X4_lend M p1 p2 p3) := by
  obtain ⟨x10, x2, x3, x4, x5, x7, x8, x9, x1, x15, x0⟩ := h.1
  by_cases hc : inC S p1
  · have e1 := nc_t hc
    have e2 := ic_t h hc
    by_cases hp : vp_in p2 5
    · have e3 := np_t hp
      have e4 := ip_t hp
      by_cases hd : 1 ≤ p3.toInt ∧ p3.toInt ≤ 50
      · have e5 : r_X4_in p3 1 50 = 1 := in_t (by rw [c_1]; exact hd.1) (by rw [c_50]; exact hd.2)
        have d1 : ¬ p3 < 1 := by rw [i_lt, c_1]; omega
        have d2 : ¬ 50 < p3 := by rw [i_lt, c_50]; omega
        by_cases ho : p2 = S 6 p1.toNatClampNeg
        · have ho2 : M 3 p1.toNatClampNeg = p2 := by rw [← x3]; exact ho.symm
          exact fail3 h (v := 2) (by decide) (by simp [s_X4_lend, as3, ar3, e2, e4, e5, ho2]) (by simp [k_L_lend, x_X3_lend, e1, e3, d1, d2, ← ho, ne21]) (by simp [s_L_lend, x_X3_lend, e1, e3, d1, d2, ← ho])
        · have ho2 : ¬ M 3 p1.toNatClampNeg = p2 := by rw [← x3]; exact fun q => ho q.symm
          by_cases h1 : S 7 p1.toNatClampNeg = 0
          · have h2 : M 4 p1.toNatClampNeg = 0 := by rw [← x4]; exact h1
            have hx : x_X3_lend S p1 p2 p3 = none := by simp [x_X3_lend, e1, e3, d1, d2, ho, h1]
            have hM : s_X4_lend M p1 p2 p3 = sU (sU (sU (sU M 0 16 0) 4 p1.toNatClampNeg 3) 8 p1.toNatClampNeg p2) 9 p1.toNatClampNeg (S 0 7 + p3) := by
              rw [x0]
              simp [s_X4_lend, as3, ar3, e2, e4, e5, ho2, h2]
              rfl
            have hS : s_L_lend S p1 p2 p3 = sU (sU (sU S 7 p1.toNatClampNeg 3) 11 p1.toNatClampNeg p2) 12 p1.toNatClampNeg (S 0 7 + p3) := by simp [s_L_lend, hx, s_X3_lend, e1, e3, d1, d2, ho, h1, s_X1_lendTo]
            have hr : r_X3_lend S p1 p2 p3 = r_X4_lend M p1 p2 p3 := by
              simp [r_X3_lend, r_X4_lend, as3, ar3, e1, e2, e3, e4, e5, d1, d2, ho, ho2, h1, h2, sU, upd, x0]
            refine good3 (by simp [k_L_lend, hx]) (by rw [hM]; rfl) (fun F => by simp [f_L_lend, hx, vp_updL, hr]) ?_
            rw [hM, hS]
            exact Rel_le (Rel_st (by decide) (by decide) (Rel_thr _ (Rel_mono h)))
          · have h2 : ¬ M 4 p1.toNatClampNeg = 0 := by rw [← x4]; exact h1
            exact fail3 h (v := 3) (by decide) (by simp [s_X4_lend, as3, ar3, e2, e4, e5, ho2, h2]) (by simp [k_L_lend, x_X3_lend, e1, e3, d1, d2, ho, h1, ne31, ne32]) (by simp [s_L_lend, x_X3_lend, e1, e3, d1, d2, ho, h1])
      · have e5 : r_X4_in p3 1 50 = 0 := in_f (by rw [c_1, c_50]; exact hd)
        have hx : x_X3_lend S p1 p2 p3 = some v_E2 := by
          by_cases d1 : p3 < 1
          · simp [x_X3_lend, e1, e3, d1]
          · have d2 : 50 < p3 := by rw [i_lt, c_1] at d1; rw [i_lt, c_50]; omega
            simp [x_X3_lend, e1, e3, d1, d2]
        exact fail3 h (v := 2) (by decide) (by simp [s_X4_lend, as3, ar3, e2, e4, e5]) (by simp [k_L_lend, hx, ne21]) (by simp [s_L_lend, hx])
    · have e3 := np_f hp
      have e4 := ip_f hp
      exact fail3 h (v := 1) (by decide) (by simp [s_X4_lend, as3, ar3, e2, e4]) (by simp [k_L_lend, x_X3_lend, e1, e3]) (by simp [s_L_lend, x_X3_lend, e1, e3])
  · have e1 := nc_f hc
    have e2 := ic_f h hc
    exact fail3 h (v := 1) (by decide) (by simp [s_X4_lend, as3, ar3, e2]) (by simp [k_L_lend, x_X3_lend, e1]) (by simp [s_L_lend, x_X3_lend, e1])
/-- a kind's ban -/
theorem Rel_bn {n : Nat} {S M : St} {c : Nat} {x y : Int32} (hd : (x = -1 ∧ y = 1000000) ∨ (x = y ∧ 0 ≤ x.toInt ∧ x.toInt ≤ 100 * n + 50)) (h : Rel n S M) : Rel n (sU S 2 c x) (sU M 14 c y) := by
  obtain ⟨⟨e1, e2, e3, e4, e5, e6, e7, e8, e9, e10, e11⟩, hR, hB, hN, hD, hK, hH⟩ := h
  refine ⟨⟨e1, e2, e3, e4, e5, e6, e7, e8, e9, e10, e11⟩, hR, RelB_c (fun i a b => sU_ne (by omega)) rfl hB, RelN_c (fun i a b => sU_ne (by omega)) rfl rfl (fun _ q => q) rfl rfl rfl hN, fun k hk => ?_, hK, RelH_c (n := n) (S := S) rfl rfl rfl rfl rfl (by rw [swc_congr (S := S) (S' := sU S 2 c x) rfl]; omega) hH⟩
  have a1 : sU S 2 c x 2 k = if k = c then x else S 2 k := rfl
  have a2 : sU M 14 c y 14 k = if k = c then y else M 14 k := rfl
  rw [a1, a2]
  by_cases q : k = c
  · rw [if_pos q, if_pos q]; exact hd
  · rw [if_neg q, if_neg q]; exact hD k hk
theorem sim_lift {n : Nat} {S M : St} (h : Rel n S M) (hn : n < 512) (p1 : Int32) : r_X4_thrown (s_X4_lift M p1) = k_L_lift S p1 ∧ (k_L_lift S p1 = 0 → ∀ F : Nat → Int64, f_L_lift S p1 F 0 = (if r_X4_lift M p1 = 0 then 0 else 1)) ∧ Rel (n + 1) (s_L_lift S p1) (s_X4_lift M p1) := by
  by_cases hc : vp_in p1 8
  · have e1 := nk_t hc
    have e2 := ik_t hc
    have hx : x_X3_lift S p1 = none := by simp [x_X3_lift, e1]
    have hM : s_X4_lift M p1 = sU (sU M 0 16 0) 14 p1.toNatClampNeg 1000000 := by simp [s_X4_lift, as1, ar1, e2]
    have hS : s_L_lift S p1 = sU S 2 p1.toNatClampNeg (-1) := by simp [s_L_lift, hx, s_X3_lift, e1]
    have hr : r_X3_lift S p1 = r_X4_lift M p1 := by
      have a1 : r_X3_lift S p1 = if S 2 p1.toNatClampNeg = -1 then 0 else 1 := by simp [r_X3_lift, e1]
      have a2 : r_X4_lift M p1 = if M 14 p1.toNatClampNeg = 1000000 then 0 else 1 := by
        simp [r_X4_lift, as1, ar1, e2]
        rfl
      rw [a1, a2]
      rcases h.2.2.2.2.1 p1.toNatClampNeg (vp_lt hc) with ⟨q1, q2⟩ | ⟨q1, q2, q3⟩
      · rw [if_pos q1, if_pos q2]
      · rw [if_neg (by rw [i_eq, c_m1]; omega), if_neg (by rw [← q1, i_eq, c_mil]; omega)]
    refine good3 (by simp [k_L_lift, hx]) (by rw [hM]; rfl) (fun F => by simp [f_L_lift, hx, vp_updL, hr]) ?_
    rw [hM, hS]
    exact Rel_bn (Or.inl ⟨rfl, rfl⟩) (Rel_thr _ (Rel_mono h))
  · have e1 := nk_f hc
    have e2 := ik_f hc
    exact fail3 h (v := 1) (by decide) (by simp [s_X4_lift, as1, ar1, e2]) (by simp [k_L_lift, x_X3_lift, e1]) (by simp [s_L_lift, x_X3_lift, e1])
