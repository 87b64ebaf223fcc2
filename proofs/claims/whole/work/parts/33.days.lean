theorem sales_lp {n : Nat} {S M : St} (h : Rel n S M) (k : Int32) (m : Nat) (hm : m ≤ 30) : Rel n (lp1_X1_takeSalesOf S k m).1 (lp1_X4_clears M k m).1 ∧ (lp1_X1_takeSalesOf S k m).2 = (lp1_X4_clears M k m).2 ∧ (lp1_X4_clears M k m).1 0 = M 0 := by
  induction m with
  | zero => exact ⟨h, rfl, rfl⟩
  | succ m ih =>
    obtain ⟨i1, i2, i3⟩ := ih (by omega)
    rw [e_lp1_X1_takeSalesOf, e_lp1_X4_clears, ← i2]
    generalize (lp1_X1_takeSalesOf S k m).1 = A at i1
    generalize (lp1_X4_clears M k m).1 = B at i1 i3
    generalize (lp1_X1_takeSalesOf S k m).2 = b
    unfold st1_X1_takeSalesOf st1_X4_clears r_X1_isOnSale s_X1_takeSale
    rw [nI_clamp (show m < 2 ^ 31 by omega), ← i1.1.2.2.2.1, ← i1.1.2.1]
    by_cases h1 : A 7 m = 1
    · rw [if_pos h1, if_pos h1]
      by_cases h2 : A 5 m = k
      · rw [if_pos h2, if_pos h2, if_neg (show ¬ (1 : Int32) = 0 by decide)]
        exact ⟨Rel_st (by decide) (by decide) i1, rfl, i3⟩
      · rw [if_neg h2, if_neg h2, if_pos (show (0 : Int32) = 0 from rfl)]
        exact ⟨i1, rfl, i3⟩
    · rw [if_neg h1, if_neg h1, if_pos (show (0 : Int32) = 0 from rfl)]
      exact ⟨i1, rfl, i3⟩
theorem clears_lp {n : Nat} {S M : St} (h : Rel n S M) {k : Int32} (hk : vp_in k 8) (m : Nat) (hm : m ≤ 5) : Rel n (lp1_X3_clearMarket S k m).1 (lp2_X4_clears M k m).1 ∧ (lp1_X3_clearMarket S k m).2 = (lp2_X4_clears M k m).2 ∧ (lp2_X4_clears M k m).1 0 = M 0 := by
  induction m with
  | zero =>
    have hc := h.hcnt
    unfold cntC at hc
    have hcc := i_nat hc.1
    have := sales_lp h k (S 4 8).toNatClampNeg (by omega)
    unfold lp1_X3_clearMarket lp2_X4_clears s_X1_takeSalesOf r_X1_takeSalesOf
    rw [← h.1.1]
    exact this
  | succ m ih =>
    obtain ⟨i1, i2, i3⟩ := ih (by omega)
    rw [e_lp1_X3_clearMarket, e_lp2_X4_clears, ← i2]
    generalize (lp1_X3_clearMarket S k m).1 = A at i1
    generalize (lp2_X4_clears M k m).1 = B at i1 i3
    generalize (lp1_X3_clearMarket S k m).2 = b
    have em : (8 * nI m + k).toNatClampNeg = 8 * m + k.toNatClampNeg := by
      rw [idx (vp_in_nI (by omega) (by decide)) hk, nI_clamp (by omega)]
    have hb := i1.2.2.1 m k.toNatClampNeg (by omega) (vp_lt hk)
    unfold st1_X3_clearMarket st2_X4_clears r_X0_has s_X3_giveBidBack s_X0_take r_X0_take
    rw [nI_clamp (show m < 2 ^ 31 by omega), em, ← hb.1]
    by_cases h1 : A (15 + m) k.toNatClampNeg = 0
    · rw [if_pos h1, if_pos (show (0 : Int32) = 0 from rfl), h1, if_pos (show (0 : Int32) ≤ 0 by decide), Int32.add_zero, Int32.add_zero, sU_same (i := 1) rfl, sU_same (by rw [← hb.1]; exact h1)]
      exact ⟨i1, rfl, i3⟩
    · have h2 : ¬ A (15 + m) k.toNatClampNeg ≤ 0 := by
        rw [i_eq, c_0] at h1
        rw [i_le, c_0]; omega
      have z1 : sU A (15 + m) k.toNatClampNeg 0 1 = A 1 := sU_ne (by omega)
      rw [if_neg h1, if_neg (show ¬ (1 : Int32) = 0 by decide), if_neg h2, z1, ← i1.1.2.2.2.2.2.2.2.2.1]
      refine ⟨?_, rfl, i3⟩
      rw [sU_comm (S := A) (by omega)]
      exact Rel_bt (by omega) (vp_lt hk) (Rel_co i1)
theorem clears_eq {n : Nat} {S M : St} (h : Rel n S M) {k : Int32} (hk : vp_in k 8) : Rel n (s_X3_clearMarket S k) (s_X4_clears M k) ∧ r_X3_clearMarket S k = r_X4_clears M k ∧ s_X4_clears M k 0 = M 0 := clears_lp h hk 5 (Nat.le_refl _)
theorem sim_ban {n : Nat} {S M : St} (h : Rel n S M) (hn : n < 512) (p1 p2 : Int32) : r_X4_thrown (s_X4_ban M p1 p2) = k_L_ban S p1 p2 ∧ (k_L_ban S p1 p2 = 0 → ∀ F : Nat → Int64, f_L_ban S p1 p2 F 0 = (r_X4_ban M p1 p2).toInt64) ∧ Rel (n + 1) (s_L_ban S p1 p2) (s_X4_ban M p1 p2) := by
  have x0 := h.1.2.2.2.2.2.2.2.2.2.2
  have ht := h.2.1.2.2.2.2.2
  by_cases hk : vp_in p1 8
  · have e1 := nk_t hk
    have e2 := ik_t hk
    have e50 : (S 0 7 + 50).toInt = (S 0 7).toInt + 50 := by rw [i_add (by rw [c_50]; omega) (by rw [c_50]; omega), c_50]
    by_cases h1 : p2 < S 0 7
    · have h2 : p2 < M 0 0 := by rw [← x0]; exact h1
      exact fail3 h (v := 2) (by decide) (by simp [s_X4_ban, as2, ar2, e2, h2]) (by simp [k_L_ban, x_X3_ban, e1, h1, ne21]) (by simp [s_L_ban, x_X3_ban, e1, h1])
    · have h2 : ¬ p2 < M 0 0 := by rw [← x0]; exact h1
      have l1 := h1
      rw [i_lt] at l1
      have esub : (p2 - S 0 7).toInt = p2.toInt - (S 0 7).toInt := i_sub (by have := i_rng p2; omega) (by have := i_rng p2; omega)
      by_cases h3 : p2 ≤ S 0 7 + 50
      · have l3 := h3
        rw [i_le, e50] at l3
        have h4 : ¬ 50 < p2 - M 0 0 := by
          rw [← x0, i_lt, esub, c_50]; omega
        have hR : Rel (n + 1) (sU S 2 p1.toNatClampNeg p2) (sU (sU M 0 16 0) 14 p1.toNatClampNeg p2) := Rel_bn (Or.inr ⟨rfl, by omega, by omega⟩) (Rel_thr 0 (Rel_mono h))
        have hb := ban_eq hR (by omega) hk
        by_cases h5 : r_X4_banned (sU (sU M 0 16 0) 14 p1.toNatClampNeg p2) p1 = 0
        · rw [h5] at hb
          have hx : x_X3_ban S p1 p2 = none := by simp [x_X3_ban, e1, h1, h3]
          have hM : s_X4_ban M p1 p2 = sU (sU M 0 16 0) 14 p1.toNatClampNeg p2 := by simp [s_X4_ban, as2, ar2, e2, h2, h4, h5]
          have hS : s_L_ban S p1 p2 = sU S 2 p1.toNatClampNeg p2 := by simp [s_L_ban, hx, s_X3_ban, e1, h1, h3, hb]
          have hr : r_X3_ban S p1 p2 = r_X4_ban M p1 p2 := by simp [r_X3_ban, r_X4_ban, as2, ar2, e1, e2, h1, h2, h3, h4, h5, hb]
          refine good3 (by simp [k_L_ban, hx]) (by rw [hM]; rfl) (fun F => by simp [f_L_ban, hx, vp_updL, hr]) ?_
          rw [hM, hS]
          exact hR
        · have h5' : r_X4_banned (sU (sU M 0 16 0) 14 p1.toNatClampNeg p2) p1 = 1 := (b_X4_banned _ _).resolve_left h5
          rw [h5'] at hb
          obtain ⟨c1, c2, c3⟩ := clears_eq hR hk
          have hx : x_X3_ban S p1 p2 = none := by simp [x_X3_ban, e1, h1, h3]
          have hM : s_X4_ban M p1 p2 = s_X4_clears (sU (sU M 0 16 0) 14 p1.toNatClampNeg p2) p1 := by simp [s_X4_ban, as2, ar2, e2, h2, h4, h5]
          have hS : s_L_ban S p1 p2 = s_X3_clearMarket (sU S 2 p1.toNatClampNeg p2) p1 := by simp [s_L_ban, hx, s_X3_ban, e1, h1, h3, hb]
          have hr : r_X3_ban S p1 p2 = r_X4_ban M p1 p2 := by simp [r_X3_ban, r_X4_ban, as2, ar2, e1, e2, h1, h2, h3, h4, h5, hb, c2]
          refine good3 (by simp [k_L_ban, hx]) (by rw [hM]; exact (congrFun c3 16).trans rfl) (fun F => by simp [f_L_ban, hx, vp_updL, hr]) ?_
          rw [hM, hS]
          exact c1
      · have h4 : 50 < p2 - M 0 0 := by
          rw [i_le, e50] at h3
          rw [← x0, i_lt, esub, c_50]; omega
        exact fail3 h (v := 2) (by decide) (by simp [s_X4_ban, as2, ar2, e2, h2, h4]) (by simp [k_L_ban, x_X3_ban, e1, h1, h3, ne21]) (by simp [s_L_ban, x_X3_ban, e1, h1, h3])
  · have e1 := nk_f hk
    have e2 := ik_f hk
    exact fail3 h (v := 1) (by decide) (by simp [s_X4_ban, as2, ar2, e2]) (by simp [k_L_ban, x_X3_ban, e1]) (by simp [s_L_ban, x_X3_ban, e1])
/-- days go by -/
theorem Rel_day {n : Nat} {S M : St} {t : Int32} (h0 : 0 ≤ t.toInt) (h1 : t.toInt ≤ 100 * n) (h : Rel n S M) : Rel n (sU S 0 7 t) (sU M 0 0 t) := by
  obtain ⟨⟨e1, e2, e3, e4, e5, e6, e7, e8, e9, e10, e11⟩, ⟨r1, r2, r3, r4, r5, r6⟩, hB, hN, hD, hK, hH⟩ := h
  refine ⟨⟨e1, e2, e3, e4, e5, e6, e7, e8, e9, e10, rfl⟩, ⟨r1, r2, r3, r4, r5, h0, h1⟩, RelB_c (fun i a b => sU_ne (by omega)) rfl hB, RelN_c (fun i a b => sU_ne (by omega)) rfl rfl (fun _ q => q) rfl rfl rfl hN, RelD_c rfl rfl hD, hK, RelH_c (n := n) (S := S) rfl rfl rfl rfl rfl (by rw [swc_congr (S := S) (S' := sU S 0 7 t) rfl]; omega) hH⟩
theorem loans_lp {n : Nat} {S M : St} {p1 : Int32} {A B : St} (hB : lp1_X4_pass M p1 0 = B) (h : Rel n A B) (m : Nat) (hm : m ≤ 30) : Rel n (lp1_X1_endLoans A (A 0 7) m) (lp1_X4_pass M p1 m) ∧ lp1_X4_pass M p1 m 0 = B 0 := by
  induction m with
  | zero => rw [hB]; exact ⟨h, rfl⟩
  | succ m ih =>
    obtain ⟨i1, i3⟩ := ih (by omega)
    rw [e_lp1_X1_endLoans, e_lp1_X4_pass]
    have ht := h.1.2.2.2.2.2.2.2.2.2.2
    generalize A 0 7 = t at i1 ht
    generalize lp1_X1_endLoans A t m = C at i1
    generalize lp1_X4_pass M p1 m = D at i1 i3
    unfold st1_X1_endLoans st1_X4_pass
    rw [nI_clamp (show m < 2 ^ 31 by omega), ← i1.1.2.2.2.2.2.2.2.1, i3, ← ht, sU_same (i := 4) (k := m) (x := D 4 m) rfl, ← i1.1.2.2.2.1]
    by_cases h1 : C 7 m = 3
    · rw [if_pos h1, if_pos h1]
      by_cases h2 : t < C 12 m
      · rw [if_pos h2, if_pos h2]; exact ⟨i1, i3⟩
      · rw [if_neg h2, if_neg h2]
        exact ⟨Rel_st (by decide) (by decide) i1, (sU_ne (by decide)).trans i3⟩
    · rw [if_neg h1, if_neg h1]; exact ⟨i1, i3⟩
theorem pass_lp {n : Nat} {S M : St} {p1 : Int32} {B : St} (hn : n ≤ 512) (hS : Rel n (lp1_X3_pass S p1 0) (lp2_X4_pass M p1 0)) (hB : lp2_X4_pass M p1 0 0 = B 0) (m : Nat) (hm : m ≤ 8) : Rel n (lp1_X3_pass S p1 m) (lp2_X4_pass M p1 m) ∧ lp2_X4_pass M p1 m 0 = B 0 := by
  induction m with
  | zero => exact ⟨hS, hB⟩
  | succ m ih =>
    obtain ⟨i1, i3⟩ := ih (by omega)
    rw [e_lp1_X3_pass, e_lp2_X4_pass]
    generalize lp1_X3_pass S p1 m = C at i1
    generalize lp2_X4_pass M p1 m = D at i1 i3
    have hk : vp_in (nI m) 8 := vp_in_nI (by omega) (by decide)
    unfold st1_X3_pass st2_X4_pass
    rw [ban_eq i1 hn hk]
    by_cases h1 : r_X4_banned D (nI m) = 0
    · rw [if_pos h1, if_pos h1]; exact ⟨i1, i3⟩
    · rw [if_neg h1, if_neg h1]
      obtain ⟨c1, c2, c3⟩ := clears_eq i1 hk
      exact ⟨c1, c3.trans i3⟩
theorem sim_pass {n : Nat} {S M : St} (h : Rel n S M) (hn : n < 512) (p1 : Int32) : r_X4_thrown (s_X4_pass M p1) = k_L_pass S p1 ∧ (k_L_pass S p1 = 0 → ∀ F : Nat → Int64, f_L_pass S p1 F 0 = (r_X4_pass M p1).toInt64) ∧ Rel (n + 1) (s_L_pass S p1) (s_X4_pass M p1) := by
  have x0 := h.1.2.2.2.2.2.2.2.2.2.2
  have ht := h.2.1.2.2.2.2.2
  by_cases hd : 1 ≤ p1.toInt ∧ p1.toInt ≤ 100
  · have e5 : r_X4_in p1 1 100 = 1 := in_t (by rw [c_1]; exact hd.1) (by rw [c_100]; exact hd.2)
    have d1 : ¬ p1 < 1 := by rw [i_lt, c_1]; omega
    have d2 : p1 ≤ 100 := by rw [i_le, c_100]; omega
    have ea : (S 0 7 + p1).toInt = (S 0 7).toInt + p1.toInt := i_add (by omega) (by omega)
    have hx : x_X3_pass S p1 = none := by simp [x_X3_pass, d1, d2]
    have hB0 : lp1_X4_pass M p1 0 = sU (sU M 0 16 0) 0 0 (S 0 7 + p1) := by
      rw [x0]
      simp only [lp1_X4_pass, as1, e5, if_false]
      rfl
    have hR : Rel (n + 1) (sU S 0 7 (S 0 7 + p1)) (sU (sU M 0 16 0) 0 0 (S 0 7 + p1)) := Rel_day (by omega) (by omega) (Rel_thr 0 (Rel_mono h))
    have hc := h.hcnt
    unfold cntC at hc
    have hcc := i_nat hc.1
    have hl := loans_lp (S := S) hB0 hR (S 4 8).toNatClampNeg (by omega)
    have hz : lp2_X4_pass M p1 0 = lp1_X4_pass M p1 (S 4 8).toNatClampNeg := by
      unfold lp2_X4_pass
      rw [← h.1.1]
    have hp := pass_lp (S := S) (M := M) (p1 := p1) (B := sU (sU M 0 16 0) 0 0 (S 0 7 + p1)) (n := n + 1) (by omega) (by rw [hz]; exact hl.1) (by rw [hz]; exact hl.2) 8 (Nat.le_refl _)
    have hM : s_X4_pass M p1 = lp2_X4_pass M p1 8 := by simp [s_X4_pass, ar1, e5]
    have hS : s_L_pass S p1 = lp1_X3_pass S p1 8 := by simp [s_L_pass, hx, s_X3_pass, d1, d2]
    have hr0 : r_X3_pass S p1 = lp1_X3_pass S p1 8 0 7 := by simp [r_X3_pass, d1, d2]
    have hr1 : r_X4_pass M p1 = lp2_X4_pass M p1 8 0 0 := by simp [r_X4_pass, ar1, e5]
    obtain ⟨q1, q2⟩ := hp
    clear hl hz hB0
    generalize lp1_X3_pass S p1 8 = X at hS hr0 q1
    generalize lp2_X4_pass M p1 8 = Y at hM hr1 q1 q2
    have hr : r_X3_pass S p1 = r_X4_pass M p1 := hr0.trans (q1.1.2.2.2.2.2.2.2.2.2.2.trans hr1.symm)
    refine good3 (by simp [k_L_pass, hx]) (by rw [hM]; exact (congrFun q2 16).trans rfl) (fun F => by simp [f_L_pass, hx, vp_updL, hr]) ?_
    rw [hM, hS]
    exact q1
  · have e5 : r_X4_in p1 1 100 = 0 := in_f (by rw [c_1, c_100]; exact hd)
    have hx : x_X3_pass S p1 = some v_E2 := by
      by_cases d1 : p1 < 1
      · simp [x_X3_pass, d1]
      · have d2 : ¬ p1 ≤ 100 := by rw [i_lt, c_1] at d1; rw [i_le, c_100]; omega
        simp [x_X3_pass, d1, d2]
    exact fail3 h (v := 1) (by decide) (by simp [s_X4_pass, as1, ar1, e5]) (by simp [k_L_pass, hx]) (by simp [s_L_pass, hx])
