theorem ban_eq {n : Nat} {S M : St} (h : Rel n S M) (hn : n ≤ 512) {k : Int32} (hk : vp_in k 8) : r_X3_bannedToday S k = r_X4_banned M k := by
  have ht := h.2.1.2.2.2.2.2
  have e := h.1.2.2.2.2.2.2.2.2.2.2
  unfold r_X3_bannedToday r_X4_banned
  rcases h.2.2.2.2.1 k.toNatClampNeg (vp_lt hk) with ⟨q1, q2⟩ | ⟨q1, q2, q3⟩
  · rw [if_pos q1, q2, if_pos (by rw [i_lt, ← e, c_mil]; omega)]
  · rw [if_neg (by rw [i_eq, c_m1]; omega), q1, e]
theorem sim_owner {n : Nat} {S M : St} (h : Rel n S M) (hn : n < 512) (p1 : Int32) : r_X4_thrown (s_X4_owner M p1) = k_L_owner S p1 ∧ (k_L_owner S p1 = 0 → ∀ F : Nat → Int64, f_L_owner S p1 F 0 = (r_X4_owner M p1).toInt64) ∧ Rel (n + 1) S (s_X4_owner M p1) := by
  by_cases hc : inC S p1
  · have e1 := nc_t hc
    have e2 : r_X4_isCard M p1 = 1 := ic_t h hc
    have hx : x_X3_owner S p1 = none := by simp [x_X3_owner, e1]
    have hM : s_X4_owner M p1 = sU M 0 16 0 := by simp [s_X4_owner, as1, ar1, e2]
    have hR : r_X3_owner S p1 = r_X4_owner M p1 := by
      simp [r_X3_owner, e1, r_X4_owner, as1, ar1, e2, sU, h.1.2.2.1]
    refine ⟨by rw [hM, th]; simp [k_L_owner, hx], fun _ F => ?_, ?_⟩
    · simp [f_L_owner, hx, vp_updL, hR]
    · rw [hM]; exact Rel_thr _ (Rel_mono h)
  · have e1 := nc_f hc
    have e2 : r_X4_isCard M p1 = 0 := ic_f h hc
    have hx : x_X3_owner S p1 = some v_E1 := by simp [x_X3_owner, e1]
    have hM : s_X4_owner M p1 = sU M 0 16 1 := by simp [s_X4_owner, as1, ar1, e2]
    have hk : k_L_owner S p1 = 1 := by simp [k_L_owner, hx]
    refine ⟨by rw [hM, th, hk], fun q => absurd (hk.symm.trans q) (by decide), ?_⟩
    rw [hM]; exact Rel_thr _ (Rel_mono h)
theorem sim_ownerByHistory {n : Nat} {S M : St} (h : Rel n S M) (hn : n < 512) (p1 : Int32) : r_X4_thrown (s_X4_ownerByHistory M p1) = k_L_ownerByHistory S p1 ∧ (k_L_ownerByHistory S p1 = 0 → ∀ F : Nat → Int64, f_L_ownerByHistory S p1 F 0 = (r_X4_ownerByHistory M p1).toInt64) ∧ Rel (n + 1) S (s_X4_ownerByHistory M p1) := by
  by_cases hc : inC S p1
  · have e1 := nc_t hc
    have e2 : r_X4_isCard M p1 = 1 := ic_t h hc
    have hx : x_X3_ownerByHistory S p1 = none := by simp [x_X3_ownerByHistory, e1]
    have hM : s_X4_ownerByHistory M p1 = sU M 0 16 0 := by simp [s_X4_ownerByHistory, s_X4_owner, as1, ar1, e2]
    have hR : r_X3_ownerByHistory S p1 = r_X4_ownerByHistory M p1 := by
      have hcc := hc
      unfold inC at hcc
      have hj := h.2.2.2.2.2.2.2.2 p1.toNatClampNeg (by have := i_nat hcc.1; have := i_nat (x := S 4 8) (by omega); omega)
      rw [← i_nI hcc.1] at hj
      simp [r_X3_ownerByHistory, e1, r_X4_ownerByHistory, r_X4_owner, as1, ar1, e2, sU, hj, h.1.2.2.1]
    refine ⟨by rw [hM, th]; simp [k_L_ownerByHistory, hx], fun _ F => ?_, ?_⟩
    · simp [f_L_ownerByHistory, hx, vp_updL, hR]
    · rw [hM]; exact Rel_thr _ (Rel_mono h)
  · have e1 := nc_f hc
    have e2 : r_X4_isCard M p1 = 0 := ic_f h hc
    have hx : x_X3_ownerByHistory S p1 = some v_E1 := by simp [x_X3_ownerByHistory, e1]
    have hM : s_X4_ownerByHistory M p1 = sU M 0 16 1 := by simp [s_X4_ownerByHistory, s_X4_owner, as1, ar1, e2]
    have hk : k_L_ownerByHistory S p1 = 1 := by simp [k_L_ownerByHistory, hx]
    refine ⟨by rw [hM, th, hk], fun q => absurd (hk.symm.trans q) (by decide), ?_⟩
    rw [hM]; exact Rel_thr _ (Rel_mono h)
theorem sim_holder {n : Nat} {S M : St} (h : Rel n S M) (hn : n < 512) (p1 : Int32) : r_X4_thrown (s_X4_holder M p1) = k_L_holder S p1 ∧ (k_L_holder S p1 = 0 → ∀ F : Nat → Int64, f_L_holder S p1 F 0 = (r_X4_holder M p1).toInt64) ∧ Rel (n + 1) S (s_X4_holder M p1) := by
  by_cases hc : inC S p1
  · have e1 := nc_t hc
    have e2 : r_X4_isCard M p1 = 1 := ic_t h hc
    have hx : x_X3_holder S p1 = none := by simp [x_X3_holder, e1]
    have hM : s_X4_holder M p1 = sU M 0 16 0 := by simp [s_X4_holder, as1, ar1, e2]
    have hR : r_X3_holder S p1 = r_X4_holder M p1 := by
      simp [r_X3_holder, e1, r_X4_holder, as1, ar1, e2, sU, r_X1_holderOf, r_X4_holds, h.1.2.2.1, h.1.2.2.2.1, h.1.2.2.2.2.2.2.1]
    refine ⟨by rw [hM, th]; simp [k_L_holder, hx], fun _ F => ?_, ?_⟩
    · simp [f_L_holder, hx, vp_updL, hR]
    · rw [hM]; exact Rel_thr _ (Rel_mono h)
  · have e1 := nc_f hc
    have e2 : r_X4_isCard M p1 = 0 := ic_f h hc
    have hx : x_X3_holder S p1 = some v_E1 := by simp [x_X3_holder, e1]
    have hM : s_X4_holder M p1 = sU M 0 16 1 := by simp [s_X4_holder, as1, ar1, e2]
    have hk : k_L_holder S p1 = 1 := by simp [k_L_holder, hx]
    refine ⟨by rw [hM, th, hk], fun q => absurd (hk.symm.trans q) (by decide), ?_⟩
    rw [hM]; exact Rel_thr _ (Rel_mono h)
theorem sim_stateOf {n : Nat} {S M : St} (h : Rel n S M) (hn : n < 512) (p1 : Int32) : r_X4_thrown (s_X4_stateOf M p1) = k_L_stateOf S p1 ∧ (k_L_stateOf S p1 = 0 → ∀ F : Nat → Int64, f_L_stateOf S p1 F 0 = (r_X4_stateOf M p1).toInt64) ∧ Rel (n + 1) S (s_X4_stateOf M p1) := by
  by_cases hc : inC S p1
  · have e1 := nc_t hc
    have e2 : r_X4_isCard M p1 = 1 := ic_t h hc
    have hx : x_X3_stateOf S p1 = none := by simp [x_X3_stateOf, e1]
    have hM : s_X4_stateOf M p1 = sU M 0 16 0 := by simp [s_X4_stateOf, as1, ar1, e2]
    have hR : r_X3_stateOf S p1 = r_X4_stateOf M p1 := by
      simp [r_X3_stateOf, e1, r_X4_stateOf, as1, ar1, e2, sU, h.1.2.2.2.1]
    refine ⟨by rw [hM, th]; simp [k_L_stateOf, hx], fun _ F => ?_, ?_⟩
    · simp [f_L_stateOf, hx, vp_updL, hR]
    · rw [hM]; exact Rel_thr _ (Rel_mono h)
  · have e1 := nc_f hc
    have e2 : r_X4_isCard M p1 = 0 := ic_f h hc
    have hx : x_X3_stateOf S p1 = some v_E1 := by simp [x_X3_stateOf, e1]
    have hM : s_X4_stateOf M p1 = sU M 0 16 1 := by simp [s_X4_stateOf, as1, ar1, e2]
    have hk : k_L_stateOf S p1 = 1 := by simp [k_L_stateOf, hx]
    refine ⟨by rw [hM, th, hk], fun q => absurd (hk.symm.trans q) (by decide), ?_⟩
    rw [hM]; exact Rel_thr _ (Rel_mono h)
theorem sim_coins {n : Nat} {S M : St} (h : Rel n S M) (hn : n < 512) (p1 : Int32) : r_X4_thrown (s_X4_coins M p1) = k_L_coins S p1 ∧ (k_L_coins S p1 = 0 → ∀ F : Nat → Int64, f_L_coins S p1 F 0 = (r_X4_coins M p1).toInt64) ∧ Rel (n + 1) S (s_X4_coins M p1) := by
  by_cases hc : vp_in p1 5
  · have e1 := np_t hc
    have e2 : r_X4_isPlayer p1 = 1 := ip_t hc
    have hx : x_X3_coins S p1 = none := by simp [x_X3_coins, e1]
    have hM : s_X4_coins M p1 = sU M 0 16 0 := by simp [s_X4_coins, as1, ar1, e2]
    have hR : r_X3_coins S p1 = r_X4_coins M p1 := by
      simp [r_X3_coins, e1, r_X4_coins, as1, ar1, e2, sU, h.1.2.2.2.2.2.2.2.2.1]
    refine ⟨by rw [hM, th]; simp [k_L_coins, hx], fun _ F => ?_, ?_⟩
    · simp [f_L_coins, hx, vp_updL, hR]
    · rw [hM]; exact Rel_thr _ (Rel_mono h)
  · have e1 := np_f hc
    have e2 : r_X4_isPlayer p1 = 0 := ip_f hc
    have hx : x_X3_coins S p1 = some v_E1 := by simp [x_X3_coins, e1]
    have hM : s_X4_coins M p1 = sU M 0 16 1 := by simp [s_X4_coins, as1, ar1, e2]
    have hk : k_L_coins S p1 = 1 := by simp [k_L_coins, hx]
    refine ⟨by rw [hM, th, hk], fun q => absurd (hk.symm.trans q) (by decide), ?_⟩
    rw [hM]; exact Rel_thr _ (Rel_mono h)
theorem sim_isBanned {n : Nat} {S M : St} (h : Rel n S M) (hn : n < 512) (p1 : Int32) : r_X4_thrown (s_X4_isBanned M p1) = k_L_isBanned S p1 ∧ (k_L_isBanned S p1 = 0 → ∀ F : Nat → Int64, f_L_isBanned S p1 F 0 = (if r_X4_isBanned M p1 = 0 then 0 else 1)) ∧ Rel (n + 1) S (s_X4_isBanned M p1) := by
  by_cases hc : vp_in p1 8
  · have e1 := nk_t hc
    have e2 : r_X4_isKind p1 = 1 := ik_t hc
    have hx : x_X3_isBanned S p1 = none := by simp [x_X3_isBanned, e1]
    have hM : s_X4_isBanned M p1 = sU M 0 16 0 := by simp [s_X4_isBanned, as1, ar1, e2]
    have hR : r_X3_isBanned S p1 = r_X4_isBanned M p1 := by
      have hb := ban_eq h (by omega) hc
      have hb2 : r_X4_banned (sU M 0 16 0) p1 = r_X4_banned M p1 := rfl
      simp only [r_X3_isBanned, e1, if_true, r_X4_isBanned, as1, ar1, e2]
      rw [hb]
      rcases b_X4_banned M p1 with q | q
      · simp [hb2, q]
      · simp [hb2, q]
    refine ⟨by rw [hM, th]; simp [k_L_isBanned, hx], fun _ F => ?_, ?_⟩
    · simp [f_L_isBanned, hx, vp_updL, hR]
    · rw [hM]; exact Rel_thr _ (Rel_mono h)
  · have e1 := nk_f hc
    have e2 : r_X4_isKind p1 = 0 := ik_f hc
    have hx : x_X3_isBanned S p1 = some v_E1 := by simp [x_X3_isBanned, e1]
    have hM : s_X4_isBanned M p1 = sU M 0 16 1 := by simp [s_X4_isBanned, as1, ar1, e2]
    have hk : k_L_isBanned S p1 = 1 := by simp [k_L_isBanned, hx]
    refine ⟨by rw [hM, th, hk], fun q => absurd (hk.symm.trans q) (by decide), ?_⟩
    rw [hM]; exact Rel_thr _ (Rel_mono h)
