theorem Rel_up {n m : Nat} {S M : St} (hm : n ≤ m) (h : Rel n S M) : Rel m S M := by
  induction hm with
  | refl => exact h
  | step _ ih => exact Rel_mono ih
theorem rec_eq {S : St} {x p : Int32} (h : S 26 2 < 512) : s_X2_record S x p = sU (sU (sU S 27 (S 26 2).toNatClampNeg x) 28 (S 26 2).toNatClampNeg p) 26 2 (S 26 2 + 1) := by
  unfold s_X2_record
  rw [if_pos h]
  rfl
theorem lo_rec {S : St} {x p : Int32} (y : Int32) (h0 : 0 ≤ (S 26 2).toInt) (h1 : (S 26 2).toInt < 512) : r_X2_lastOwner (sU (sU (sU S 27 (S 26 2).toNatClampNeg x) 28 (S 26 2).toNatClampNeg p) 26 2 (S 26 2 + 1)) y = if x = y then p else r_X2_lastOwner S y := by
  have hK := i_nat h0
  generalize hk : (S 26 2).toNatClampNeg = K at hK ⊢
  generalize hU : sU (sU (sU S 27 K x) 28 K p) 26 2 (S 26 2 + 1) = U
  have u26 : U 26 2 = S 26 2 + 1 := by rw [← hU]; rfl
  have u27 : ∀ j, U 27 j = if j = K then x else S 27 j := fun j => by rw [← hU]; rfl
  have u28 : ∀ j, U 28 j = if j = K then p else S 28 j := fun j => by rw [← hU]; rfl
  have e1 : (S 26 2 + 1).toInt = (S 26 2).toInt + 1 := by rw [i_add (by rw [c_1]; omega) (by rw [c_1]; omega), c_1]
  have e2 : (S 26 2 + 1).toNatClampNeg = K + 1 := by
    have := i_nat (x := S 26 2 + 1) (by omega)
    omega
  have key : ∀ k, k ≤ K → lp1_X2_lastOwner U y k = lp1_X2_lastOwner S y k := by
    intro k hkK
    induction k with
    | zero => rfl
    | succ k ih =>
      rw [e_lp1_X2_lastOwner, e_lp1_X2_lastOwner, ih (by omega)]
      unfold st1_X2_lastOwner
      rw [nI_clamp (show k < 2 ^ 31 by omega), u27, u28, if_neg (show ¬ k = K by omega), if_neg (show ¬ k = K by omega)]
  unfold r_X2_lastOwner
  rw [u26, e2, hk, e_lp1_X2_lastOwner, key K (Nat.le_refl _)]
  unfold st1_X2_lastOwner
  rw [nI_clamp (show K < 2 ^ 31 by omega), u27, u28, if_pos rfl, if_pos rfl]
/-- a card gets an owner -/
theorem Rel_gv {n : Nat} {S M : St} {x p : Int32} (hn : n ≤ 512) (hx : inC S x) (hp : vp_in p 5) (hb : (S 26 2).toInt + swc S 30 + 1 ≤ n + (if S 7 x.toNatClampNeg = 2 then 1 else 0 : Nat)) (h : Rel n S M) : Rel n (s_X3_giveTo S x p) (sU (sU M 3 x.toNatClampNeg p) 4 x.toNatClampNeg 0) := by
  obtain ⟨⟨e1, e2, e3, e4, e5, e6, e7, e8, e9, e10, e11⟩, ⟨r1, r2, r3, r4, r5, r6⟩, hB, hN, hD, hK, ⟨a1, a2, a3⟩⟩ := h
  have hcn := r1
  unfold cntC at hcn
  unfold hisC at a1
  unfold inC at hx
  have hxn := i_nI hx.1
  have hxi := i_nat hx.1
  have hw := swc_upd (S := S) (c := x.toNatClampNeg) (v := 0) (by decide) 30
  generalize hc : x.toNatClampNeg = c at hxn hxi hw hb ⊢
  have hc30 : c < 30 := by omega
  have hlt : (S 26 2).toInt < 512 := by
    by_cases z : S 7 c = 2
    · rw [if_pos z] at hb
      rw [if_pos ⟨hc30, z⟩] at hw
      omega
    · rw [if_neg z] at hb
      omega
  have e26 : (S 26 2 + 1).toInt = (S 26 2).toInt + 1 := by rw [i_add (by rw [c_1]; omega) (by rw [c_1]; omega), c_1]
  have hS : s_X3_giveTo S x p = sU (sU (sU (sU (sU S 6 c p) 7 c 0) 27 (S 26 2).toNatClampNeg x) 28 (S 26 2).toNatClampNeg p) 26 2 (S 26 2 + 1) := by
    unfold s_X3_giveTo
    rw [hc, rec_eq (by rw [i_lt, c_512]; exact hlt)]
    rfl
  have hlo := fun y => lo_rec (S := sU (sU S 6 c p) 7 c 0) (x := x) (p := p) y a1.1 hlt
  rw [hS]
  have f : ∀ i, 7 < i → i < 26 → sU (sU (sU (sU (sU S 6 c p) 7 c 0) 27 (S 26 2).toNatClampNeg x) 28 (S 26 2).toNatClampNeg p) 26 2 (S 26 2 + 1) i = S i := fun i q1 q2 => (((sU_ne (by omega)).trans (sU_ne (by omega))).trans (sU_ne (by omega))).trans ((sU_ne (by omega)).trans (sU_ne (by omega)))
  have f7 : ∀ i, upd (S 7) c 0 i = 1 → S 7 i = 1 := by
    intro i hi
    rw [upd_at] at hi
    by_cases q : i = c
    · rw [if_pos q] at hi; exact absurd hi (by decide)
    · rw [if_neg q] at hi; exact hi
  refine ⟨⟨e1, e2, ?_, ?_, e5, e6, e7, e8, e9, e10, e11⟩, ⟨r1, r2, fun j => ?_, r4, fun j hj => r5 j (f7 j hj), r6⟩, RelB_c (fun i a b => f i (by omega) (by omega)) rfl hB, RelN_c (fun i a b => f i (by omega) (by omega)) rfl rfl f7 rfl rfl rfl hN, RelD_c rfl rfl hD, hK, ⟨?_, ?_, fun j hj => ?_⟩⟩
  · show upd (S 6) c p = upd (M 3) c p
    rw [e3]
  · show upd (S 7) c 0 = upd (M 4) c 0
    rw [e4]
  · show vp_in (upd (S 6) c p j) 5
    rw [upd_at]
    split
    · exact hp
    · exact r3 j
  · show 0 ≤ (S 26 2 + 1).toInt ∧ (S 26 2 + 1).toInt ≤ 512
    rw [e26]; omega
  · have e : swc (sU (sU (sU (sU (sU S 6 c p) 7 c 0) 27 (S 26 2).toNatClampNeg x) 28 (S 26 2).toNatClampNeg p) 26 2 (S 26 2 + 1)) 30 = swc (sU S 7 c 0) 30 := swc_congr rfl 30
    show (S 26 2 + 1).toInt + _ ≤ _
    rw [e26, e]
    by_cases z : S 7 c = 2
    · rw [if_pos z] at hb
      rw [if_pos ⟨hc30, z⟩] at hw
      omega
    · rw [if_neg z] at hb
      rw [if_neg (fun q => z q.2)] at hw
      omega
  · have hj2 : j < (S 4 8).toNatClampNeg := hj
    have := i_nat (x := S 4 8) (by omega)
    have q1 := hlo (nI j)
    have q2 : r_X2_lastOwner (sU (sU S 6 c p) 7 c 0) (nI j) = S 6 j := (@lo_congr S (sU (sU S 6 c p) 7 c 0) rfl rfl rfl (nI j)).trans (a3 j hj2)
    rw [q2] at q1
    refine q1.trans ?_
    show _ = upd (S 6) c p j
    rw [upd_at, hxn]
    by_cases z : j = c
    · rw [if_pos z, if_pos (by rw [z])]
    · rw [if_neg z, if_neg]
      intro y
      have := congrArg Int32.toNatClampNeg y
      rw [nI_clamp (by omega), nI_clamp (by omega)] at this
      exact z this.symm
theorem sim_mint {n : Nat} {S M : St} (h : Rel n S M) (hn : n < 512) (p1 p2 : Int32) : r_X4_thrown (s_X4_mint M p1 p2) = k_L_mint S p1 p2 ∧ (k_L_mint S p1 p2 = 0 → ∀ F : Nat → Int64, f_L_mint S p1 p2 F 0 = (r_X4_mint M p1 p2).toInt64) ∧ Rel (n + 1) (s_L_mint S p1 p2) (s_X4_mint M p1 p2) := by
  obtain ⟨x10, x2, x3, x4, x5, x7, x8, x9, x1, x15, x0⟩ := h.1
  by_cases hp : vp_in p1 5
  · have e1 := np_t hp
    have e2 := ip_t hp
    by_cases hk : vp_in p2 8
    · have e3 := nk_t hk
      have e4 := ik_t hk
      by_cases h1 : S 4 8 < 30
      · have h2 : ¬ 30 ≤ M 0 10 := by
          rw [← x10]
          exact fun q => nlt.mpr q h1
        have hx : x_X3_mint S p1 p2 = none := by simp [x_X3_mint, e1, e3, r_X1_isFull, h1]
        obtain ⟨⟨b1, b2, b3, b4, b5, b6, b7, b8, b9, b10, b11⟩, ⟨r1, r2, r3, r4, r5, r6⟩, hB, hN, hD, hK, ⟨a1, a2, a3⟩⟩ := Rel_mono h
        have a2' := h.2.2.2.2.2.2.2.1
        unfold hisC at a1
        unfold cntC at r1
        rw [i_lt, c_30] at h1
        have hC := i_nat r1.1
        have hCn := i_nI r1.1
        have eC : (S 4 8 + 1).toInt = (S 4 8).toInt + 1 := by rw [i_add (by rw [c_1]; omega) (by rw [c_1]; omega), c_1]
        have eC2 : (S 4 8 + 1).toNatClampNeg = (S 4 8).toNatClampNeg + 1 := by
          have := i_nat (x := S 4 8 + 1) (by omega)
          omega
        have hlt : (S 26 2).toInt < 512 := by omega
        have e26 : (S 26 2 + 1).toInt = (S 26 2).toInt + 1 := by rw [i_add (by rw [c_1]; omega) (by rw [c_1]; omega), c_1]
        have hM : s_X4_mint M p1 p2 = sU (sU (sU (sU (sU M 0 16 0) 2 (S 4 8).toNatClampNeg p2) 3 (S 4 8).toNatClampNeg p1) 4 (S 4 8).toNatClampNeg 0) 0 10 (S 4 8 + 1) := by
          rw [x10]
          simp [s_X4_mint, as2, ar2, e2, e4, h2, sU_ne, sU_eq, upd_at]
        have hS : s_L_mint S p1 p2 = sU (sU (sU (sU (sU (sU (sU S 5 (S 4 8).toNatClampNeg p2) 6 (S 4 8).toNatClampNeg p1) 7 (S 4 8).toNatClampNeg 0) 4 8 (S 4 8 + 1)) 27 (S 26 2).toNatClampNeg (S 4 8)) 28 (S 26 2).toNatClampNeg p1) 26 2 (S 26 2 + 1) := by
          have h3 : S 4 8 < 30 := by rw [i_lt, c_30]; exact h1
          simp only [s_L_mint, hx, s_X3_mint, e1, e3, r_X1_isFull, h3, if_true]
          rw [rec_eq (by rw [i_lt, c_512]; exact hlt)]
          rfl
        have hr : r_X3_mint S p1 p2 = r_X4_mint M p1 p2 := by
          have h3 : S 4 8 < 30 := by rw [i_lt, c_30]; exact h1
          have a1 : r_X3_mint S p1 p2 = S 4 8 := by simp [r_X3_mint, e1, e3, r_X1_isFull, h3, r_X1_add]
          have a2 : r_X4_mint M p1 p2 = S 4 8 + 1 - 1 := by
            rw [x10]
            simp only [r_X4_mint, as2, ar2, e2, e4, h2, if_true, if_false]
            rfl
          rw [a1, a2, i_eq, i_sub (by rw [eC, c_1]; omega) (by rw [eC, c_1]; omega), eC, c_1]
          omega
        refine good3 (by simp [k_L_mint, hx]) (by rw [hM]; rfl) (fun F => by simp [f_L_mint, hx, vp_updL, hr]) ?_
        rw [hM, hS]
        generalize hc : (S 4 8).toNatClampNeg = c at hC hCn eC2
        have hlo := fun y => lo_rec (S := sU (sU (sU (sU S 5 c p2) 6 c p1) 7 c 0) 4 8 (S 4 8 + 1)) (x := S 4 8) (p := p1) y a1.1 hlt
        have f7 : ∀ i, upd (S 7) c 0 i = 1 → S 7 i = 1 := by
          intro i hi
          rw [upd_at] at hi
          by_cases q : i = c
          · rw [if_pos q] at hi; exact absurd hi (by decide)
          · rw [if_neg q] at hi; exact hi
        have f : ∀ i, 7 < i → i < 26 → sU (sU (sU (sU (sU (sU (sU S 5 c p2) 6 c p1) 7 c 0) 4 8 (S 4 8 + 1)) 27 (S 26 2).toNatClampNeg (S 4 8)) 28 (S 26 2).toNatClampNeg p1) 26 2 (S 26 2 + 1) i = S i := fun i q1 q2 => (((sU_ne (by omega)).trans (sU_ne (by omega))).trans ((sU_ne (by omega)).trans (sU_ne (by omega)))).trans (((sU_ne (by omega)).trans (sU_ne (by omega))).trans (sU_ne (by omega)))
        refine ⟨⟨rfl, ?_, ?_, ?_, b5, b6, b7, b8, b9, b10, b11⟩, ⟨?_, fun j => ?_, fun j => ?_, fun j => ?_, fun j hj => r5 j (f7 j hj), r6⟩, RelB_c (fun i a b => f i (by omega) (by omega)) rfl hB, RelN_c (fun i a b => f i (by omega) (by omega)) rfl rfl f7 rfl rfl rfl hN, RelD_c rfl rfl hD, fun q hq => ?_, ⟨?_, ?_, fun j hj => ?_⟩⟩
        · show upd (S 5) c p2 = upd (M 2) c p2
          rw [b2]
        · show upd (S 6) c p1 = upd (M 3) c p1
          rw [b3]
        · show upd (S 7) c 0 = upd (M 4) c 0
          rw [b4]
        · show 0 ≤ (S 4 8 + 1).toInt ∧ (S 4 8 + 1).toInt ≤ 30
          rw [eC]; omega
        · show vp_in (upd (S 5) c p2 j) 8
          rw [upd_at]
          split
          · exact hk
          · exact r2 j
        · show vp_in (upd (S 6) c p1 j) 5
          rw [upd_at]
          split
          · exact hp
          · exact r3 j
        · show vp_in (S 10 j) 30 ∧ (S 10 j = 0 ∨ (S 10 j).toInt < (S 4 8 + 1).toInt)
          rw [eC]
          refine ⟨(r4 j).1, ?_⟩
          rcases (r4 j).2 with z | z
          · exact Or.inl z
          · exact Or.inr (by omega)
        · have hq2 := hK q hq
          show (S 3 q).toBitVec.toNat < 2 ^ (S 4 8 + 1).toNatClampNeg
          rw [eC2, Nat.pow_succ]
          rw [hc] at hq2
          omega
        · show 0 ≤ (S 26 2 + 1).toInt ∧ (S 26 2 + 1).toInt ≤ 512
          rw [e26]; omega
        · have e : swc (sU (sU (sU (sU (sU (sU (sU S 5 c p2) 6 c p1) 7 c 0) 4 8 (S 4 8 + 1)) 27 (S 26 2).toNatClampNeg (S 4 8)) 28 (S 26 2).toNatClampNeg p1) 26 2 (S 26 2 + 1)) 30 = swc (sU S 7 c 0) 30 := swc_congr rfl 30
          have hw := swc_le (S := S) (c := c) (v := 0) (by decide) 30
          show (S 26 2 + 1).toInt + _ ≤ _
          rw [e26, e]
          omega
        · have hj2 : j < (S 4 8 + 1).toNatClampNeg := hj
          rw [eC2] at hj2
          refine (hlo (nI j)).trans ?_
          show _ = upd (S 6) c p1 j
          rw [upd_at, @lo_congr S (sU (sU (sU (sU S 5 c p2) 6 c p1) 7 c 0) 4 8 (S 4 8 + 1)) rfl rfl rfl (nI j)]
          by_cases z : j = c
          · rw [if_pos z, if_pos (by rw [z]; exact hCn)]
          · rw [if_neg z, if_neg]
            · exact a3 j (by rw [hc]; omega)
            · intro y
              rw [hCn] at y
              have := congrArg Int32.toNatClampNeg y
              rw [nI_clamp (by omega), nI_clamp (by omega)] at this
              exact z this.symm
      · have h2 : 30 ≤ M 0 10 := by
          rw [← x10]
          exact nlt.mp h1
        exact fail3 h (v := 2) (by decide) (by simp [s_X4_mint, as2, ar2, e2, e4, h2]) (by simp [k_L_mint, x_X3_mint, e1, e3, r_X1_isFull, h1, ne31]) (by simp [s_L_mint, x_X3_mint, e1, e3, r_X1_isFull, h1])
    · have e3 := nk_f hk
      have e4 := ik_f hk
      exact fail3 h (v := 1) (by decide) (by simp [s_X4_mint, as2, ar2, e2, e4]) (by simp [k_L_mint, x_X3_mint, e1, e3]) (by simp [s_L_mint, x_X3_mint, e1, e3])
  · have e1 := np_f hp
    have e2 := ip_f hp
    exact fail3 h (v := 1) (by decide) (by simp [s_X4_mint, as2, ar2, e2]) (by simp [k_L_mint, x_X3_mint, e1]) (by simp [s_L_mint, x_X3_mint, e1])
