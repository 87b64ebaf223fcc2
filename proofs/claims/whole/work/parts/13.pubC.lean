theorem k4_X1_takeSalesOf (S : St) (p1 : Int32) : s_X1_takeSalesOf S p1 4 = S 4 := by
  have key : ∀ k, (lp1_X1_takeSalesOf S p1 k).1 4 = S 4 := by
    intro k
    induction k with
    | zero => rfl
    | succ k ih =>
      rw [e_lp1_X1_takeSalesOf]
      unfold st1_X1_takeSalesOf
      split
      · exact ih
      · exact ih
  exact key _
theorem k4_X1_endLoans (S : St) (p1 : Int32) : s_X1_endLoans S p1 4 = S 4 := by
  have key : ∀ k, lp1_X1_endLoans S p1 k 4 = S 4 := by
    intro k
    induction k with
    | zero => rfl
    | succ k ih =>
      rw [e_lp1_X1_endLoans]
      unfold st1_X1_endLoans
      repeat' split
      all_goals exact ih
  exact key _
theorem k4_X3_giveBidBack {S : St} {p1 p2 : Int32} (hp : vp_in p1 5) : s_X3_giveBidBack S p1 p2 4 = S 4 := (sU_ne (by decide)).trans (fr_X0_take S p1 p2 hp 4 (by decide))
theorem k4_X3_clearMarket (S : St) (p1 : Int32) : s_X3_clearMarket S p1 4 = S 4 := by
  have key : ∀ k, k ≤ 5 → (lp1_X3_clearMarket S p1 k).1 4 = S 4 := by
    intro k
    induction k with
    | zero => exact fun _ => k4_X1_takeSalesOf S p1
    | succ k ih =>
      intro hk
      have ih := ih (by omega)
      rw [e_lp1_X3_clearMarket]
      unfold st1_X3_clearMarket
      split
      · exact ih
      · exact (k4_X3_giveBidBack (vp_in_nI (by omega) (by decide))).trans ih
  exact key 5 (Nat.le_refl _)
def st1_X3_deckIsRight (S : St) (p1 : Int32) (k : Nat) (qG : Int32) : Int32 :=
  (if qG = 0 then 0 else (if (r_X3_inDeck S p1 (nI k)) = 0 then 1 else (if (r_X3_isPlayable S p1 (nI k)) = 0 then 0 else 1)))
def lp1_X3_deckIsRight (S : St) (p1 : Int32) : Nat → Int32
  | 0 => 1
  | k + 1 => st1_X3_deckIsRight S p1 k (lp1_X3_deckIsRight S p1 k)
theorem e_lp1_X3_deckIsRight (S : St) (p1 : Int32) (k : Nat) : lp1_X3_deckIsRight S p1 (k + 1) = st1_X3_deckIsRight S p1 k (lp1_X3_deckIsRight S p1 k) := rfl
def r_X3_deckIsRight (S : St) (p1 : Int32) : Int32 :=
  (if (r_J6_bitCount_0f7a4 (S 3 p1.toNatClampNeg)) < 1 then 0 else (if (r_J6_bitCount_0f7a4 (S 3 p1.toNatClampNeg)) ≤ 5 then (lp1_X3_deckIsRight S p1 (S 4 8).toNatClampNeg) else 0))
theorem lpb_X3_deckIsRight (S : St) (p1 : Int32) (k : Nat) : lp1_X3_deckIsRight S p1 k = 0 ∨ lp1_X3_deckIsRight S p1 k = 1 := by
  induction k with
  | zero => exact Or.inr rfl
  | succ k ih =>
    rw [e_lp1_X3_deckIsRight]
    unfold st1_X3_deckIsRight
    repeat' split
    all_goals first | exact Or.inl rfl | exact Or.inr rfl
theorem lpz_X3_deckIsRight (S : St) (p1 : Int32) {j n : Nat} (h : lp1_X3_deckIsRight S p1 j = 0) (hj : j ≤ n) : lp1_X3_deckIsRight S p1 n = 0 := by
  induction n with
  | zero =>
    obtain rfl : 0 = j := by omega
    exact h
  | succ n ih =>
    by_cases e : j = n + 1
    · subst e; exact h
    · rw [e_lp1_X3_deckIsRight]
      unfold st1_X3_deckIsRight
      rw [if_pos (ih (by omega))]
theorem b_X3_deckIsRight (S : St) (p1 : Int32) : (r_X3_deckIsRight S p1) = 0 ∨ (r_X3_deckIsRight S p1) = 1 := by
  unfold r_X3_deckIsRight
  repeat' split
  all_goals first | exact Or.inl rfl | exact Or.inr rfl | exact lpb_X3_deckIsRight _ _ _
set_option maxHeartbeats 1000000 in
set_option maxRecDepth 100000 in
theorem c_X3_deckIsRight (l : Launch) (D : va_G) (cI cII cL : ClassId) (h : Nat → Nat) (S : St) (p1 : Int32) (in1_5 : vp_in p1 5) (hcnt : cntC S) (hkin : ∀ j, vp_in (S 5 j) 8) : v_Mi l D vwCl (tyl cI cII cL) yX3_deckIsRight wsX3_deckIsRight { frames := 2, cells := 0, slots := 0, locals := 44 } [.ref (h 0), .int p1] (wT h cI cII S) (r_X3_deckIsRight S p1) (wT h cI cII S) := by
  refine v_ofMi (cc := cX3_deckIsRight) (maxL := 4) (ret := (some .boolean)) (own := RX3) (lv0 := [(0, .ref (h 0)), (1, .int p1)]) (by decide) rfl rfl rfl (Nat.le_of_ble_eq_true rfl) ?_
  intro p e s m below meth c X hr hk hin
  have iX1 : ∀ w ∈ wsX10, w ∈ wsX3_deckIsRight := by decide +kernel
  have iX3 : ∀ w ∈ wsX30, w ∈ wsX3_deckIsRight := by decide +kernel
  obtain ⟨N, hN, hN30, hNc⟩ := v_num (M := 30) (by decide) hcnt
  refine v_aload_n X dX3_deckIsRight_0 rfl ?_
  refine v_getfield (ref := "Trumpvault") (ci := 3) (index := 43) (v := .ref (h 3)) X iX3 0 wT_g0 rfl 5 (by decide) (by decide +kernel) (fun _ h9 => h9) rfl dX3_deckIsRight_1 ?_
  refine v_iload_n X dX3_deckIsRight_4 rfl ?_
  refine v_iald X 3 0 wT_g3 rfl in1_5 dX3_deckIsRight_5 ?_
  refine v_callSi0 (As := [.int (S 3 p1.toNatClampNeg)]) (rest := []) X (c_J6_bitCount_0f7a4 l D cI cII cL (S 3 p1.toNatClampNeg)) (va_cwS 1 X.2.2.2.1 gX3_deckIsRight_J6_bitCount_0f7a4 rfl rfl rfl (by decide +kernel) ⟨Nat.le_of_ble_eq_true rfl, Nat.le_of_ble_eq_true rfl⟩) rfl rfl (Nat.le_of_ble_eq_true rfl) dX3_deckIsRight_6 ⟨Nat.le_of_ble_eq_true rfl, Nat.le_of_ble_eq_true rfl⟩ ?_
  refine v_istore_n (lv' := [(2, .int (r_J6_bitCount_0f7a4 (S 3 p1.toNatClampNeg))), (0, .ref (h 0)), (1, .int p1)]) X dX3_deckIsRight_9 (by decide) rfl ?_
  refine v_iload_n X dX3_deckIsRight_10 rfl ?_
  refine v_iconst (x := 1) X dX3_deckIsRight_11 rfl ?_
  refine v_icmp_lt (tgt := 20) X dX3_deckIsRight_12 (by decide) (fun c_1 => ?_) (fun c_1 => ?_)
  · refine v_iconst (x := 0) X dX3_deckIsRight_20 rfl ?_
    exact v_reti X hr hk rfl (by unfold r_X3_deckIsRight; rw [hNc, if_pos c_1]) rfl (Nat.le_of_ble_eq_true rfl) (Nat.le_of_ble_eq_true rfl) dX3_deckIsRight_21
  · refine v_iload_n X dX3_deckIsRight_15 rfl ?_
    refine v_iconst (x := 5) X dX3_deckIsRight_16 rfl ?_
    refine v_icmp_le (tgt := 22) X dX3_deckIsRight_17 (by decide) (fun c_2 => ?_) (fun c_2 => ?_)
    · refine v_iconst (x := 0) X dX3_deckIsRight_22 rfl ?_
      refine v_istore_n (lv' := [(3, .int 0), (2, .int (r_J6_bitCount_0f7a4 (S 3 p1.toNatClampNeg))), (0, .ref (h 0)), (1, .int p1)]) X dX3_deckIsRight_23 (by decide) rfl ?_
      have L_1 : ∀ (d_1 k_1 : Nat) (i_1 : Int32), k_1 + d_1 = N → i_1 = nI k_1 → (lp1_X3_deckIsRight S p1 k_1) = 1 → v_V p l e { frames := 2, cells := 0, slots := 0, locals := 44 } s m [.ref (h 0), .int p1].toArray below meth c D vwCl (va_A (wT h cI cII S) s.heap.size) 4 (v_Qi below s D vwCl (tyl cI cII cL) { frames := 2, cells := 0, slots := 0, locals := 44 } [.ref (h 0), .int p1] (wT h cI cII S) (r_X3_deckIsRight S p1) (wT h cI cII S)) 0 0 (wT h cI cII S) 24 [(3, .int i_1), (2, .int (r_J6_bitCount_0f7a4 (S 3 p1.toNatClampNeg))), (0, .ref (h 0)), (1, .int p1)] [] := by
        intro d_1
        induction d_1 with
        | zero =>
          intro k_1 i_1 hk_1 ei_1 eG
          subst ei_1
          obtain rfl : N = k_1 := by omega
          refine v_iload_n X dX3_deckIsRight_24 rfl ?_
          refine v_aload_n X dX3_deckIsRight_25 rfl ?_
          refine v_getfield (ref := "Trumpvault") (ci := 3) (index := 10) (v := .ref (h 4)) X iX3 0 wT_g0 rfl 0 (by decide) (by decide +kernel) (fun _ h9 => h9) rfl dX3_deckIsRight_26 ?_
          refine v_getfield (ref := "Trumpvault$Cards") (ci := 1) (index := 213) (v := .int (S 4 8)) X iX1 4 wT_g4 rfl 8 (by decide) (by decide +kernel) (fun _ h9 => h9) rfl dX3_deckIsRight_29 ?_
          refine v_icmp_ge (tgt := 61) X dX3_deckIsRight_32 (by decide) (fun c_3 => ?_) (fun c_3 => ?_)
          · refine v_iconst (x := 1) X dX3_deckIsRight_61 rfl ?_
            exact v_reti X hr hk rfl (by unfold r_X3_deckIsRight; rw [hNc, if_neg c_1, if_pos c_2]; exact eG.symm) rfl (Nat.le_of_ble_eq_true rfl) (Nat.le_of_ble_eq_true rfl) dX3_deckIsRight_62
          · exact absurd (by rw [hN]; exact nI_le (Nat.le_refl _) (by omega)) c_3
        | succ d_1 ih_1 =>
          intro k_1 i_1 hk_1 ei_1 eG
          subst ei_1
          have hlt_1 : k_1 < N := by omega
          have hG0 : ¬ (lp1_X3_deckIsRight S p1 k_1) = 0 := (by rw [eG]; decide)
          refine v_iload_n X dX3_deckIsRight_24 rfl ?_
          refine v_aload_n X dX3_deckIsRight_25 rfl ?_
          refine v_getfield (ref := "Trumpvault") (ci := 3) (index := 10) (v := .ref (h 4)) X iX3 0 wT_g0 rfl 0 (by decide) (by decide +kernel) (fun _ h9 => h9) rfl dX3_deckIsRight_26 ?_
          refine v_getfield (ref := "Trumpvault$Cards") (ci := 1) (index := 213) (v := .int (S 4 8)) X iX1 4 wT_g4 rfl 8 (by decide) (by decide +kernel) (fun _ h9 => h9) rfl dX3_deckIsRight_29 ?_
          refine v_icmp_ge (tgt := 61) X dX3_deckIsRight_32 (by decide) (fun c_4 => ?_) (fun c_4 => ?_)
          · exact absurd c_4 (by rw [hN]; exact nI_ge hlt_1 (by omega))
          · refine v_aload_n X dX3_deckIsRight_35 rfl ?_
            refine v_iload_n X dX3_deckIsRight_36 rfl ?_
            refine v_iload_n X dX3_deckIsRight_37 rfl ?_
            refine v_callVi (As := [.int p1, .int (nI k_1)]) (rest := []) (w' := (wT h cI cII S)) X (c_X3_inDeck l D cI cII cL h S p1 (nI k_1) in1_5) (cwV 2 X.2.2.2.1 gX3_deckIsRight_X3_inDeck rfl rfl rfl (by decide +kernel) ⟨Nat.le_of_ble_eq_true rfl, Nat.le_of_ble_eq_true rfl⟩) 0 3 rfl rfl wT_g0 rfl rfl (Nat.le_of_ble_eq_true rfl) dX3_deckIsRight_38 ⟨Nat.le_of_ble_eq_true rfl, Nat.le_of_ble_eq_true rfl⟩ ?_
            refine v_if_eq (tgt := 55) X dX3_deckIsRight_41 (by decide) (fun c_5 => ?_) (fun c_5 => ?_)
            · refine v_iinc (y := ((nI k_1) + 1)) (lv' := [(3, .int ((nI k_1) + 1)), (2, .int (r_J6_bitCount_0f7a4 (S 3 p1.toNatClampNeg))), (0, .ref (h 0)), (1, .int p1)]) X dX3_deckIsRight_55 rfl rfl (by decide) rfl ?_
              refine v_goto (tgt := 24) X dX3_deckIsRight_58 (by decide) ?_
              refine v_lv [0, 1, 2, 3] rfl ?_
              exact ih_1 (k_1 + 1) ((nI k_1) + 1) (by omega) (nI_1 k_1) (by rw [e_lp1_X3_deckIsRight]; unfold st1_X3_deckIsRight; rw [if_neg hG0, if_pos c_5])
            · refine v_aload_n X dX3_deckIsRight_44 rfl ?_
              refine v_iload_n X dX3_deckIsRight_45 rfl ?_
              refine v_iload_n X dX3_deckIsRight_46 rfl ?_
              refine v_callVi (As := [.int p1, .int (nI k_1)]) (rest := []) (w' := (wT h cI cII S)) X (c_X3_isPlayable l D cI cII cL h S p1 (nI k_1) (vp_in_nI (by omega) (by decide)) hkin) (cwV 2 X.2.2.2.1 gX3_deckIsRight_X3_isPlayable rfl rfl rfl (by decide +kernel) ⟨Nat.le_of_ble_eq_true rfl, Nat.le_of_ble_eq_true rfl⟩) 0 3 rfl rfl wT_g0 rfl rfl (Nat.le_of_ble_eq_true rfl) dX3_deckIsRight_47 ⟨Nat.le_of_ble_eq_true rfl, Nat.le_of_ble_eq_true rfl⟩ ?_
              refine v_if_ne (tgt := 55) X dX3_deckIsRight_50 (by decide) (fun c_6 => ?_) (fun c_6 => ?_)
              · refine v_iinc (y := ((nI k_1) + 1)) (lv' := [(3, .int ((nI k_1) + 1)), (2, .int (r_J6_bitCount_0f7a4 (S 3 p1.toNatClampNeg))), (0, .ref (h 0)), (1, .int p1)]) X dX3_deckIsRight_55 rfl rfl (by decide) rfl ?_
                refine v_goto (tgt := 24) X dX3_deckIsRight_58 (by decide) ?_
                refine v_lv [0, 1, 2, 3] rfl ?_
                exact ih_1 (k_1 + 1) ((nI k_1) + 1) (by omega) (nI_1 k_1) (by rw [e_lp1_X3_deckIsRight]; unfold st1_X3_deckIsRight; rw [if_neg hG0, if_neg c_5, if_neg c_6])
              · refine v_iconst (x := 0) X dX3_deckIsRight_53 rfl ?_
                have e0 : (lp1_X3_deckIsRight S p1 (k_1 + 1)) = 0 := (by rw [e_lp1_X3_deckIsRight]; unfold st1_X3_deckIsRight; rw [if_neg hG0, if_neg c_5, if_pos c_6])
                exact v_reti X hr hk rfl (by unfold r_X3_deckIsRight; rw [hNc, if_neg c_1, if_pos c_2]; exact (lpz_X3_deckIsRight S p1 e0 (by omega)).symm) rfl (Nat.le_of_ble_eq_true rfl) (Nat.le_of_ble_eq_true rfl) dX3_deckIsRight_54
      exact L_1 N 0 0 (Nat.zero_add _) (by exact nI_0.symm) rfl
    · refine v_iconst (x := 0) X dX3_deckIsRight_20 rfl ?_
      exact v_reti X hr hk rfl (by unfold r_X3_deckIsRight; rw [hNc, if_neg c_1, if_neg c_2]) rfl (Nat.le_of_ble_eq_true rfl) (Nat.le_of_ble_eq_true rfl) dX3_deckIsRight_21

def r_X3_isRight (S : St) (p1 : Int32) : Int32 :=
  (if (x_X3_needPlayer p1) = none then (r_X3_deckIsRight S p1) else 0)
def x_X3_isRight (S : St) (p1 : Int32) : Option String :=
  (if (x_X3_needPlayer p1) = none then none else (x_X3_needPlayer p1))
theorem b_X3_isRight (S : St) (p1 : Int32) : (r_X3_isRight S p1) = 0 ∨ (r_X3_isRight S p1) = 1 := by
  unfold r_X3_isRight
  repeat' split
  all_goals first | exact Or.inl rfl | exact Or.inr rfl | exact b_X3_deckIsRight _ _
set_option maxHeartbeats 1000000 in
set_option maxRecDepth 100000 in
theorem c_X3_isRight (l : Launch) (D : va_G) (cI cII cL : ClassId) (hlt : l.stackTraces = false) (h : Nat → Nat) (S : St) (p1 : Int32) (hcnt : cntC S) (hkin : ∀ j, vp_in (S 5 j) 8) : v_Xi l D vwCl (tyl cI cII cL) yX3_isRight wsX3_isRight { frames := 7, cells := 1, slots := 6, locals := 102 } [.ref (h 0), .int p1] (wT h cI cII S) (x_X3_isRight S p1) (r_X3_isRight S p1) (wT h cI cII S) := by
  refine v_ofXi (cc := cX3_isRight) (maxL := 2) (ret := (some .boolean)) (own := RX3) (lv0 := [(0, .ref (h 0)), (1, .int p1)]) hlt (by decide) rfl rfl rfl (Nat.le_of_ble_eq_true rfl) ?_
  intro p e s m below meth c X TT hr
  refine v_iload_n X dX3_isRight_0 rfl ?_
  refine v_xcallSv0 (As := [.int p1]) (rest := []) X TT.2.1 (c_X3_needPlayer l D cI cII cL hlt p1) (cwS 1 X.2.2.2.1 gX3_isRight_X3_needPlayer rfl rfl rfl (by decide +kernel) ⟨Nat.le_of_ble_eq_true rfl, Nat.le_of_ble_eq_true rfl⟩) rfl rfl (Nat.le_of_ble_eq_true rfl) dX3_isRight_1 ⟨Nat.le_of_ble_eq_true rfl, Nat.le_of_ble_eq_true rfl⟩ (fun E q9 hx => v_outG X TT ((by have c_1 : ¬ (x_X3_needPlayer p1) = none := (by rw [hx]; exact nofun); unfold x_X3_isRight; rw [if_neg c_1] : (x_X3_isRight S p1) = (x_X3_needPlayer p1)).trans hx) rfl (Nat.le_of_ble_eq_true rfl) (Nat.le_of_ble_eq_true rfl)) (fun c_1 => ?_)
  refine v_aload_n X dX3_isRight_4 rfl ?_
  refine v_iload_n X dX3_isRight_5 rfl ?_
  refine v_callVi (As := [.int p1]) (rest := []) (w' := (wT h cI cII S)) X (c_X3_deckIsRight l D cI cII cL h S p1 (needPlayer_in c_1) hcnt hkin) (cwV 1 X.2.2.2.1 gX3_isRight_X3_deckIsRight rfl rfl rfl (by decide +kernel) ⟨Nat.le_of_ble_eq_true rfl, Nat.le_of_ble_eq_true rfl⟩) 0 3 rfl rfl wT_g0 rfl rfl (Nat.le_of_ble_eq_true rfl) dX3_isRight_6 ⟨Nat.le_of_ble_eq_true rfl, Nat.le_of_ble_eq_true rfl⟩ ?_
  exact v_xreti X TT hr (narrow_b (b_X3_deckIsRight _ _)) (by unfold x_X3_isRight; rw [if_pos c_1]) (by unfold r_X3_isRight; rw [if_pos c_1]) rfl (Nat.le_of_ble_eq_true rfl) (Nat.le_of_ble_eq_true rfl) dX3_isRight_9

def r_X3_play (S : St) (p1 p2 : Int32) : Int32 :=
  (if (x_X3_needPlayer p1) = none then (if (x_X3_needPlayer p2) = none then (if p1 = p2 then 0 else (if (r_X3_deckIsRight S p1) = 0 then 0 else (if (r_X3_deckIsRight S p2) = 0 then 0 else (if (r_X3_deckStrength S p2) ≤ (r_X3_deckStrength S p1) then p1 else p2)))) else 0) else 0)
def s_X3_play (S : St) (p1 p2 : Int32) : St :=
  (if (x_X3_needPlayer p1) = none then (if (x_X3_needPlayer p2) = none then (if p1 = p2 then S else (if (r_X3_deckIsRight S p1) = 0 then S else (if (r_X3_deckIsRight S p2) = 0 then S else (if (r_X3_deckStrength S p2) ≤ (r_X3_deckStrength S p1) then (sU S 1 p1.toNatClampNeg ((S 1 p1.toNatClampNeg) + 5)) else (sU S 1 p2.toNatClampNeg ((S 1 p2.toNatClampNeg) + 5)))))) else S) else S)
def x_X3_play (S : St) (p1 p2 : Int32) : Option String :=
  (if (x_X3_needPlayer p1) = none then (if (x_X3_needPlayer p2) = none then (if p1 = p2 then some v_E2 else (if (r_X3_deckIsRight S p1) = 0 then some v_E3 else (if (r_X3_deckIsRight S p2) = 0 then some v_E3 else (if (r_X3_deckStrength S p2) ≤ (r_X3_deckStrength S p1) then none else none)))) else (x_X3_needPlayer p2)) else (x_X3_needPlayer p1))
set_option maxHeartbeats 1000000 in
set_option maxRecDepth 100000 in
theorem c_X3_play (l : Launch) (D : va_G) (cI cII cL : ClassId) (hlt : l.stackTraces = false) (h : Nat → Nat) (S : St) (p1 p2 : Int32) (hcnt : cntC S) (hkin : ∀ j, vp_in (S 5 j) 8) : v_Xi l D vwCl (tyl cI cII cL) yX3_play wsX3_play { frames := 7, cells := 3, slots := 18, locals := 102 } [.ref (h 0), .int p1, .int p2] (wT h cI cII S) (x_X3_play S p1 p2) (r_X3_play S p1 p2) (wT h cI cII (s_X3_play S p1 p2)) := by
  refine v_ofXi (cc := cX3_play) (maxL := 4) (ret := (some .int)) (own := RX3) (lv0 := [(0, .ref (h 0)), (1, .int p1), (2, .int p2)]) hlt (by decide) rfl rfl rfl (Nat.le_of_ble_eq_true rfl) ?_
  intro p e s m below meth c X TT hr
  have iX3 : ∀ w ∈ wsX30, w ∈ wsX3_play := by decide +kernel
  have tv_E2 : ∀ w ∈ (vx_atS RX3 154 v_E2 v_nm).filter goodWord, w ∈ wsX3_play := by decide +kernel
  have tv_E3 : ∀ w ∈ (vx_atS RX3 68 v_E3 v_nm).filter goodWord, w ∈ wsX3_play := by decide +kernel
  refine v_iload_n X dX3_play_0 rfl ?_
  refine v_xcallSv0 (As := [.int p1]) (rest := []) X TT.2.1 (c_X3_needPlayer l D cI cII cL hlt p1) (cwS 1 X.2.2.2.1 gX3_play_X3_needPlayer rfl rfl rfl (by decide +kernel) ⟨Nat.le_of_ble_eq_true rfl, Nat.le_of_ble_eq_true rfl⟩) rfl rfl (Nat.le_of_ble_eq_true rfl) dX3_play_1 ⟨Nat.le_of_ble_eq_true rfl, Nat.le_of_ble_eq_true rfl⟩ (fun E q9 hx => v_outG X TT ((by have c_1 : ¬ (x_X3_needPlayer p1) = none := (by rw [hx]; exact nofun); unfold x_X3_play; rw [if_neg c_1] : (x_X3_play S p1 p2) = (x_X3_needPlayer p1)).trans hx) rfl (Nat.le_of_ble_eq_true rfl) (Nat.le_of_ble_eq_true rfl)) (fun c_1 => ?_)
  refine v_iload_n X dX3_play_4 rfl ?_
  refine v_xcallSv0 (As := [.int p2]) (rest := []) X TT.2.1 (c_X3_needPlayer l D cI cII cL hlt p2) (cwS 1 X.2.2.2.1 gX3_play_X3_needPlayer rfl rfl rfl (by decide +kernel) ⟨Nat.le_of_ble_eq_true rfl, Nat.le_of_ble_eq_true rfl⟩) rfl rfl (Nat.le_of_ble_eq_true rfl) dX3_play_5 ⟨Nat.le_of_ble_eq_true rfl, Nat.le_of_ble_eq_true rfl⟩ (fun E q9 hx => v_outG X TT ((by have c_2 : ¬ (x_X3_needPlayer p2) = none := (by rw [hx]; exact nofun); unfold x_X3_play; rw [if_pos c_1, if_neg c_2] : (x_X3_play S p1 p2) = (x_X3_needPlayer p2)).trans hx) rfl (Nat.le_of_ble_eq_true rfl) (Nat.le_of_ble_eq_true rfl)) (fun c_2 => ?_)
  refine v_iload_n X dX3_play_8 rfl ?_
  refine v_iload_n X dX3_play_9 rfl ?_
  refine v_icmp_ne (tgt := 23) X dX3_play_10 (by decide) (fun c_3 => ?_) (fun c_3 => ?_)
  · refine v_aload_n X dX3_play_23 rfl ?_
    refine v_iload_n X dX3_play_24 rfl ?_
    refine v_callVi (As := [.int p1]) (rest := []) (w' := (wT h cI cII S)) X (c_X3_deckIsRight l D cI cII cL h S p1 (needPlayer_in c_1) hcnt hkin) (cwV 1 X.2.2.2.1 gX3_play_X3_deckIsRight rfl rfl rfl (by decide +kernel) ⟨Nat.le_of_ble_eq_true rfl, Nat.le_of_ble_eq_true rfl⟩) 0 3 rfl rfl wT_g0 rfl rfl (Nat.le_of_ble_eq_true rfl) dX3_play_25 ⟨Nat.le_of_ble_eq_true rfl, Nat.le_of_ble_eq_true rfl⟩ ?_
    refine v_if_eq (tgt := 39) X dX3_play_28 (by decide) (fun c_4 => ?_) (fun c_4 => ?_)
    · exact v_throwG (is := 195) (text := "one of the decks is not right") X TT v_EL3 (by decide +kernel) (by decide +kernel) tv_E3 (by decide +kernel) dX3_play_39 dX3_play_42 dX3_play_43 dX3_play_45 dX3_play_48 (by unfold x_X3_play; rw [if_pos c_1, if_pos c_2, if_neg c_3, if_pos c_4]) rfl ⟨Nat.le_of_ble_eq_true rfl, Nat.le_of_ble_eq_true rfl, Nat.le_of_ble_eq_true rfl, Nat.le_of_ble_eq_true rfl⟩ (Nat.le_of_ble_eq_true rfl) (Nat.le_of_ble_eq_true rfl)
    · refine v_aload_n X dX3_play_31 rfl ?_
      refine v_iload_n X dX3_play_32 rfl ?_
      refine v_callVi (As := [.int p2]) (rest := []) (w' := (wT h cI cII S)) X (c_X3_deckIsRight l D cI cII cL h S p2 (needPlayer_in c_2) hcnt hkin) (cwV 1 X.2.2.2.1 gX3_play_X3_deckIsRight rfl rfl rfl (by decide +kernel) ⟨Nat.le_of_ble_eq_true rfl, Nat.le_of_ble_eq_true rfl⟩) 0 3 rfl rfl wT_g0 rfl rfl (Nat.le_of_ble_eq_true rfl) dX3_play_33 ⟨Nat.le_of_ble_eq_true rfl, Nat.le_of_ble_eq_true rfl⟩ ?_
      refine v_if_ne (tgt := 49) X dX3_play_36 (by decide) (fun c_5 => ?_) (fun c_5 => ?_)
      · refine v_aload_n X dX3_play_49 rfl ?_
        refine v_iload_n X dX3_play_50 rfl ?_
        refine v_callVi (As := [.int p2]) (rest := []) (w' := (wT h cI cII S)) X (c_X3_deckStrength l D cI cII cL h S p2 (needPlayer_in c_2) hcnt) (cwV 1 X.2.2.2.1 gX3_play_X3_deckStrength rfl rfl rfl (by decide +kernel) ⟨Nat.le_of_ble_eq_true rfl, Nat.le_of_ble_eq_true rfl⟩) 0 3 rfl rfl wT_g0 rfl rfl (Nat.le_of_ble_eq_true rfl) dX3_play_51 ⟨Nat.le_of_ble_eq_true rfl, Nat.le_of_ble_eq_true rfl⟩ ?_
        refine v_aload_n X dX3_play_54 rfl ?_
        refine v_iload_n X dX3_play_55 rfl ?_
        refine v_callVi (As := [.int p1]) (rest := [.int (r_X3_deckStrength S p2)]) (w' := (wT h cI cII S)) X (c_X3_deckStrength l D cI cII cL h S p1 (needPlayer_in c_1) hcnt) (cwV 1 X.2.2.2.1 gX3_play_X3_deckStrength rfl rfl rfl (by decide +kernel) ⟨Nat.le_of_ble_eq_true rfl, Nat.le_of_ble_eq_true rfl⟩) 0 3 rfl rfl wT_g0 rfl rfl (Nat.le_of_ble_eq_true rfl) dX3_play_56 ⟨Nat.le_of_ble_eq_true rfl, Nat.le_of_ble_eq_true rfl⟩ ?_
        refine v_icmp_le (tgt := 66) X dX3_play_59 (by decide) (fun c_6 => ?_) (fun c_6 => ?_)
        · refine v_iload_n X dX3_play_66 rfl ?_
          refine v_istore_n (lv' := [(3, .int p1), (0, .ref (h 0)), (1, .int p1), (2, .int p2)]) X dX3_play_67 (by decide) rfl ?_
          refine v_aload_n X dX3_play_68 rfl ?_
          refine v_getfield (ref := "Trumpvault") (ci := 3) (index := 30) (v := .ref (h 1)) X iX3 0 wT_g0 rfl 3 (by decide) (by decide +kernel) (fun _ h9 => h9) rfl dX3_play_69 ?_
          refine v_iload_n X dX3_play_72 rfl ?_
          refine v_dup2 X dX3_play_73 rfl rfl ?_
          refine v_iald X 1 0 wT_g1 rfl (needPlayer_in c_1) dX3_play_74 ?_
          refine v_iconst (x := 5) X dX3_play_75 rfl ?_
          refine v_iadd X dX3_play_76 ?_
          refine v_iast (w' := (wT h cI cII (sU S 1 p1.toNatClampNeg ((S 1 p1.toNatClampNeg) + 5)))) X 1 0 wT_g1 rfl (needPlayer_in c_1) dX3_play_77 wT_s1 ?_
          refine v_iload_n X dX3_play_78 rfl ?_
          exact v_xreti X TT hr rfl (by unfold x_X3_play; rw [if_pos c_1, if_pos c_2, if_neg c_3, if_neg c_4, if_neg c_5, if_pos c_6]) (by unfold r_X3_play; rw [if_pos c_1, if_pos c_2, if_neg c_3, if_neg c_4, if_neg c_5, if_pos c_6]) (congrArg (fun z => (wT h cI cII z)) (by unfold s_X3_play; rw [if_pos c_1, if_pos c_2, if_neg c_3, if_neg c_4, if_neg c_5, if_pos c_6])) (Nat.le_of_ble_eq_true rfl) (Nat.le_of_ble_eq_true rfl) dX3_play_79
        · refine v_iload_n X dX3_play_62 rfl ?_
          refine v_goto (tgt := 67) X dX3_play_63 (by decide) ?_
          refine v_istore_n (lv' := [(3, .int p2), (0, .ref (h 0)), (1, .int p1), (2, .int p2)]) X dX3_play_67 (by decide) rfl ?_
          refine v_aload_n X dX3_play_68 rfl ?_
          refine v_getfield (ref := "Trumpvault") (ci := 3) (index := 30) (v := .ref (h 1)) X iX3 0 wT_g0 rfl 3 (by decide) (by decide +kernel) (fun _ h9 => h9) rfl dX3_play_69 ?_
          refine v_iload_n X dX3_play_72 rfl ?_
          refine v_dup2 X dX3_play_73 rfl rfl ?_
          refine v_iald X 1 0 wT_g1 rfl (needPlayer_in c_2) dX3_play_74 ?_
          refine v_iconst (x := 5) X dX3_play_75 rfl ?_
          refine v_iadd X dX3_play_76 ?_
          refine v_iast (w' := (wT h cI cII (sU S 1 p2.toNatClampNeg ((S 1 p2.toNatClampNeg) + 5)))) X 1 0 wT_g1 rfl (needPlayer_in c_2) dX3_play_77 wT_s1 ?_
          refine v_iload_n X dX3_play_78 rfl ?_
          exact v_xreti X TT hr rfl (by unfold x_X3_play; rw [if_pos c_1, if_pos c_2, if_neg c_3, if_neg c_4, if_neg c_5, if_neg c_6]) (by unfold r_X3_play; rw [if_pos c_1, if_pos c_2, if_neg c_3, if_neg c_4, if_neg c_5, if_neg c_6]) (congrArg (fun z => (wT h cI cII z)) (by unfold s_X3_play; rw [if_pos c_1, if_pos c_2, if_neg c_3, if_neg c_4, if_neg c_5, if_neg c_6])) (Nat.le_of_ble_eq_true rfl) (Nat.le_of_ble_eq_true rfl) dX3_play_79
      · exact v_throwG (is := 195) (text := "one of the decks is not right") X TT v_EL3 (by decide +kernel) (by decide +kernel) tv_E3 (by decide +kernel) dX3_play_39 dX3_play_42 dX3_play_43 dX3_play_45 dX3_play_48 (by unfold x_X3_play; rw [if_pos c_1, if_pos c_2, if_neg c_3, if_neg c_4, if_pos c_5]) rfl ⟨Nat.le_of_ble_eq_true rfl, Nat.le_of_ble_eq_true rfl, Nat.le_of_ble_eq_true rfl, Nat.le_of_ble_eq_true rfl⟩ (Nat.le_of_ble_eq_true rfl) (Nat.le_of_ble_eq_true rfl)
  · exact v_throwG (is := 193) (text := "a match needs two players") X TT v_EL2 (by decide +kernel) (by decide +kernel) tv_E2 (by decide +kernel) dX3_play_13 dX3_play_16 dX3_play_17 dX3_play_19 dX3_play_22 (by unfold x_X3_play; rw [if_pos c_1, if_pos c_2, if_pos c_3]) rfl ⟨Nat.le_of_ble_eq_true rfl, Nat.le_of_ble_eq_true rfl, Nat.le_of_ble_eq_true rfl, Nat.le_of_ble_eq_true rfl⟩ (Nat.le_of_ble_eq_true rfl) (Nat.le_of_ble_eq_true rfl)

def st1_X3_pass (S : St) (p1 : Int32) (k : Nat) (qS : St) : St :=
  (if (r_X3_bannedToday qS (nI k)) = 0 then qS else (s_X3_clearMarket qS (nI k)))
def lp1_X3_pass (S : St) (p1 : Int32) : Nat → St
  | 0 => (s_X1_endLoans (sU S 0 7 ((S 0 7) + p1)) ((sU S 0 7 ((S 0 7) + p1)) 0 7))
  | k + 1 => st1_X3_pass S p1 k (lp1_X3_pass S p1 k)
theorem e_lp1_X3_pass (S : St) (p1 : Int32) (k : Nat) : lp1_X3_pass S p1 (k + 1) = st1_X3_pass S p1 k (lp1_X3_pass S p1 k) := rfl
def r_X3_pass (S : St) (p1 : Int32) : Int32 :=
  (if p1 < 1 then 0 else (if p1 ≤ 100 then ((lp1_X3_pass S p1 8) 0 7) else 0))
def s_X3_pass (S : St) (p1 : Int32) : St :=
  (if p1 < 1 then S else (if p1 ≤ 100 then (lp1_X3_pass S p1 8) else S))
def x_X3_pass (S : St) (p1 : Int32) : Option String :=
  (if p1 < 1 then some v_E2 else (if p1 ≤ 100 then none else some v_E2))
theorem lp4_X3_pass (S : St) (p1 : Int32) (k : Nat) (hk : k ≤ 8) : lp1_X3_pass S p1 k 4 = S 4 := by
  induction k with
  | zero => exact k4_X1_endLoans _ _
  | succ k ih =>
    have ih := ih (by omega)
    rw [e_lp1_X3_pass]
    unfold st1_X3_pass
    split
    · exact ih
    · exact (k4_X3_clearMarket _ _).trans ih
set_option maxHeartbeats 1000000 in
set_option maxRecDepth 100000 in
theorem c_X3_pass (l : Launch) (D : va_G) (cI cII cL : ClassId) (hlt : l.stackTraces = false) (h : Nat → Nat) (S : St) (p1 : Int32) (hcnt : cntC S) : v_Xi l D vwCl (tyl cI cII cL) yX3_pass wsX3_pass { frames := 6, cells := 1, slots := 6, locals := 82 } [.ref (h 0), .int p1] (wT h cI cII S) (x_X3_pass S p1) (r_X3_pass S p1) (wT h cI cII (s_X3_pass S p1)) := by
  refine v_ofXi (cc := cX3_pass) (maxL := 3) (ret := (some .int)) (own := RX3) (lv0 := [(0, .ref (h 0)), (1, .int p1)]) hlt (by decide) rfl rfl rfl (Nat.le_of_ble_eq_true rfl) ?_
  intro p e s m below meth c X TT hr
  have iX3 : ∀ w ∈ wsX30, w ∈ wsX3_pass := by decide +kernel
  have tv_E2 : ∀ w ∈ (vx_atS RX3 154 v_E2 v_nm).filter goodWord, w ∈ wsX3_pass := by decide +kernel
  refine v_iload_n X dX3_pass_0 rfl ?_
  refine v_iconst (x := 1) X dX3_pass_1 rfl ?_
  refine v_icmp_lt (tgt := 11) X dX3_pass_2 (by decide) (fun c_1 => ?_) (fun c_1 => ?_)
  · exact v_throwG (is := 177) (text := "days out of range") X TT v_EL2 (by decide +kernel) (by decide +kernel) tv_E2 (by decide +kernel) dX3_pass_11 dX3_pass_14 dX3_pass_15 dX3_pass_17 dX3_pass_20 (by unfold x_X3_pass; rw [if_pos c_1]) rfl ⟨Nat.le_of_ble_eq_true rfl, Nat.le_of_ble_eq_true rfl, Nat.le_of_ble_eq_true rfl, Nat.le_of_ble_eq_true rfl⟩ (Nat.le_of_ble_eq_true rfl) (Nat.le_of_ble_eq_true rfl)
  · refine v_iload_n X dX3_pass_5 rfl ?_
    refine v_bipush (x := 100) X dX3_pass_6 rfl ?_
    refine v_icmp_le (tgt := 21) X dX3_pass_8 (by decide) (fun c_2 => ?_) (fun c_2 => ?_)
    · refine v_aload_n X dX3_pass_21 rfl ?_
      refine v_dup X dX3_pass_22 rfl ?_
      refine v_getfield (ref := "Trumpvault") (ci := 3) (index := 50) (v := .int (S 0 7)) X iX3 0 wT_g0 rfl 7 (by decide) (by decide +kernel) (fun _ h9 => h9) rfl dX3_pass_23 ?_
      refine v_iload_n X dX3_pass_26 rfl ?_
      refine v_iadd X dX3_pass_27 ?_
      refine v_putfield (w' := (wT h cI cII (sU S 0 7 ((S 0 7) + p1)))) (ref := "Trumpvault") (ci := 3) (index := 50) (ty := .int) X iX3 tyX3 tyX3_ok nmX3 0 wT_g0 rfl 7 (by decide) (by decide +kernel) (fun _ h9 => h9) rfl (by decide +kernel) rfl rfl (Nat.le_of_ble_eq_true rfl) dX3_pass_28 wT_f0_7 ?_
      refine v_aload_n X dX3_pass_31 rfl ?_
      refine v_getfield (ref := "Trumpvault") (ci := 3) (index := 10) (v := .ref (h 4)) X iX3 0 wT_g0 rfl 0 (by decide) (by decide +kernel) (fun _ h9 => h9) rfl dX3_pass_32 ?_
      refine v_aload_n X dX3_pass_35 rfl ?_
      refine v_getfield (ref := "Trumpvault") (ci := 3) (index := 50) (v := .int ((sU S 0 7 ((S 0 7) + p1)) 0 7)) X iX3 0 wT_g0 rfl 7 (by decide) (by decide +kernel) (fun _ h9 => h9) rfl dX3_pass_36 ?_
      refine v_callVvc (As := [.int ((sU S 0 7 ((S 0 7) + p1)) 0 7)]) (rest := []) (w' := (wT h cI cII (s_X1_endLoans (sU S 0 7 ((S 0 7) + p1)) ((sU S 0 7 ((S 0 7) + p1)) 0 7)))) X (c_X1_endLoans l D cI cII cL h (sU S 0 7 ((S 0 7) + p1)) ((sU S 0 7 ((S 0 7) + p1)) 0 7) (cnt_of (sU_ne (by decide)) hcnt)) (cwV 1 X.2.2.2.1 gX3_pass_X1_endLoans rfl rfl rfl (by decide +kernel) ⟨Nat.le_of_ble_eq_true rfl, Nat.le_of_ble_eq_true rfl⟩) isCC isRC pmC (cutC h cI cII (fr_X1_endLoans (sU S 0 7 ((S 0 7) + p1)) ((sU S 0 7 ((S 0 7) + p1)) 0 7))) 0 1 rfl rfl wC_g4 rfl rfl (Nat.le_of_ble_eq_true rfl) dX3_pass_39 ⟨Nat.le_of_ble_eq_true rfl, Nat.le_of_ble_eq_true rfl⟩ ?_
      refine v_iconst (x := 0) X dX3_pass_42 rfl ?_
      refine v_istore_n (lv' := [(2, .int 0), (0, .ref (h 0)), (1, .int p1)]) X dX3_pass_43 (by decide) rfl ?_
      have L_1 : ∀ (d_1 k_1 : Nat) (i_1 : Int32) (S1 : St), k_1 + d_1 = 8 → i_1 = nI k_1 → S1 = (lp1_X3_pass S p1 k_1) → v_V p l e { frames := 6, cells := 1, slots := 6, locals := 82 } s m [.ref (h 0), .int p1].toArray below meth c D vwCl (va_A (wT h cI cII S) s.heap.size) 3 (v_QXi below s D vwCl (tyl cI cII cL) { frames := 6, cells := 1, slots := 6, locals := 82 } [.ref (h 0), .int p1] (wT h cI cII S) (x_X3_pass S p1) (r_X3_pass S p1) (wT h cI cII (s_X3_pass S p1))) 0 0 (wT h cI cII S1) 44 [(2, .int i_1), (0, .ref (h 0)), (1, .int p1)] [] := by
        intro d_1
        induction d_1 with
        | zero =>
          intro k_1 i_1 S1 hk_1 ei_1 eS1
          subst ei_1 eS1
          obtain rfl : 8 = k_1 := by omega
          refine v_iload_n X dX3_pass_44 rfl ?_
          refine v_bipush (x := 8) X dX3_pass_45 rfl ?_
          refine v_icmp_ge (tgt := 70) X dX3_pass_47 (by decide) (fun c_3 => ?_) (fun c_3 => ?_)
          · refine v_aload_n X dX3_pass_70 rfl ?_
            refine v_getfield (ref := "Trumpvault") (ci := 3) (index := 50) (v := .int ((lp1_X3_pass S p1 8) 0 7)) X iX3 0 wT_g0 rfl 7 (by decide) (by decide +kernel) (fun _ h9 => h9) rfl dX3_pass_71 ?_
            exact v_xreti X TT hr rfl (by unfold x_X3_pass; rw [if_neg c_1, if_pos c_2]) (by unfold r_X3_pass; rw [if_neg c_1, if_pos c_2]) (congrArg (fun z => (wT h cI cII z)) (by unfold s_X3_pass; rw [if_neg c_1, if_pos c_2])) (Nat.le_of_ble_eq_true rfl) (Nat.le_of_ble_eq_true rfl) dX3_pass_74
          · exact absurd (show (8 : Int32) ≤ nI 8 from nI_le (Nat.le_refl 8) (by decide)) c_3
        | succ d_1 ih_1 =>
          intro k_1 i_1 S1 hk_1 ei_1 eS1
          subst ei_1 eS1
          have hlt_1 : k_1 < 8 := by omega
          refine v_iload_n X dX3_pass_44 rfl ?_
          refine v_bipush (x := 8) X dX3_pass_45 rfl ?_
          refine v_icmp_ge (tgt := 70) X dX3_pass_47 (by decide) (fun c_4 => ?_) (fun c_4 => ?_)
          · exact absurd c_4 (nI_ge (b := 8) hlt_1 (by decide))
          · refine v_aload_n X dX3_pass_50 rfl ?_
            refine v_iload_n X dX3_pass_51 rfl ?_
            refine v_callVi (As := [.int (nI k_1)]) (rest := []) (w' := (wT h cI cII (lp1_X3_pass S p1 k_1))) X (c_X3_bannedToday l D cI cII cL h (lp1_X3_pass S p1 k_1) (nI k_1) (vp_in_nI (by omega) (by decide))) (cwV 1 X.2.2.2.1 gX3_pass_X3_bannedToday rfl rfl rfl (by decide +kernel) ⟨Nat.le_of_ble_eq_true rfl, Nat.le_of_ble_eq_true rfl⟩) 0 3 rfl rfl wT_g0 rfl rfl (Nat.le_of_ble_eq_true rfl) dX3_pass_52 ⟨Nat.le_of_ble_eq_true rfl, Nat.le_of_ble_eq_true rfl⟩ ?_
            refine v_if_eq (tgt := 64) X dX3_pass_55 (by decide) (fun c_5 => ?_) (fun c_5 => ?_)
            · refine v_iinc (y := ((nI k_1) + 1)) (lv' := [(2, .int ((nI k_1) + 1)), (0, .ref (h 0)), (1, .int p1)]) X dX3_pass_64 rfl rfl (by decide) rfl ?_
              refine v_goto (tgt := 44) X dX3_pass_67 (by decide) ?_
              refine v_lv [0, 1, 2] rfl ?_
              exact ih_1 (k_1 + 1) ((nI k_1) + 1) (lp1_X3_pass S p1 k_1) (by omega) (nI_1 k_1) (by rw [e_lp1_X3_pass]; unfold st1_X3_pass; rw [if_pos c_5])
            · refine v_aload_n X dX3_pass_58 rfl ?_
              refine v_iload_n X dX3_pass_59 rfl ?_
              refine v_callVi (As := [.int (nI k_1)]) (rest := []) (w' := (wT h cI cII (s_X3_clearMarket (lp1_X3_pass S p1 k_1) (nI k_1)))) X (c_X3_clearMarket l D cI cII cL h (lp1_X3_pass S p1 k_1) (nI k_1) (vp_in_nI (by omega) (by decide)) (cnt_of (lp4_X3_pass S p1 k_1 (by omega)) hcnt)) (cwV 1 X.2.2.2.1 gX3_pass_X3_clearMarket rfl rfl rfl (by decide +kernel) ⟨Nat.le_of_ble_eq_true rfl, Nat.le_of_ble_eq_true rfl⟩) 0 3 rfl rfl wT_g0 rfl rfl (Nat.le_of_ble_eq_true rfl) dX3_pass_60 ⟨Nat.le_of_ble_eq_true rfl, Nat.le_of_ble_eq_true rfl⟩ ?_
              refine v_pop X dX3_pass_63 rfl ?_
              refine v_iinc (y := ((nI k_1) + 1)) (lv' := [(2, .int ((nI k_1) + 1)), (0, .ref (h 0)), (1, .int p1)]) X dX3_pass_64 rfl rfl (by decide) rfl ?_
              refine v_goto (tgt := 44) X dX3_pass_67 (by decide) ?_
              refine v_lv [0, 1, 2] rfl ?_
              exact ih_1 (k_1 + 1) ((nI k_1) + 1) (s_X3_clearMarket (lp1_X3_pass S p1 k_1) (nI k_1)) (by omega) (nI_1 k_1) (by rw [e_lp1_X3_pass]; unfold st1_X3_pass; rw [if_neg c_5])
      exact L_1 8 0 0 (s_X1_endLoans (sU S 0 7 ((S 0 7) + p1)) ((sU S 0 7 ((S 0 7) + p1)) 0 7)) (Nat.zero_add _) (by exact nI_0.symm) rfl
    · exact v_throwG (is := 177) (text := "days out of range") X TT v_EL2 (by decide +kernel) (by decide +kernel) tv_E2 (by decide +kernel) dX3_pass_11 dX3_pass_14 dX3_pass_15 dX3_pass_17 dX3_pass_20 (by unfold x_X3_pass; rw [if_neg c_1, if_neg c_2]) rfl ⟨Nat.le_of_ble_eq_true rfl, Nat.le_of_ble_eq_true rfl, Nat.le_of_ble_eq_true rfl, Nat.le_of_ble_eq_true rfl⟩ (Nat.le_of_ble_eq_true rfl) (Nat.le_of_ble_eq_true rfl)
