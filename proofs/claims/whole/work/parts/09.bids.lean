def r_X0_has (S : St) (p1 p2 : Int32) : Int32 :=
  (if (S (15 + p1.toNatClampNeg) p2.toNatClampNeg) = 0 then 0 else 1)
theorem b_X0_has (S : St) (p1 p2 : Int32) : (r_X0_has S p1 p2) = 0 ∨ (r_X0_has S p1 p2) = 1 := by
  unfold r_X0_has
  repeat' split
  all_goals first | exact Or.inl rfl | exact Or.inr rfl
set_option maxHeartbeats 1000000 in
set_option maxRecDepth 100000 in
theorem c_X0_has (l : Launch) (D : va_G) (cI cII cL : ClassId) (h : Nat → Nat) (S : St) (p1 p2 : Int32) (in1_5 : vp_in p1 5) (in2_8 : vp_in p2 8) : v_Mi l D vwCl (tyl cI cII cL) yX0_has wsX0_has { frames := 0, cells := 0, slots := 0, locals := 0 } [.ref (h 13), .int p1, .int p2] (wB h cI cII S) (r_X0_has S p1 p2) (wB h cI cII S) := by
  refine v_ofMi (cc := cX0_has) (maxL := 3) (ret := (some .boolean)) (own := RX0) (lv0 := [(0, .ref (h 13)), (1, .int p1), (2, .int p2)]) (by decide) rfl rfl rfl (Nat.le_of_ble_eq_true rfl) ?_
  intro p e s m below meth c X hr hk hin
  have iX0 : ∀ w ∈ wsX00, w ∈ wsX0_has := by decide +kernel
  refine v_aload_n X dX0_has_0 rfl ?_
  refine v_getfield (ref := "Trumpvault$Bids") (ci := 0) (index := 11) (v := .ref (h 14)) X iX0 0 wB_g13 rfl 0 (by decide) (by decide +kernel) (fun _ h9 => h9) rfl dX0_has_1 ?_
  refine v_iload_n X dX0_has_4 rfl ?_
  refine v_aald (b := h (15 + p1.toNatClampNeg)) X 1 1 wB_g14 rfl in1_5 (if_pos (vp_lt in1_5)) dX0_has_5 ?_
  refine v_iload_n X dX0_has_6 rfl ?_
  refine v_iald X (2 + p1.toNatClampNeg) 0 (wB_row15 in1_5) rfl in2_8 dX0_has_7 ?_
  refine v_if_eq (tgt := 15) X dX0_has_8 (by decide) (fun c_1 => ?_) (fun c_1 => ?_)
  · refine v_iconst (x := 0) X dX0_has_15 rfl ?_
    exact v_reti X hr hk rfl (by unfold r_X0_has; rw [if_pos c_1]) rfl (Nat.le_of_ble_eq_true rfl) (Nat.le_of_ble_eq_true rfl) dX0_has_16
  · refine v_iconst (x := 1) X dX0_has_11 rfl ?_
    refine v_goto (tgt := 16) X dX0_has_12 (by decide) ?_
    exact v_reti X hr hk rfl (by unfold r_X0_has; rw [if_neg c_1]) rfl (Nat.le_of_ble_eq_true rfl) (Nat.le_of_ble_eq_true rfl) dX0_has_16

def s_X0_put (S : St) (p1 p2 p3 p4 : Int32) : St :=
  (sU (sU S (15 + p1.toNatClampNeg) p2.toNatClampNeg p3) (21 + p1.toNatClampNeg) p2.toNatClampNeg p4)
set_option maxHeartbeats 1000000 in
set_option maxRecDepth 100000 in
theorem c_X0_put (l : Launch) (D : va_G) (cI cII cL : ClassId) (h : Nat → Nat) (S : St) (p1 p2 p3 p4 : Int32) (in1_5 : vp_in p1 5) (in2_8 : vp_in p2 8) : v_Mv l D vwCl (tyl cI cII cL) yX0_put wsX0_put { frames := 0, cells := 0, slots := 0, locals := 0 } [.ref (h 13), .int p1, .int p2, .int p3, .int p4] (wB h cI cII S) (wB h cI cII (s_X0_put S p1 p2 p3 p4)) := by
  refine v_ofMv (cc := cX0_put) (maxL := 5) (ret := none) (own := RX0) (lv0 := [(0, .ref (h 13)), (1, .int p1), (2, .int p2), (3, .int p3), (4, .int p4)]) (by decide) rfl rfl rfl (Nat.le_of_ble_eq_true rfl) ?_
  intro p e s m below meth c X hr hk hin
  have iX0 : ∀ w ∈ wsX00, w ∈ wsX0_put := by decide +kernel
  refine v_aload_n X dX0_put_0 rfl ?_
  refine v_getfield (ref := "Trumpvault$Bids") (ci := 0) (index := 11) (v := .ref (h 14)) X iX0 0 wB_g13 rfl 0 (by decide) (by decide +kernel) (fun _ h9 => h9) rfl dX0_put_1 ?_
  refine v_iload_n X dX0_put_4 rfl ?_
  refine v_aald (b := h (15 + p1.toNatClampNeg)) X 1 1 wB_g14 rfl in1_5 (if_pos (vp_lt in1_5)) dX0_put_5 ?_
  refine v_iload_n X dX0_put_6 rfl ?_
  refine v_iload_n X dX0_put_7 rfl ?_
  refine v_iast (w' := (wB h cI cII (sU S (15 + p1.toNatClampNeg) p2.toNatClampNeg p3))) X (2 + p1.toNatClampNeg) 0 (wB_row15 in1_5) rfl in2_8 dX0_put_8 (wB_set15 in1_5) ?_
  refine v_aload_n X dX0_put_9 rfl ?_
  refine v_getfield (ref := "Trumpvault$Bids") (ci := 0) (index := 16) (v := .ref (h 20)) X iX0 0 wB_g13 rfl 1 (by decide) (by decide +kernel) (fun _ h9 => h9) rfl dX0_put_10 ?_
  refine v_iload_n X dX0_put_13 rfl ?_
  refine v_aald (b := h (21 + p1.toNatClampNeg)) X 7 1 wB_g20 rfl in1_5 (if_pos (vp_lt in1_5)) dX0_put_14 ?_
  refine v_iload_n X dX0_put_15 rfl ?_
  refine v_iload X dX0_put_16 rfl ?_
  refine v_iast (w' := (wB h cI cII (sU (sU S (15 + p1.toNatClampNeg) p2.toNatClampNeg p3) (21 + p1.toNatClampNeg) p2.toNatClampNeg p4))) X (8 + p1.toNatClampNeg) 0 (wB_row21 in1_5) rfl in2_8 dX0_put_18 (wB_set21 in1_5) ?_
  exact v_retv X hr hk (congrArg (fun z => (wB h cI cII z)) (by unfold s_X0_put; rfl)) (Nat.le_of_ble_eq_true rfl) (Nat.le_of_ble_eq_true rfl) dX0_put_19

theorem his_in {S : St} (hc : hisC S) (h : S 26 2 < (512 : Int32)) : vp_in (S 26 2) 512 := by
  rw [vp_in_iff]
  simp only [Int32.lt_iff_toInt_lt] at h
  have h9 : (512 : Int32).toInt = 512 := by decide
  have := hc.1
  omega

def r_X0_take (S : St) (p1 p2 : Int32) : Int32 :=
  (S (15 + p1.toNatClampNeg) p2.toNatClampNeg)
def s_X0_take (S : St) (p1 p2 : Int32) : St :=
  (sU S (15 + p1.toNatClampNeg) p2.toNatClampNeg 0)
set_option maxHeartbeats 1000000 in
set_option maxRecDepth 100000 in
theorem c_X0_take (l : Launch) (D : va_G) (cI cII cL : ClassId) (h : Nat → Nat) (S : St) (p1 p2 : Int32) (in1_5 : vp_in p1 5) (in2_8 : vp_in p2 8) : v_Mi l D vwCl (tyl cI cII cL) yX0_take wsX0_take { frames := 0, cells := 0, slots := 0, locals := 0 } [.ref (h 13), .int p1, .int p2] (wB h cI cII S) (r_X0_take S p1 p2) (wB h cI cII (s_X0_take S p1 p2)) := by
  refine v_ofMi (cc := cX0_take) (maxL := 4) (ret := (some .int)) (own := RX0) (lv0 := [(0, .ref (h 13)), (1, .int p1), (2, .int p2)]) (by decide) rfl rfl rfl (Nat.le_of_ble_eq_true rfl) ?_
  intro p e s m below meth c X hr hk hin
  have iX0 : ∀ w ∈ wsX00, w ∈ wsX0_take := by decide +kernel
  refine v_aload_n X dX0_take_0 rfl ?_
  refine v_getfield (ref := "Trumpvault$Bids") (ci := 0) (index := 11) (v := .ref (h 14)) X iX0 0 wB_g13 rfl 0 (by decide) (by decide +kernel) (fun _ h9 => h9) rfl dX0_take_1 ?_
  refine v_iload_n X dX0_take_4 rfl ?_
  refine v_aald (b := h (15 + p1.toNatClampNeg)) X 1 1 wB_g14 rfl in1_5 (if_pos (vp_lt in1_5)) dX0_take_5 ?_
  refine v_iload_n X dX0_take_6 rfl ?_
  refine v_iald X (2 + p1.toNatClampNeg) 0 (wB_row15 in1_5) rfl in2_8 dX0_take_7 ?_
  refine v_istore_n (lv' := [(3, .int (S (15 + p1.toNatClampNeg) p2.toNatClampNeg)), (0, .ref (h 13)), (1, .int p1), (2, .int p2)]) X dX0_take_8 (by decide) rfl ?_
  refine v_aload_n X dX0_take_9 rfl ?_
  refine v_getfield (ref := "Trumpvault$Bids") (ci := 0) (index := 11) (v := .ref (h 14)) X iX0 0 wB_g13 rfl 0 (by decide) (by decide +kernel) (fun _ h9 => h9) rfl dX0_take_10 ?_
  refine v_iload_n X dX0_take_13 rfl ?_
  refine v_aald (b := h (15 + p1.toNatClampNeg)) X 1 1 wB_g14 rfl in1_5 (if_pos (vp_lt in1_5)) dX0_take_14 ?_
  refine v_iload_n X dX0_take_15 rfl ?_
  refine v_iconst (x := 0) X dX0_take_16 rfl ?_
  refine v_iast (w' := (wB h cI cII (sU S (15 + p1.toNatClampNeg) p2.toNatClampNeg 0))) X (2 + p1.toNatClampNeg) 0 (wB_row15 in1_5) rfl in2_8 dX0_take_17 (wB_set15 in1_5) ?_
  refine v_iload_n X dX0_take_18 rfl ?_
  exact v_reti X hr hk rfl (by unfold r_X0_take; rfl) (congrArg (fun z => (wB h cI cII z)) (by unfold s_X0_take; rfl)) (Nat.le_of_ble_eq_true rfl) (Nat.le_of_ble_eq_true rfl) dX0_take_19

def r_X0_isBefore (S : St) (p1 p2 p3 : Int32) : Int32 :=
  (if (S (15 + p2.toNatClampNeg) p3.toNatClampNeg) < (S (15 + p1.toNatClampNeg) p3.toNatClampNeg) then 1 else (if (S (15 + p1.toNatClampNeg) p3.toNatClampNeg) = (S (15 + p2.toNatClampNeg) p3.toNatClampNeg) then (if (S (21 + p2.toNatClampNeg) p3.toNatClampNeg) ≤ (S (21 + p1.toNatClampNeg) p3.toNatClampNeg) then 0 else 1) else 0))
theorem b_X0_isBefore (S : St) (p1 p2 p3 : Int32) : (r_X0_isBefore S p1 p2 p3) = 0 ∨ (r_X0_isBefore S p1 p2 p3) = 1 := by
  unfold r_X0_isBefore
  repeat' split
  all_goals first | exact Or.inl rfl | exact Or.inr rfl
set_option maxHeartbeats 1000000 in
set_option maxRecDepth 100000 in
theorem c_X0_isBefore (l : Launch) (D : va_G) (cI cII cL : ClassId) (h : Nat → Nat) (S : St) (p1 p2 p3 : Int32) (in1_5 : vp_in p1 5) (in2_5 : vp_in p2 5) (in3_8 : vp_in p3 8) : v_Mi l D vwCl (tyl cI cII cL) yX0_isBefore wsX0_isBefore { frames := 0, cells := 0, slots := 0, locals := 0 } [.ref (h 13), .int p1, .int p2, .int p3] (wB h cI cII S) (r_X0_isBefore S p1 p2 p3) (wB h cI cII S) := by
  refine v_ofMi (cc := cX0_isBefore) (maxL := 6) (ret := (some .boolean)) (own := RX0) (lv0 := [(0, .ref (h 13)), (1, .int p1), (2, .int p2), (3, .int p3)]) (by decide) rfl rfl rfl (Nat.le_of_ble_eq_true rfl) ?_
  intro p e s m below meth c X hr hk hin
  have iX0 : ∀ w ∈ wsX00, w ∈ wsX0_isBefore := by decide +kernel
  refine v_aload_n X dX0_isBefore_0 rfl ?_
  refine v_getfield (ref := "Trumpvault$Bids") (ci := 0) (index := 11) (v := .ref (h 14)) X iX0 0 wB_g13 rfl 0 (by decide) (by decide +kernel) (fun _ h9 => h9) rfl dX0_isBefore_1 ?_
  refine v_iload_n X dX0_isBefore_4 rfl ?_
  refine v_aald (b := h (15 + p1.toNatClampNeg)) X 1 1 wB_g14 rfl in1_5 (if_pos (vp_lt in1_5)) dX0_isBefore_5 ?_
  refine v_iload_n X dX0_isBefore_6 rfl ?_
  refine v_iald X (2 + p1.toNatClampNeg) 0 (wB_row15 in1_5) rfl in3_8 dX0_isBefore_7 ?_
  refine v_istore (lv' := [(4, .int (S (15 + p1.toNatClampNeg) p3.toNatClampNeg)), (0, .ref (h 13)), (1, .int p1), (2, .int p2), (3, .int p3)]) X dX0_isBefore_8 (by decide) rfl ?_
  refine v_aload_n X dX0_isBefore_10 rfl ?_
  refine v_getfield (ref := "Trumpvault$Bids") (ci := 0) (index := 11) (v := .ref (h 14)) X iX0 0 wB_g13 rfl 0 (by decide) (by decide +kernel) (fun _ h9 => h9) rfl dX0_isBefore_11 ?_
  refine v_iload_n X dX0_isBefore_14 rfl ?_
  refine v_aald (b := h (15 + p2.toNatClampNeg)) X 1 1 wB_g14 rfl in2_5 (if_pos (vp_lt in2_5)) dX0_isBefore_15 ?_
  refine v_iload_n X dX0_isBefore_16 rfl ?_
  refine v_iald X (2 + p2.toNatClampNeg) 0 (wB_row15 in2_5) rfl in3_8 dX0_isBefore_17 ?_
  refine v_istore (lv' := [(5, .int (S (15 + p2.toNatClampNeg) p3.toNatClampNeg)), (4, .int (S (15 + p1.toNatClampNeg) p3.toNatClampNeg)), (0, .ref (h 13)), (1, .int p1), (2, .int p2), (3, .int p3)]) X dX0_isBefore_18 (by decide) rfl ?_
  refine v_iload X dX0_isBefore_20 rfl ?_
  refine v_iload X dX0_isBefore_22 rfl ?_
  refine v_icmp_gt (tgt := 53) X dX0_isBefore_24 (by decide) (fun c_1 => ?_) (fun c_1 => ?_)
  · refine v_iconst (x := 1) X dX0_isBefore_53 rfl ?_
    refine v_goto (tgt := 58) X dX0_isBefore_54 (by decide) ?_
    exact v_reti X hr hk rfl (by unfold r_X0_isBefore; rw [if_pos c_1]) rfl (Nat.le_of_ble_eq_true rfl) (Nat.le_of_ble_eq_true rfl) dX0_isBefore_58
  · refine v_iload X dX0_isBefore_27 rfl ?_
    refine v_iload X dX0_isBefore_29 rfl ?_
    refine v_icmp_ne (tgt := 57) X dX0_isBefore_31 (by decide) (fun c_2 => ?_) (fun c_2 => ?_)
    · refine v_iconst (x := 0) X dX0_isBefore_57 rfl ?_
      exact v_reti X hr hk rfl (by unfold r_X0_isBefore; rw [if_neg c_1, if_neg c_2]) rfl (Nat.le_of_ble_eq_true rfl) (Nat.le_of_ble_eq_true rfl) dX0_isBefore_58
    · refine v_aload_n X dX0_isBefore_34 rfl ?_
      refine v_getfield (ref := "Trumpvault$Bids") (ci := 0) (index := 16) (v := .ref (h 20)) X iX0 0 wB_g13 rfl 1 (by decide) (by decide +kernel) (fun _ h9 => h9) rfl dX0_isBefore_35 ?_
      refine v_iload_n X dX0_isBefore_38 rfl ?_
      refine v_aald (b := h (21 + p1.toNatClampNeg)) X 7 1 wB_g20 rfl in1_5 (if_pos (vp_lt in1_5)) dX0_isBefore_39 ?_
      refine v_iload_n X dX0_isBefore_40 rfl ?_
      refine v_iald X (8 + p1.toNatClampNeg) 0 (wB_row21 in1_5) rfl in3_8 dX0_isBefore_41 ?_
      refine v_aload_n X dX0_isBefore_42 rfl ?_
      refine v_getfield (ref := "Trumpvault$Bids") (ci := 0) (index := 16) (v := .ref (h 20)) X iX0 0 wB_g13 rfl 1 (by decide) (by decide +kernel) (fun _ h9 => h9) rfl dX0_isBefore_43 ?_
      refine v_iload_n X dX0_isBefore_46 rfl ?_
      refine v_aald (b := h (21 + p2.toNatClampNeg)) X 7 1 wB_g20 rfl in2_5 (if_pos (vp_lt in2_5)) dX0_isBefore_47 ?_
      refine v_iload_n X dX0_isBefore_48 rfl ?_
      refine v_iald X (8 + p2.toNatClampNeg) 0 (wB_row21 in2_5) rfl in3_8 dX0_isBefore_49 ?_
      refine v_icmp_ge (tgt := 57) X dX0_isBefore_50 (by decide) (fun c_3 => ?_) (fun c_3 => ?_)
      · refine v_iconst (x := 0) X dX0_isBefore_57 rfl ?_
        exact v_reti X hr hk rfl (by unfold r_X0_isBefore; rw [if_neg c_1, if_pos c_2, if_pos c_3]) rfl (Nat.le_of_ble_eq_true rfl) (Nat.le_of_ble_eq_true rfl) dX0_isBefore_58
      · refine v_iconst (x := 1) X dX0_isBefore_53 rfl ?_
        refine v_goto (tgt := 58) X dX0_isBefore_54 (by decide) ?_
        exact v_reti X hr hk rfl (by unfold r_X0_isBefore; rw [if_neg c_1, if_pos c_2, if_neg c_3]) rfl (Nat.le_of_ble_eq_true rfl) (Nat.le_of_ble_eq_true rfl) dX0_isBefore_58

def st1_X0_bestBidder (S : St) (p1 p2 : Int32) (k : Nat) (qb3 : Int32) : Int32 :=
  (if (r_X0_has S (nI k) p1) = 0 then qb3 else (if (nI k) = p2 then qb3 else (if qb3 = (-1) then (nI k) else (if (r_X0_isBefore S (nI k) qb3 p1) = 0 then qb3 else (nI k)))))
def lp1_X0_bestBidder (S : St) (p1 p2 : Int32) : Nat → Int32
  | 0 => (-1)
  | k + 1 => st1_X0_bestBidder S p1 p2 k (lp1_X0_bestBidder S p1 p2 k)
theorem e_lp1_X0_bestBidder (S : St) (p1 p2 : Int32) (k : Nat) : lp1_X0_bestBidder S p1 p2 (k + 1) = st1_X0_bestBidder S p1 p2 k (lp1_X0_bestBidder S p1 p2 k) := rfl
def r_X0_bestBidder (S : St) (p1 p2 : Int32) : Int32 :=
  (lp1_X0_bestBidder S p1 p2 5)
theorem rng_X0_bestBidder (S : St) (p1 p2 : Int32) (k : Nat) (hk : k ≤ 5) : lp1_X0_bestBidder S p1 p2 k = -1 ∨ vp_in (lp1_X0_bestBidder S p1 p2 k) 5 := by
  induction k with
  | zero => exact Or.inl rfl
  | succ k ih =>
    have ih := ih (by omega)
    have hk2 : vp_in (nI k) 5 := vp_in_nI (by omega) (by decide)
    show st1_X0_bestBidder S p1 p2 k _ = -1 ∨ vp_in (st1_X0_bestBidder S p1 p2 k _) 5
    unfold st1_X0_bestBidder
    repeat' split
    all_goals first | exact ih | exact Or.inr hk2
set_option maxHeartbeats 1000000 in
set_option maxRecDepth 100000 in
theorem c_X0_bestBidder (l : Launch) (D : va_G) (cI cII cL : ClassId) (h : Nat → Nat) (S : St) (p1 p2 : Int32) (in1_8 : vp_in p1 8) : v_Mi l D vwCl (tyl cI cII cL) yX0_bestBidder wsX0_bestBidder { frames := 1, cells := 0, slots := 0, locals := 25 } [.ref (h 13), .int p1, .int p2] (wB h cI cII S) (r_X0_bestBidder S p1 p2) (wB h cI cII S) := by
  refine v_ofMi (cc := cX0_bestBidder) (maxL := 5) (ret := (some .int)) (own := RX0) (lv0 := [(0, .ref (h 13)), (1, .int p1), (2, .int p2)]) (by decide) rfl rfl rfl (Nat.le_of_ble_eq_true rfl) ?_
  intro p e s m below meth c X hr hk hin
  refine v_iconst (x := (-1)) X dX0_bestBidder_0 rfl ?_
  refine v_istore_n (lv' := [(3, .int (-1)), (0, .ref (h 13)), (1, .int p1), (2, .int p2)]) X dX0_bestBidder_1 (by decide) rfl ?_
  refine v_iconst (x := 0) X dX0_bestBidder_2 rfl ?_
  refine v_istore (lv' := [(4, .int 0), (3, .int (-1)), (0, .ref (h 13)), (1, .int p1), (2, .int p2)]) X dX0_bestBidder_3 (by decide) rfl ?_
  have L_1 : ∀ (d_1 k_1 : Nat) (i_1 b3_1 : Int32), k_1 + d_1 = 5 → i_1 = nI k_1 → b3_1 = (lp1_X0_bestBidder S p1 p2 k_1) → v_V p l e { frames := 1, cells := 0, slots := 0, locals := 25 } s m [.ref (h 13), .int p1, .int p2].toArray below meth c D vwCl (va_A (wB h cI cII S) s.heap.size) 5 (v_Qi below s D vwCl (tyl cI cII cL) { frames := 1, cells := 0, slots := 0, locals := 25 } [.ref (h 13), .int p1, .int p2] (wB h cI cII S) (r_X0_bestBidder S p1 p2) (wB h cI cII S)) 0 0 (wB h cI cII S) 5 [(4, .int i_1), (3, .int b3_1), (0, .ref (h 13)), (1, .int p1), (2, .int p2)] [] := by
    intro d_1
    induction d_1 with
    | zero =>
      intro k_1 i_1 b3_1 hk_1 ei_1 eb3_1
      subst ei_1 eb3_1
      obtain rfl : 5 = k_1 := by omega
      refine v_iload X dX0_bestBidder_5 rfl ?_
      refine v_iconst (x := 5) X dX0_bestBidder_7 rfl ?_
      refine v_icmp_ge (tgt := 52) X dX0_bestBidder_8 (by decide) (fun c_1 => ?_) (fun c_1 => ?_)
      · refine v_iload_n X dX0_bestBidder_52 rfl ?_
        exact v_reti X hr hk rfl (by unfold r_X0_bestBidder; rfl) rfl (Nat.le_of_ble_eq_true rfl) (Nat.le_of_ble_eq_true rfl) dX0_bestBidder_53
      · exact absurd (show (5 : Int32) ≤ nI 5 from nI_le (Nat.le_refl 5) (by decide)) c_1
    | succ d_1 ih_1 =>
      intro k_1 i_1 b3_1 hk_1 ei_1 eb3_1
      subst ei_1 eb3_1
      have hlt_1 : k_1 < 5 := by omega
      refine v_iload X dX0_bestBidder_5 rfl ?_
      refine v_iconst (x := 5) X dX0_bestBidder_7 rfl ?_
      refine v_icmp_ge (tgt := 52) X dX0_bestBidder_8 (by decide) (fun c_2 => ?_) (fun c_2 => ?_)
      · exact absurd c_2 (nI_ge (b := 5) hlt_1 (by decide))
      · refine v_aload_n X dX0_bestBidder_11 rfl ?_
        refine v_iload X dX0_bestBidder_12 rfl ?_
        refine v_iload_n X dX0_bestBidder_14 rfl ?_
        refine v_callVi (As := [.int (nI k_1), .int p1]) (rest := []) (w' := (wB h cI cII S)) X (c_X0_has l D cI cII cL h S (nI k_1) p1 (vp_in_nI (by omega) (by decide)) in1_8) (cwV 2 X.2.2.2.1 gX0_bestBidder_X0_has rfl rfl rfl (by decide +kernel) ⟨Nat.le_of_ble_eq_true rfl, Nat.le_of_ble_eq_true rfl⟩) 0 0 rfl rfl wB_g13 rfl rfl (Nat.le_of_ble_eq_true rfl) dX0_bestBidder_15 ⟨Nat.le_of_ble_eq_true rfl, Nat.le_of_ble_eq_true rfl⟩ ?_
        refine v_if_eq (tgt := 46) X dX0_bestBidder_18 (by decide) (fun c_3 => ?_) (fun c_3 => ?_)
        · refine v_iinc (y := ((nI k_1) + 1)) (lv' := [(4, .int ((nI k_1) + 1)), (3, .int (lp1_X0_bestBidder S p1 p2 k_1)), (0, .ref (h 13)), (1, .int p1), (2, .int p2)]) X dX0_bestBidder_46 rfl rfl (by decide) rfl ?_
          refine v_goto (tgt := 5) X dX0_bestBidder_49 (by decide) ?_
          refine v_lv [0, 1, 2, 3, 4] rfl ?_
          exact ih_1 (k_1 + 1) ((nI k_1) + 1) (lp1_X0_bestBidder S p1 p2 k_1) (by omega) (nI_1 k_1) (by rw [e_lp1_X0_bestBidder]; unfold st1_X0_bestBidder; rw [if_pos c_3])
        · refine v_iload X dX0_bestBidder_21 rfl ?_
          refine v_iload_n X dX0_bestBidder_23 rfl ?_
          refine v_icmp_eq (tgt := 46) X dX0_bestBidder_24 (by decide) (fun c_4 => ?_) (fun c_4 => ?_)
          · refine v_iinc (y := ((nI k_1) + 1)) (lv' := [(4, .int ((nI k_1) + 1)), (3, .int (lp1_X0_bestBidder S p1 p2 k_1)), (0, .ref (h 13)), (1, .int p1), (2, .int p2)]) X dX0_bestBidder_46 rfl rfl (by decide) rfl ?_
            refine v_goto (tgt := 5) X dX0_bestBidder_49 (by decide) ?_
            refine v_lv [0, 1, 2, 3, 4] rfl ?_
            exact ih_1 (k_1 + 1) ((nI k_1) + 1) (lp1_X0_bestBidder S p1 p2 k_1) (by omega) (nI_1 k_1) (by rw [e_lp1_X0_bestBidder]; unfold st1_X0_bestBidder; rw [if_neg c_3, if_pos c_4])
          · refine v_iload_n X dX0_bestBidder_27 rfl ?_
            refine v_iconst (x := (-1)) X dX0_bestBidder_28 rfl ?_
            refine v_icmp_eq (tgt := 43) X dX0_bestBidder_29 (by decide) (fun c_5 => ?_) (fun c_5 => ?_)
            · refine v_iload X dX0_bestBidder_43 rfl ?_
              refine v_istore_n (lv' := [(3, .int (nI k_1)), (4, .int (nI k_1)), (0, .ref (h 13)), (1, .int p1), (2, .int p2)]) X dX0_bestBidder_45 (by decide) rfl ?_
              refine v_iinc (y := ((nI k_1) + 1)) (lv' := [(4, .int ((nI k_1) + 1)), (3, .int (nI k_1)), (0, .ref (h 13)), (1, .int p1), (2, .int p2)]) X dX0_bestBidder_46 rfl rfl (by decide) rfl ?_
              refine v_goto (tgt := 5) X dX0_bestBidder_49 (by decide) ?_
              refine v_lv [0, 1, 2, 3, 4] rfl ?_
              exact ih_1 (k_1 + 1) ((nI k_1) + 1) (nI k_1) (by omega) (nI_1 k_1) (by rw [e_lp1_X0_bestBidder]; unfold st1_X0_bestBidder; rw [if_neg c_3, if_neg c_4, if_pos c_5])
            · refine v_aload_n X dX0_bestBidder_32 rfl ?_
              refine v_iload X dX0_bestBidder_33 rfl ?_
              refine v_iload_n X dX0_bestBidder_35 rfl ?_
              refine v_iload_n X dX0_bestBidder_36 rfl ?_
              refine v_callVi (As := [.int (nI k_1), .int (lp1_X0_bestBidder S p1 p2 k_1), .int p1]) (rest := []) (w' := (wB h cI cII S)) X (c_X0_isBefore l D cI cII cL h S (nI k_1) (lp1_X0_bestBidder S p1 p2 k_1) p1 (vp_in_nI (by omega) (by decide)) ((rng_X0_bestBidder S p1 p2 k_1 (by omega)).resolve_left c_5) in1_8) (cwV 3 X.2.2.2.1 gX0_bestBidder_X0_isBefore rfl rfl rfl (by decide +kernel) ⟨Nat.le_of_ble_eq_true rfl, Nat.le_of_ble_eq_true rfl⟩) 0 0 rfl rfl wB_g13 rfl rfl (Nat.le_of_ble_eq_true rfl) dX0_bestBidder_37 ⟨Nat.le_of_ble_eq_true rfl, Nat.le_of_ble_eq_true rfl⟩ ?_
              refine v_if_eq (tgt := 46) X dX0_bestBidder_40 (by decide) (fun c_6 => ?_) (fun c_6 => ?_)
              · refine v_iinc (y := ((nI k_1) + 1)) (lv' := [(4, .int ((nI k_1) + 1)), (3, .int (lp1_X0_bestBidder S p1 p2 k_1)), (0, .ref (h 13)), (1, .int p1), (2, .int p2)]) X dX0_bestBidder_46 rfl rfl (by decide) rfl ?_
                refine v_goto (tgt := 5) X dX0_bestBidder_49 (by decide) ?_
                refine v_lv [0, 1, 2, 3, 4] rfl ?_
                exact ih_1 (k_1 + 1) ((nI k_1) + 1) (lp1_X0_bestBidder S p1 p2 k_1) (by omega) (nI_1 k_1) (by rw [e_lp1_X0_bestBidder]; unfold st1_X0_bestBidder; rw [if_neg c_3, if_neg c_4, if_neg c_5, if_pos c_6])
              · refine v_iload X dX0_bestBidder_43 rfl ?_
                refine v_istore_n (lv' := [(3, .int (nI k_1)), (4, .int (nI k_1)), (0, .ref (h 13)), (1, .int p1), (2, .int p2)]) X dX0_bestBidder_45 (by decide) rfl ?_
                refine v_iinc (y := ((nI k_1) + 1)) (lv' := [(4, .int ((nI k_1) + 1)), (3, .int (nI k_1)), (0, .ref (h 13)), (1, .int p1), (2, .int p2)]) X dX0_bestBidder_46 rfl rfl (by decide) rfl ?_
                refine v_goto (tgt := 5) X dX0_bestBidder_49 (by decide) ?_
                refine v_lv [0, 1, 2, 3, 4] rfl ?_
                exact ih_1 (k_1 + 1) ((nI k_1) + 1) (nI k_1) (by omega) (nI_1 k_1) (by rw [e_lp1_X0_bestBidder]; unfold st1_X0_bestBidder; rw [if_neg c_3, if_neg c_4, if_neg c_5, if_neg c_6])
  exact L_1 5 0 0 (-1) (Nat.zero_add _) (by exact nI_0.symm) rfl

def s_X2_record (S : St) (p1 p2 : Int32) : St :=
  (if (S 26 2) < 512 then (sU (sU (sU S 27 (S 26 2).toNatClampNeg p1) 28 ((sU S 27 (S 26 2).toNatClampNeg p1) 26 2).toNatClampNeg p2) 26 2 (((sU (sU S 27 (S 26 2).toNatClampNeg p1) 28 ((sU S 27 (S 26 2).toNatClampNeg p1) 26 2).toNatClampNeg p2) 26 2) + 1)) else S)
set_option maxHeartbeats 1000000 in
set_option maxRecDepth 100000 in
theorem c_X2_record (l : Launch) (D : va_G) (cI cII cL : ClassId) (h : Nat → Nat) (S : St) (p1 p2 : Int32) (hhis : hisC S) : v_Mv l D vwCl (tyl cI cII cL) yX2_record wsX2_record { frames := 0, cells := 0, slots := 0, locals := 0 } [.ref (h 26), .int p1, .int p2] (wH h cI S) (wH h cI (s_X2_record S p1 p2)) := by
  refine v_ofMv (cc := cX2_record) (maxL := 3) (ret := none) (own := RX2) (lv0 := [(0, .ref (h 26)), (1, .int p1), (2, .int p2)]) (by decide) rfl rfl rfl (Nat.le_of_ble_eq_true rfl) ?_
  intro p e s m below meth c X hr hk hin
  have iX2 : ∀ w ∈ wsX20, w ∈ wsX2_record := by decide +kernel
  refine v_aload_n X dX2_record_0 rfl ?_
  refine v_getfield (ref := "Trumpvault$History") (ci := 2) (index := 18) (v := .int (S 26 2)) X iX2 0 wH_g26 rfl 2 (by decide) (by decide +kernel) (fun _ h9 => h9) rfl dX2_record_1 ?_
  refine v_sipush (x := 512) X dX2_record_4 rfl ?_
  refine v_icmp_lt (tgt := 11) X dX2_record_7 (by decide) (fun c_1 => ?_) (fun c_1 => ?_)
  · have hrc : vp_in (S 26 2) 512 := his_in hhis c_1
    refine v_aload_n X dX2_record_11 rfl ?_
    refine v_getfield (ref := "Trumpvault$History") (ci := 2) (index := 9) (v := .ref (h 27)) X iX2 0 wH_g26 rfl 0 (by decide) (by decide +kernel) (fun _ h9 => h9) rfl dX2_record_12 ?_
    refine v_aload_n X dX2_record_15 rfl ?_
    refine v_getfield (ref := "Trumpvault$History") (ci := 2) (index := 18) (v := .int (S 26 2)) X iX2 0 wH_g26 rfl 2 (by decide) (by decide +kernel) (fun _ h9 => h9) rfl dX2_record_16 ?_
    refine v_iload_n X dX2_record_19 rfl ?_
    refine v_iast (w' := (wH h cI (sU S 27 (S 26 2).toNatClampNeg p1))) X 1 0 wH_g27 rfl hrc dX2_record_20 wH_s27 ?_
    refine v_aload_n X dX2_record_21 rfl ?_
    refine v_getfield (ref := "Trumpvault$History") (ci := 2) (index := 15) (v := .ref (h 28)) X iX2 0 wH_g26 rfl 1 (by decide) (by decide +kernel) (fun _ h9 => h9) rfl dX2_record_22 ?_
    refine v_aload_n X dX2_record_25 rfl ?_
    refine v_getfield (ref := "Trumpvault$History") (ci := 2) (index := 18) (v := .int ((sU S 27 (S 26 2).toNatClampNeg p1) 26 2)) X iX2 0 wH_g26 rfl 2 (by decide) (by decide +kernel) (fun _ h9 => h9) rfl dX2_record_26 ?_
    refine v_iload_n X dX2_record_29 rfl ?_
    refine v_iast (w' := (wH h cI (sU (sU S 27 (S 26 2).toNatClampNeg p1) 28 ((sU S 27 (S 26 2).toNatClampNeg p1) 26 2).toNatClampNeg p2))) X 2 0 wH_g28 rfl hrc dX2_record_30 wH_s28 ?_
    refine v_aload_n X dX2_record_31 rfl ?_
    refine v_dup X dX2_record_32 rfl ?_
    refine v_getfield (ref := "Trumpvault$History") (ci := 2) (index := 18) (v := .int ((sU (sU S 27 (S 26 2).toNatClampNeg p1) 28 ((sU S 27 (S 26 2).toNatClampNeg p1) 26 2).toNatClampNeg p2) 26 2)) X iX2 0 wH_g26 rfl 2 (by decide) (by decide +kernel) (fun _ h9 => h9) rfl dX2_record_33 ?_
    refine v_iconst (x := 1) X dX2_record_36 rfl ?_
    refine v_iadd X dX2_record_37 ?_
    refine v_putfield (w' := (wH h cI (sU (sU (sU S 27 (S 26 2).toNatClampNeg p1) 28 ((sU S 27 (S 26 2).toNatClampNeg p1) 26 2).toNatClampNeg p2) 26 2 (((sU (sU S 27 (S 26 2).toNatClampNeg p1) 28 ((sU S 27 (S 26 2).toNatClampNeg p1) 26 2).toNatClampNeg p2) 26 2) + 1)))) (ref := "Trumpvault$History") (ci := 2) (index := 18) (ty := .int) X iX2 tyX2 tyX2_ok nmX2 0 wH_g26 rfl 2 (by decide) (by decide +kernel) (fun _ h9 => h9) rfl (by decide +kernel) rfl rfl (Nat.le_of_ble_eq_true rfl) dX2_record_38 wH_f26_2 ?_
    exact v_retv X hr hk (congrArg (fun z => (wH h cI z)) (by unfold s_X2_record; rw [if_pos c_1])) (Nat.le_of_ble_eq_true rfl) (Nat.le_of_ble_eq_true rfl) dX2_record_41
  · exact v_retv X hr hk (congrArg (fun z => (wH h cI z)) (by unfold s_X2_record; rw [if_neg c_1])) (Nat.le_of_ble_eq_true rfl) (Nat.le_of_ble_eq_true rfl) dX2_record_10

def st1_X2_lastOwner (S : St) (p1 : Int32) (k : Nat) (qb2 : Int32) : Int32 :=
  (if (S 27 (nI k).toNatClampNeg) = p1 then (S 28 (nI k).toNatClampNeg) else qb2)
def lp1_X2_lastOwner (S : St) (p1 : Int32) : Nat → Int32
  | 0 => (-1)
  | k + 1 => st1_X2_lastOwner S p1 k (lp1_X2_lastOwner S p1 k)
theorem e_lp1_X2_lastOwner (S : St) (p1 : Int32) (k : Nat) : lp1_X2_lastOwner S p1 (k + 1) = st1_X2_lastOwner S p1 k (lp1_X2_lastOwner S p1 k) := rfl
def r_X2_lastOwner (S : St) (p1 : Int32) : Int32 :=
  (lp1_X2_lastOwner S p1 (S 26 2).toNatClampNeg)
set_option maxHeartbeats 1000000 in
set_option maxRecDepth 100000 in
theorem c_X2_lastOwner (l : Launch) (D : va_G) (cI cII cL : ClassId) (h : Nat → Nat) (S : St) (p1 : Int32) (hhis : hisC S) : v_Mi l D vwCl (tyl cI cII cL) yX2_lastOwner wsX2_lastOwner { frames := 0, cells := 0, slots := 0, locals := 0 } [.ref (h 26), .int p1] (wH h cI S) (r_X2_lastOwner S p1) (wH h cI S) := by
  refine v_ofMi (cc := cX2_lastOwner) (maxL := 4) (ret := (some .int)) (own := RX2) (lv0 := [(0, .ref (h 26)), (1, .int p1)]) (by decide) rfl rfl rfl (Nat.le_of_ble_eq_true rfl) ?_
  intro p e s m below meth c X hr hk hin
  have iX2 : ∀ w ∈ wsX20, w ∈ wsX2_lastOwner := by decide +kernel
  obtain ⟨N, hN, hN30, hNc⟩ := v_num (M := 512) (by decide) hhis
  refine v_iconst (x := (-1)) X dX2_lastOwner_0 rfl ?_
  refine v_istore_n (lv' := [(2, .int (-1)), (0, .ref (h 26)), (1, .int p1)]) X dX2_lastOwner_1 (by decide) rfl ?_
  refine v_iconst (x := 0) X dX2_lastOwner_2 rfl ?_
  refine v_istore_n (lv' := [(3, .int 0), (2, .int (-1)), (0, .ref (h 26)), (1, .int p1)]) X dX2_lastOwner_3 (by decide) rfl ?_
  have L_1 : ∀ (d_1 k_1 : Nat) (i_1 b2_1 : Int32), k_1 + d_1 = N → i_1 = nI k_1 → b2_1 = (lp1_X2_lastOwner S p1 k_1) → v_V p l e { frames := 0, cells := 0, slots := 0, locals := 0 } s m [.ref (h 26), .int p1].toArray below meth c D vwCl (va_A (wH h cI S) s.heap.size) 4 (v_Qi below s D vwCl (tyl cI cII cL) { frames := 0, cells := 0, slots := 0, locals := 0 } [.ref (h 26), .int p1] (wH h cI S) (r_X2_lastOwner S p1) (wH h cI S)) 0 0 (wH h cI S) 4 [(3, .int i_1), (2, .int b2_1), (0, .ref (h 26)), (1, .int p1)] [] := by
    intro d_1
    induction d_1 with
    | zero =>
      intro k_1 i_1 b2_1 hk_1 ei_1 eb2_1
      subst ei_1 eb2_1
      obtain rfl : N = k_1 := by omega
      refine v_iload_n X dX2_lastOwner_4 rfl ?_
      refine v_aload_n X dX2_lastOwner_5 rfl ?_
      refine v_getfield (ref := "Trumpvault$History") (ci := 2) (index := 18) (v := .int (S 26 2)) X iX2 0 wH_g26 rfl 2 (by decide) (by decide +kernel) (fun _ h9 => h9) rfl dX2_lastOwner_6 ?_
      refine v_icmp_ge (tgt := 35) X dX2_lastOwner_9 (by decide) (fun c_1 => ?_) (fun c_1 => ?_)
      · refine v_iload_n X dX2_lastOwner_35 rfl ?_
        exact v_reti X hr hk rfl (by unfold r_X2_lastOwner; rw [hNc]) rfl (Nat.le_of_ble_eq_true rfl) (Nat.le_of_ble_eq_true rfl) dX2_lastOwner_36
      · exact absurd (by rw [hN]; exact nI_le (Nat.le_refl _) (by omega)) c_1
    | succ d_1 ih_1 =>
      intro k_1 i_1 b2_1 hk_1 ei_1 eb2_1
      subst ei_1 eb2_1
      have hlt_1 : k_1 < N := by omega
      refine v_iload_n X dX2_lastOwner_4 rfl ?_
      refine v_aload_n X dX2_lastOwner_5 rfl ?_
      refine v_getfield (ref := "Trumpvault$History") (ci := 2) (index := 18) (v := .int (S 26 2)) X iX2 0 wH_g26 rfl 2 (by decide) (by decide +kernel) (fun _ h9 => h9) rfl dX2_lastOwner_6 ?_
      refine v_icmp_ge (tgt := 35) X dX2_lastOwner_9 (by decide) (fun c_2 => ?_) (fun c_2 => ?_)
      · exact absurd c_2 (by rw [hN]; exact nI_ge hlt_1 (by omega))
      · refine v_aload_n X dX2_lastOwner_12 rfl ?_
        refine v_getfield (ref := "Trumpvault$History") (ci := 2) (index := 9) (v := .ref (h 27)) X iX2 0 wH_g26 rfl 0 (by decide) (by decide +kernel) (fun _ h9 => h9) rfl dX2_lastOwner_13 ?_
        refine v_iload_n X dX2_lastOwner_16 rfl ?_
        refine v_iald X 1 0 wH_g27 rfl (vp_in_nI (by omega) (by decide)) dX2_lastOwner_17 ?_
        refine v_iload_n X dX2_lastOwner_18 rfl ?_
        refine v_icmp_ne (tgt := 29) X dX2_lastOwner_19 (by decide) (fun c_3 => ?_) (fun c_3 => ?_)
        · refine v_iinc (y := ((nI k_1) + 1)) (lv' := [(3, .int ((nI k_1) + 1)), (2, .int (lp1_X2_lastOwner S p1 k_1)), (0, .ref (h 26)), (1, .int p1)]) X dX2_lastOwner_29 rfl rfl (by decide) rfl ?_
          refine v_goto (tgt := 4) X dX2_lastOwner_32 (by decide) ?_
          refine v_lv [0, 1, 2, 3] rfl ?_
          exact ih_1 (k_1 + 1) ((nI k_1) + 1) (lp1_X2_lastOwner S p1 k_1) (by omega) (nI_1 k_1) (by rw [e_lp1_X2_lastOwner]; unfold st1_X2_lastOwner; rw [if_neg c_3])
        · refine v_aload_n X dX2_lastOwner_22 rfl ?_
          refine v_getfield (ref := "Trumpvault$History") (ci := 2) (index := 15) (v := .ref (h 28)) X iX2 0 wH_g26 rfl 1 (by decide) (by decide +kernel) (fun _ h9 => h9) rfl dX2_lastOwner_23 ?_
          refine v_iload_n X dX2_lastOwner_26 rfl ?_
          refine v_iald X 2 0 wH_g28 rfl (vp_in_nI (by omega) (by decide)) dX2_lastOwner_27 ?_
          refine v_istore_n (lv' := [(2, .int (S 28 (nI k_1).toNatClampNeg)), (3, .int (nI k_1)), (0, .ref (h 26)), (1, .int p1)]) X dX2_lastOwner_28 (by decide) rfl ?_
          refine v_iinc (y := ((nI k_1) + 1)) (lv' := [(3, .int ((nI k_1) + 1)), (2, .int (S 28 (nI k_1).toNatClampNeg)), (0, .ref (h 26)), (1, .int p1)]) X dX2_lastOwner_29 rfl rfl (by decide) rfl ?_
          refine v_goto (tgt := 4) X dX2_lastOwner_32 (by decide) ?_
          refine v_lv [0, 1, 2, 3] rfl ?_
          exact ih_1 (k_1 + 1) ((nI k_1) + 1) (S 28 (nI k_1).toNatClampNeg) (by omega) (nI_1 k_1) (by rw [e_lp1_X2_lastOwner]; unfold st1_X2_lastOwner; rw [if_pos c_3])
  exact L_1 N 0 0 (-1) (Nat.zero_add _) (by exact nI_0.symm) rfl
theorem fr_X1_add (S : St) (p1 p2 : Int32) (i : Nat) (hi : i < 4 ∨ 12 < i) : s_X1_add S p1 p2 i = S i := by
  unfold s_X1_add
  repeat rw [sU_ne (by omega)]
theorem fr_X1_putSale (S : St) (p1 p2 p3 : Int32) (i : Nat) (hi : i < 4 ∨ 12 < i) : s_X1_putSale S p1 p2 p3 i = S i := by
  unfold s_X1_putSale
  repeat rw [sU_ne (by omega)]
theorem fr_X1_takeSale (S : St) (p1 : Int32) (i : Nat) (hi : i < 4 ∨ 12 < i) : s_X1_takeSale S p1 i = S i := by
  unfold s_X1_takeSale
  repeat rw [sU_ne (by omega)]
theorem fr_X1_lendTo (S : St) (p1 p2 p3 : Int32) (i : Nat) (hi : i < 4 ∨ 12 < i) : s_X1_lendTo S p1 p2 p3 i = S i := by
  unfold s_X1_lendTo
  repeat rw [sU_ne (by omega)]
theorem fr_X1_takeSalesOf (S : St) (p1 : Int32) (i : Nat) (hi : i < 4 ∨ 12 < i) : s_X1_takeSalesOf S p1 i = S i := by
  have key : ∀ k, (lp1_X1_takeSalesOf S p1 k).1 i = S i := by
    intro k
    induction k with
    | zero => rfl
    | succ k ih =>
      show (st1_X1_takeSalesOf S p1 k _ _).1 i = _
      unfold st1_X1_takeSalesOf
      split
      · exact ih
      · exact (fr_X1_takeSale _ _ i hi).trans ih
  exact key _
theorem fr_X1_endLoans (S : St) (p1 : Int32) (i : Nat) (hi : i < 4 ∨ 12 < i) : s_X1_endLoans S p1 i = S i := by
  have key : ∀ k, lp1_X1_endLoans S p1 k i = S i := by
    intro k
    induction k with
    | zero => rfl
    | succ k ih =>
      show st1_X1_endLoans S p1 k _ i = _
      unfold st1_X1_endLoans
      repeat' split
      all_goals first | exact ih | exact (sU_ne (by omega)).trans ih
  exact key _
theorem fr_X0_put (S : St) (p1 p2 p3 p4 : Int32) (hp : vp_in p1 5) (i : Nat) (hi : i < 13 ∨ 25 < i) : s_X0_put S p1 p2 p3 p4 i = S i := by
  have := vp_lt hp
  unfold s_X0_put
  repeat rw [sU_ne (by omega)]
theorem fr_X0_take (S : St) (p1 p2 : Int32) (hp : vp_in p1 5) (i : Nat) (hi : i < 13 ∨ 25 < i) : s_X0_take S p1 p2 i = S i := by
  have := vp_lt hp
  unfold s_X0_take
  repeat rw [sU_ne (by omega)]
theorem fr_X2_record (S : St) (p1 p2 : Int32) (i : Nat) (hi : i < 26 ∨ 28 < i) : s_X2_record S p1 p2 i = S i := by
  unfold s_X2_record
  split
  · repeat rw [sU_ne (by omega)]
  · rfl
