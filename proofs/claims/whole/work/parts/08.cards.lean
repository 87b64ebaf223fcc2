def r_X1_has (S : St) (p1 : Int32) : Int32 :=
  (if p1 < 0 then 0 else (if (S 4 8) ≤ p1 then 0 else 1))
theorem b_X1_has (S : St) (p1 : Int32) : (r_X1_has S p1) = 0 ∨ (r_X1_has S p1) = 1 := by
  unfold r_X1_has
  repeat' split
  all_goals first | exact Or.inl rfl | exact Or.inr rfl
set_option maxHeartbeats 1000000 in
set_option maxRecDepth 100000 in
theorem c_X1_has (l : Launch) (D : va_G) (cI cII cL : ClassId) (h : Nat → Nat) (S : St) (p1 : Int32) : v_Mi l D vwCl (tyl cI cII cL) yX1_has wsX1_has { frames := 0, cells := 0, slots := 0, locals := 0 } [.ref (h 4), .int p1] (wC h cI S) (r_X1_has S p1) (wC h cI S) := by
  refine v_ofMi (cc := cX1_has) (maxL := 2) (ret := (some .boolean)) (own := RX1) (lv0 := [(0, .ref (h 4)), (1, .int p1)]) (by decide) rfl rfl rfl (Nat.le_of_ble_eq_true rfl) ?_
  intro p e s m below meth c X hr hk hin
  have iX1 : ∀ w ∈ wsX10, w ∈ wsX1_has := by decide +kernel
  refine v_iload_n X dX1_has_0 rfl ?_
  refine v_if_lt (tgt := 16) X dX1_has_1 (by decide) (fun c_1 => ?_) (fun c_1 => ?_)
  · refine v_iconst (x := 0) X dX1_has_16 rfl ?_
    exact v_reti X hr hk rfl (by unfold r_X1_has; rw [if_pos c_1]) rfl (Nat.le_of_ble_eq_true rfl) (Nat.le_of_ble_eq_true rfl) dX1_has_17
  · refine v_iload_n X dX1_has_4 rfl ?_
    refine v_aload_n X dX1_has_5 rfl ?_
    refine v_getfield (ref := "Trumpvault$Cards") (ci := 1) (index := 36) (v := .int (S 4 8)) X iX1 0 wC_g4 rfl 8 (by decide) (by decide +kernel) (fun _ h9 => h9) rfl dX1_has_6 ?_
    refine v_icmp_ge (tgt := 16) X dX1_has_9 (by decide) (fun c_2 => ?_) (fun c_2 => ?_)
    · refine v_iconst (x := 0) X dX1_has_16 rfl ?_
      exact v_reti X hr hk rfl (by unfold r_X1_has; rw [if_neg c_1, if_pos c_2]) rfl (Nat.le_of_ble_eq_true rfl) (Nat.le_of_ble_eq_true rfl) dX1_has_17
    · refine v_iconst (x := 1) X dX1_has_12 rfl ?_
      refine v_goto (tgt := 17) X dX1_has_13 (by decide) ?_
      exact v_reti X hr hk rfl (by unfold r_X1_has; rw [if_neg c_1, if_neg c_2]) rfl (Nat.le_of_ble_eq_true rfl) (Nat.le_of_ble_eq_true rfl) dX1_has_17

theorem has_in {S : St} {x : Int32} (hc : cntC S) (h : ¬ r_X1_has S x = 0) : vp_in x 30 := by
  unfold r_X1_has at h
  split at h
  · exact absurd rfl h
  · split at h
    · exact absurd rfl h
    · rename_i h1 h2
      rw [vp_in_iff]
      simp only [Int32.lt_iff_toInt_lt, Int32.le_iff_toInt_le] at h1 h2
      have := hc.2
      simp at h1
      omega

def r_X1_isFull (S : St) : Int32 :=
  (if (S 4 8) < 30 then 0 else 1)
theorem b_X1_isFull (S : St) : (r_X1_isFull S) = 0 ∨ (r_X1_isFull S) = 1 := by
  unfold r_X1_isFull
  repeat' split
  all_goals first | exact Or.inl rfl | exact Or.inr rfl
set_option maxHeartbeats 1000000 in
set_option maxRecDepth 100000 in
theorem c_X1_isFull (l : Launch) (D : va_G) (cI cII cL : ClassId) (h : Nat → Nat) (S : St) : v_Mi l D vwCl (tyl cI cII cL) yX1_isFull wsX1_isFull { frames := 0, cells := 0, slots := 0, locals := 0 } [.ref (h 4)] (wC h cI S) (r_X1_isFull S) (wC h cI S) := by
  refine v_ofMi (cc := cX1_isFull) (maxL := 1) (ret := (some .boolean)) (own := RX1) (lv0 := [(0, .ref (h 4))]) (by decide) rfl rfl rfl (Nat.le_of_ble_eq_true rfl) ?_
  intro p e s m below meth c X hr hk hin
  have iX1 : ∀ w ∈ wsX10, w ∈ wsX1_isFull := by decide +kernel
  refine v_aload_n X dX1_isFull_0 rfl ?_
  refine v_getfield (ref := "Trumpvault$Cards") (ci := 1) (index := 36) (v := .int (S 4 8)) X iX1 0 wC_g4 rfl 8 (by decide) (by decide +kernel) (fun _ h9 => h9) rfl dX1_isFull_1 ?_
  refine v_bipush (x := 30) X dX1_isFull_4 rfl ?_
  refine v_icmp_lt (tgt := 13) X dX1_isFull_6 (by decide) (fun c_1 => ?_) (fun c_1 => ?_)
  · refine v_iconst (x := 0) X dX1_isFull_13 rfl ?_
    exact v_reti X hr hk rfl (by unfold r_X1_isFull; rw [if_pos c_1]) rfl (Nat.le_of_ble_eq_true rfl) (Nat.le_of_ble_eq_true rfl) dX1_isFull_14
  · refine v_iconst (x := 1) X dX1_isFull_9 rfl ?_
    refine v_goto (tgt := 14) X dX1_isFull_10 (by decide) ?_
    exact v_reti X hr hk rfl (by unfold r_X1_isFull; rw [if_neg c_1]) rfl (Nat.le_of_ble_eq_true rfl) (Nat.le_of_ble_eq_true rfl) dX1_isFull_14

def r_X1_add (S : St) (p1 p2 : Int32) : Int32 :=
  (S 4 8)
def s_X1_add (S : St) (p1 p2 : Int32) : St :=
  (sU (sU (sU (sU S 5 (S 4 8).toNatClampNeg p2) 6 (S 4 8).toNatClampNeg p1) 7 (S 4 8).toNatClampNeg 0) 4 8 (((sU (sU (sU S 5 (S 4 8).toNatClampNeg p2) 6 (S 4 8).toNatClampNeg p1) 7 (S 4 8).toNatClampNeg 0) 4 8) + 1))
set_option maxHeartbeats 1000000 in
set_option maxRecDepth 100000 in
theorem c_X1_add (l : Launch) (D : va_G) (cI cII cL : ClassId) (h : Nat → Nat) (S : St) (p1 p2 : Int32) (hadd : vp_in (S 4 8) 30) : v_Mi l D vwCl (tyl cI cII cL) yX1_add wsX1_add { frames := 0, cells := 0, slots := 0, locals := 0 } [.ref (h 4), .int p1, .int p2] (wC h cI S) (r_X1_add S p1 p2) (wC h cI (s_X1_add S p1 p2)) := by
  refine v_ofMi (cc := cX1_add) (maxL := 4) (ret := (some .int)) (own := RX1) (lv0 := [(0, .ref (h 4)), (1, .int p1), (2, .int p2)]) (by decide) rfl rfl rfl (Nat.le_of_ble_eq_true rfl) ?_
  intro p e s m below meth c X hr hk hin
  have iX1 : ∀ w ∈ wsX10, w ∈ wsX1_add := by decide +kernel
  refine v_aload_n X dX1_add_0 rfl ?_
  refine v_getfield (ref := "Trumpvault$Cards") (ci := 1) (index := 36) (v := .int (S 4 8)) X iX1 0 wC_g4 rfl 8 (by decide) (by decide +kernel) (fun _ h9 => h9) rfl dX1_add_1 ?_
  refine v_istore_n (lv' := [(3, .int (S 4 8)), (0, .ref (h 4)), (1, .int p1), (2, .int p2)]) X dX1_add_4 (by decide) rfl ?_
  refine v_aload_n X dX1_add_5 rfl ?_
  refine v_getfield (ref := "Trumpvault$Cards") (ci := 1) (index := 9) (v := .ref (h 5)) X iX1 0 wC_g4 rfl 0 (by decide) (by decide +kernel) (fun _ h9 => h9) rfl dX1_add_6 ?_
  refine v_iload_n X dX1_add_9 rfl ?_
  refine v_iload_n X dX1_add_10 rfl ?_
  refine v_iast (w' := (wC h cI (sU S 5 (S 4 8).toNatClampNeg p2))) X 1 0 wC_g5 rfl hadd dX1_add_11 wC_s5 ?_
  refine v_aload_n X dX1_add_12 rfl ?_
  refine v_getfield (ref := "Trumpvault$Cards") (ci := 1) (index := 15) (v := .ref (h 6)) X iX1 0 wC_g4 rfl 1 (by decide) (by decide +kernel) (fun _ h9 => h9) rfl dX1_add_13 ?_
  refine v_iload_n X dX1_add_16 rfl ?_
  refine v_iload_n X dX1_add_17 rfl ?_
  refine v_iast (w' := (wC h cI (sU (sU S 5 (S 4 8).toNatClampNeg p2) 6 (S 4 8).toNatClampNeg p1))) X 2 0 wC_g6 rfl hadd dX1_add_18 wC_s6 ?_
  refine v_aload_n X dX1_add_19 rfl ?_
  refine v_getfield (ref := "Trumpvault$Cards") (ci := 1) (index := 18) (v := .ref (h 7)) X iX1 0 wC_g4 rfl 2 (by decide) (by decide +kernel) (fun _ h9 => h9) rfl dX1_add_20 ?_
  refine v_iload_n X dX1_add_23 rfl ?_
  refine v_iconst (x := 0) X dX1_add_24 rfl ?_
  refine v_iast (w' := (wC h cI (sU (sU (sU S 5 (S 4 8).toNatClampNeg p2) 6 (S 4 8).toNatClampNeg p1) 7 (S 4 8).toNatClampNeg 0))) X 3 0 wC_g7 rfl hadd dX1_add_25 wC_s7 ?_
  refine v_aload_n X dX1_add_26 rfl ?_
  refine v_dup X dX1_add_27 rfl ?_
  refine v_getfield (ref := "Trumpvault$Cards") (ci := 1) (index := 36) (v := .int ((sU (sU (sU S 5 (S 4 8).toNatClampNeg p2) 6 (S 4 8).toNatClampNeg p1) 7 (S 4 8).toNatClampNeg 0) 4 8)) X iX1 0 wC_g4 rfl 8 (by decide) (by decide +kernel) (fun _ h9 => h9) rfl dX1_add_28 ?_
  refine v_iconst (x := 1) X dX1_add_31 rfl ?_
  refine v_iadd X dX1_add_32 ?_
  refine v_putfield (w' := (wC h cI (sU (sU (sU (sU S 5 (S 4 8).toNatClampNeg p2) 6 (S 4 8).toNatClampNeg p1) 7 (S 4 8).toNatClampNeg 0) 4 8 (((sU (sU (sU S 5 (S 4 8).toNatClampNeg p2) 6 (S 4 8).toNatClampNeg p1) 7 (S 4 8).toNatClampNeg 0) 4 8) + 1)))) (ref := "Trumpvault$Cards") (ci := 1) (index := 36) (ty := .int) X iX1 tyX1 tyX1_ok nmX1 0 wC_g4 rfl 8 (by decide) (by decide +kernel) (fun _ h9 => h9) rfl (by decide +kernel) rfl rfl (Nat.le_of_ble_eq_true rfl) dX1_add_33 wC_f4_8 ?_
  refine v_iload_n X dX1_add_36 rfl ?_
  exact v_reti X hr hk rfl (by unfold r_X1_add; rfl) (congrArg (fun z => (wC h cI z)) (by unfold s_X1_add; rfl)) (Nat.le_of_ble_eq_true rfl) (Nat.le_of_ble_eq_true rfl) dX1_add_37

def r_X1_holderOf (S : St) (p1 : Int32) : Int32 :=
  (if (S 7 p1.toNatClampNeg) = 3 then (S 11 p1.toNatClampNeg) else (S 6 p1.toNatClampNeg))
set_option maxHeartbeats 1000000 in
set_option maxRecDepth 100000 in
theorem c_X1_holderOf (l : Launch) (D : va_G) (cI cII cL : ClassId) (h : Nat → Nat) (S : St) (p1 : Int32) (in1_30 : vp_in p1 30) : v_Mi l D vwCl (tyl cI cII cL) yX1_holderOf wsX1_holderOf { frames := 0, cells := 0, slots := 0, locals := 0 } [.ref (h 4), .int p1] (wC h cI S) (r_X1_holderOf S p1) (wC h cI S) := by
  refine v_ofMi (cc := cX1_holderOf) (maxL := 2) (ret := (some .int)) (own := RX1) (lv0 := [(0, .ref (h 4)), (1, .int p1)]) (by decide) rfl rfl rfl (Nat.le_of_ble_eq_true rfl) ?_
  intro p e s m below meth c X hr hk hin
  have iX1 : ∀ w ∈ wsX10, w ∈ wsX1_holderOf := by decide +kernel
  refine v_aload_n X dX1_holderOf_0 rfl ?_
  refine v_getfield (ref := "Trumpvault$Cards") (ci := 1) (index := 18) (v := .ref (h 7)) X iX1 0 wC_g4 rfl 2 (by decide) (by decide +kernel) (fun _ h9 => h9) rfl dX1_holderOf_1 ?_
  refine v_iload_n X dX1_holderOf_4 rfl ?_
  refine v_iald X 3 0 wC_g7 rfl in1_30 dX1_holderOf_5 ?_
  refine v_iconst (x := 3) X dX1_holderOf_6 rfl ?_
  refine v_icmp_ne (tgt := 19) X dX1_holderOf_7 (by decide) (fun c_1 => ?_) (fun c_1 => ?_)
  · refine v_aload_n X dX1_holderOf_19 rfl ?_
    refine v_getfield (ref := "Trumpvault$Cards") (ci := 1) (index := 15) (v := .ref (h 6)) X iX1 0 wC_g4 rfl 1 (by decide) (by decide +kernel) (fun _ h9 => h9) rfl dX1_holderOf_20 ?_
    refine v_iload_n X dX1_holderOf_23 rfl ?_
    refine v_iald X 2 0 wC_g6 rfl in1_30 dX1_holderOf_24 ?_
    exact v_reti X hr hk rfl (by unfold r_X1_holderOf; rw [if_neg c_1]) rfl (Nat.le_of_ble_eq_true rfl) (Nat.le_of_ble_eq_true rfl) dX1_holderOf_25
  · refine v_aload_n X dX1_holderOf_10 rfl ?_
    refine v_getfield (ref := "Trumpvault$Cards") (ci := 1) (index := 30) (v := .ref (h 11)) X iX1 0 wC_g4 rfl 6 (by decide) (by decide +kernel) (fun _ h9 => h9) rfl dX1_holderOf_11 ?_
    refine v_iload_n X dX1_holderOf_14 rfl ?_
    refine v_iald X 7 0 wC_g11 rfl in1_30 dX1_holderOf_15 ?_
    refine v_goto (tgt := 25) X dX1_holderOf_16 (by decide) ?_
    exact v_reti X hr hk rfl (by unfold r_X1_holderOf; rw [if_pos c_1]) rfl (Nat.le_of_ble_eq_true rfl) (Nat.le_of_ble_eq_true rfl) dX1_holderOf_25

def s_X1_putSale (S : St) (p1 p2 p3 : Int32) : St :=
  (sU (sU (sU S 7 p1.toNatClampNeg 1) 8 p1.toNatClampNeg p2) 9 p1.toNatClampNeg p3)
set_option maxHeartbeats 1000000 in
set_option maxRecDepth 100000 in
theorem c_X1_putSale (l : Launch) (D : va_G) (cI cII cL : ClassId) (h : Nat → Nat) (S : St) (p1 p2 p3 : Int32) (in1_30 : vp_in p1 30) : v_Mv l D vwCl (tyl cI cII cL) yX1_putSale wsX1_putSale { frames := 0, cells := 0, slots := 0, locals := 0 } [.ref (h 4), .int p1, .int p2, .int p3] (wC h cI S) (wC h cI (s_X1_putSale S p1 p2 p3)) := by
  refine v_ofMv (cc := cX1_putSale) (maxL := 4) (ret := none) (own := RX1) (lv0 := [(0, .ref (h 4)), (1, .int p1), (2, .int p2), (3, .int p3)]) (by decide) rfl rfl rfl (Nat.le_of_ble_eq_true rfl) ?_
  intro p e s m below meth c X hr hk hin
  have iX1 : ∀ w ∈ wsX10, w ∈ wsX1_putSale := by decide +kernel
  refine v_aload_n X dX1_putSale_0 rfl ?_
  refine v_getfield (ref := "Trumpvault$Cards") (ci := 1) (index := 18) (v := .ref (h 7)) X iX1 0 wC_g4 rfl 2 (by decide) (by decide +kernel) (fun _ h9 => h9) rfl dX1_putSale_1 ?_
  refine v_iload_n X dX1_putSale_4 rfl ?_
  refine v_iconst (x := 1) X dX1_putSale_5 rfl ?_
  refine v_iast (w' := (wC h cI (sU S 7 p1.toNatClampNeg 1))) X 3 0 wC_g7 rfl in1_30 dX1_putSale_6 wC_s7 ?_
  refine v_aload_n X dX1_putSale_7 rfl ?_
  refine v_getfield (ref := "Trumpvault$Cards") (ci := 1) (index := 21) (v := .ref (h 8)) X iX1 0 wC_g4 rfl 3 (by decide) (by decide +kernel) (fun _ h9 => h9) rfl dX1_putSale_8 ?_
  refine v_iload_n X dX1_putSale_11 rfl ?_
  refine v_iload_n X dX1_putSale_12 rfl ?_
  refine v_iast (w' := (wC h cI (sU (sU S 7 p1.toNatClampNeg 1) 8 p1.toNatClampNeg p2))) X 4 0 wC_g8 rfl in1_30 dX1_putSale_13 wC_s8 ?_
  refine v_aload_n X dX1_putSale_14 rfl ?_
  refine v_getfield (ref := "Trumpvault$Cards") (ci := 1) (index := 24) (v := .ref (h 9)) X iX1 0 wC_g4 rfl 4 (by decide) (by decide +kernel) (fun _ h9 => h9) rfl dX1_putSale_15 ?_
  refine v_iload_n X dX1_putSale_18 rfl ?_
  refine v_iload_n X dX1_putSale_19 rfl ?_
  refine v_iast (w' := (wC h cI (sU (sU (sU S 7 p1.toNatClampNeg 1) 8 p1.toNatClampNeg p2) 9 p1.toNatClampNeg p3))) X 5 0 wC_g9 rfl in1_30 dX1_putSale_20 wC_s9 ?_
  exact v_retv X hr hk (congrArg (fun z => (wC h cI z)) (by unfold s_X1_putSale; rfl)) (Nat.le_of_ble_eq_true rfl) (Nat.le_of_ble_eq_true rfl) dX1_putSale_21

def r_X1_takeSale (S : St) (p1 : Int32) : Int32 :=
  ((sU S 7 p1.toNatClampNeg 0) 8 p1.toNatClampNeg)
def s_X1_takeSale (S : St) (p1 : Int32) : St :=
  (sU S 7 p1.toNatClampNeg 0)
set_option maxHeartbeats 1000000 in
set_option maxRecDepth 100000 in
theorem c_X1_takeSale (l : Launch) (D : va_G) (cI cII cL : ClassId) (h : Nat → Nat) (S : St) (p1 : Int32) (in1_30 : vp_in p1 30) : v_Mi l D vwCl (tyl cI cII cL) yX1_takeSale wsX1_takeSale { frames := 0, cells := 0, slots := 0, locals := 0 } [.ref (h 4), .int p1] (wC h cI S) (r_X1_takeSale S p1) (wC h cI (s_X1_takeSale S p1)) := by
  refine v_ofMi (cc := cX1_takeSale) (maxL := 2) (ret := (some .int)) (own := RX1) (lv0 := [(0, .ref (h 4)), (1, .int p1)]) (by decide) rfl rfl rfl (Nat.le_of_ble_eq_true rfl) ?_
  intro p e s m below meth c X hr hk hin
  have iX1 : ∀ w ∈ wsX10, w ∈ wsX1_takeSale := by decide +kernel
  refine v_aload_n X dX1_takeSale_0 rfl ?_
  refine v_getfield (ref := "Trumpvault$Cards") (ci := 1) (index := 18) (v := .ref (h 7)) X iX1 0 wC_g4 rfl 2 (by decide) (by decide +kernel) (fun _ h9 => h9) rfl dX1_takeSale_1 ?_
  refine v_iload_n X dX1_takeSale_4 rfl ?_
  refine v_iconst (x := 0) X dX1_takeSale_5 rfl ?_
  refine v_iast (w' := (wC h cI (sU S 7 p1.toNatClampNeg 0))) X 3 0 wC_g7 rfl in1_30 dX1_takeSale_6 wC_s7 ?_
  refine v_aload_n X dX1_takeSale_7 rfl ?_
  refine v_getfield (ref := "Trumpvault$Cards") (ci := 1) (index := 21) (v := .ref (h 8)) X iX1 0 wC_g4 rfl 3 (by decide) (by decide +kernel) (fun _ h9 => h9) rfl dX1_takeSale_8 ?_
  refine v_iload_n X dX1_takeSale_11 rfl ?_
  refine v_iald X 4 0 wC_g8 rfl in1_30 dX1_takeSale_12 ?_
  exact v_reti X hr hk rfl (by unfold r_X1_takeSale; rfl) (congrArg (fun z => (wC h cI z)) (by unfold s_X1_takeSale; rfl)) (Nat.le_of_ble_eq_true rfl) (Nat.le_of_ble_eq_true rfl) dX1_takeSale_13

def r_X1_isOnSale (S : St) (p1 p2 : Int32) : Int32 :=
  (if (S 7 p1.toNatClampNeg) = 1 then (if (S 5 p1.toNatClampNeg) = p2 then 1 else 0) else 0)
theorem b_X1_isOnSale (S : St) (p1 p2 : Int32) : (r_X1_isOnSale S p1 p2) = 0 ∨ (r_X1_isOnSale S p1 p2) = 1 := by
  unfold r_X1_isOnSale
  repeat' split
  all_goals first | exact Or.inl rfl | exact Or.inr rfl
set_option maxHeartbeats 1000000 in
set_option maxRecDepth 100000 in
theorem c_X1_isOnSale (l : Launch) (D : va_G) (cI cII cL : ClassId) (h : Nat → Nat) (S : St) (p1 p2 : Int32) (in1_30 : vp_in p1 30) : v_Mi l D vwCl (tyl cI cII cL) yX1_isOnSale wsX1_isOnSale { frames := 0, cells := 0, slots := 0, locals := 0 } [.ref (h 4), .int p1, .int p2] (wC h cI S) (r_X1_isOnSale S p1 p2) (wC h cI S) := by
  refine v_ofMi (cc := cX1_isOnSale) (maxL := 3) (ret := (some .boolean)) (own := RX1) (lv0 := [(0, .ref (h 4)), (1, .int p1), (2, .int p2)]) (by decide) rfl rfl rfl (Nat.le_of_ble_eq_true rfl) ?_
  intro p e s m below meth c X hr hk hin
  have iX1 : ∀ w ∈ wsX10, w ∈ wsX1_isOnSale := by decide +kernel
  refine v_aload_n X dX1_isOnSale_0 rfl ?_
  refine v_getfield (ref := "Trumpvault$Cards") (ci := 1) (index := 18) (v := .ref (h 7)) X iX1 0 wC_g4 rfl 2 (by decide) (by decide +kernel) (fun _ h9 => h9) rfl dX1_isOnSale_1 ?_
  refine v_iload_n X dX1_isOnSale_4 rfl ?_
  refine v_iald X 3 0 wC_g7 rfl in1_30 dX1_isOnSale_5 ?_
  refine v_iconst (x := 1) X dX1_isOnSale_6 rfl ?_
  refine v_icmp_ne (tgt := 24) X dX1_isOnSale_7 (by decide) (fun c_1 => ?_) (fun c_1 => ?_)
  · refine v_iconst (x := 0) X dX1_isOnSale_24 rfl ?_
    exact v_reti X hr hk rfl (by unfold r_X1_isOnSale; rw [if_neg c_1]) rfl (Nat.le_of_ble_eq_true rfl) (Nat.le_of_ble_eq_true rfl) dX1_isOnSale_25
  · refine v_aload_n X dX1_isOnSale_10 rfl ?_
    refine v_getfield (ref := "Trumpvault$Cards") (ci := 1) (index := 9) (v := .ref (h 5)) X iX1 0 wC_g4 rfl 0 (by decide) (by decide +kernel) (fun _ h9 => h9) rfl dX1_isOnSale_11 ?_
    refine v_iload_n X dX1_isOnSale_14 rfl ?_
    refine v_iald X 1 0 wC_g5 rfl in1_30 dX1_isOnSale_15 ?_
    refine v_iload_n X dX1_isOnSale_16 rfl ?_
    refine v_icmp_ne (tgt := 24) X dX1_isOnSale_17 (by decide) (fun c_2 => ?_) (fun c_2 => ?_)
    · refine v_iconst (x := 0) X dX1_isOnSale_24 rfl ?_
      exact v_reti X hr hk rfl (by unfold r_X1_isOnSale; rw [if_pos c_1, if_neg c_2]) rfl (Nat.le_of_ble_eq_true rfl) (Nat.le_of_ble_eq_true rfl) dX1_isOnSale_25
    · refine v_iconst (x := 1) X dX1_isOnSale_20 rfl ?_
      refine v_goto (tgt := 25) X dX1_isOnSale_21 (by decide) ?_
      exact v_reti X hr hk rfl (by unfold r_X1_isOnSale; rw [if_pos c_1, if_pos c_2]) rfl (Nat.le_of_ble_eq_true rfl) (Nat.le_of_ble_eq_true rfl) dX1_isOnSale_25

def s_X1_lendTo (S : St) (p1 p2 p3 : Int32) : St :=
  (sU (sU (sU S 7 p1.toNatClampNeg 3) 11 p1.toNatClampNeg p2) 12 p1.toNatClampNeg p3)
set_option maxHeartbeats 1000000 in
set_option maxRecDepth 100000 in
theorem c_X1_lendTo (l : Launch) (D : va_G) (cI cII cL : ClassId) (h : Nat → Nat) (S : St) (p1 p2 p3 : Int32) (in1_30 : vp_in p1 30) : v_Mv l D vwCl (tyl cI cII cL) yX1_lendTo wsX1_lendTo { frames := 0, cells := 0, slots := 0, locals := 0 } [.ref (h 4), .int p1, .int p2, .int p3] (wC h cI S) (wC h cI (s_X1_lendTo S p1 p2 p3)) := by
  refine v_ofMv (cc := cX1_lendTo) (maxL := 4) (ret := none) (own := RX1) (lv0 := [(0, .ref (h 4)), (1, .int p1), (2, .int p2), (3, .int p3)]) (by decide) rfl rfl rfl (Nat.le_of_ble_eq_true rfl) ?_
  intro p e s m below meth c X hr hk hin
  have iX1 : ∀ w ∈ wsX10, w ∈ wsX1_lendTo := by decide +kernel
  refine v_aload_n X dX1_lendTo_0 rfl ?_
  refine v_getfield (ref := "Trumpvault$Cards") (ci := 1) (index := 18) (v := .ref (h 7)) X iX1 0 wC_g4 rfl 2 (by decide) (by decide +kernel) (fun _ h9 => h9) rfl dX1_lendTo_1 ?_
  refine v_iload_n X dX1_lendTo_4 rfl ?_
  refine v_iconst (x := 3) X dX1_lendTo_5 rfl ?_
  refine v_iast (w' := (wC h cI (sU S 7 p1.toNatClampNeg 3))) X 3 0 wC_g7 rfl in1_30 dX1_lendTo_6 wC_s7 ?_
  refine v_aload_n X dX1_lendTo_7 rfl ?_
  refine v_getfield (ref := "Trumpvault$Cards") (ci := 1) (index := 30) (v := .ref (h 11)) X iX1 0 wC_g4 rfl 6 (by decide) (by decide +kernel) (fun _ h9 => h9) rfl dX1_lendTo_8 ?_
  refine v_iload_n X dX1_lendTo_11 rfl ?_
  refine v_iload_n X dX1_lendTo_12 rfl ?_
  refine v_iast (w' := (wC h cI (sU (sU S 7 p1.toNatClampNeg 3) 11 p1.toNatClampNeg p2))) X 7 0 wC_g11 rfl in1_30 dX1_lendTo_13 wC_s11 ?_
  refine v_aload_n X dX1_lendTo_14 rfl ?_
  refine v_getfield (ref := "Trumpvault$Cards") (ci := 1) (index := 33) (v := .ref (h 12)) X iX1 0 wC_g4 rfl 7 (by decide) (by decide +kernel) (fun _ h9 => h9) rfl dX1_lendTo_15 ?_
  refine v_iload_n X dX1_lendTo_18 rfl ?_
  refine v_iload_n X dX1_lendTo_19 rfl ?_
  refine v_iast (w' := (wC h cI (sU (sU (sU S 7 p1.toNatClampNeg 3) 11 p1.toNatClampNeg p2) 12 p1.toNatClampNeg p3))) X 8 0 wC_g12 rfl in1_30 dX1_lendTo_20 wC_s12 ?_
  exact v_retv X hr hk (congrArg (fun z => (wC h cI z)) (by unfold s_X1_lendTo; rfl)) (Nat.le_of_ble_eq_true rfl) (Nat.le_of_ble_eq_true rfl) dX1_lendTo_21

def r_X1_saleIsBefore (S : St) (p1 p2 : Int32) : Int32 :=
  (if (S 8 p1.toNatClampNeg) < (S 8 p2.toNatClampNeg) then 1 else (if (S 8 p1.toNatClampNeg) = (S 8 p2.toNatClampNeg) then (if (S 9 p2.toNatClampNeg) ≤ (S 9 p1.toNatClampNeg) then 0 else 1) else 0))
theorem b_X1_saleIsBefore (S : St) (p1 p2 : Int32) : (r_X1_saleIsBefore S p1 p2) = 0 ∨ (r_X1_saleIsBefore S p1 p2) = 1 := by
  unfold r_X1_saleIsBefore
  repeat' split
  all_goals first | exact Or.inl rfl | exact Or.inr rfl
set_option maxHeartbeats 1000000 in
set_option maxRecDepth 100000 in
theorem c_X1_saleIsBefore (l : Launch) (D : va_G) (cI cII cL : ClassId) (h : Nat → Nat) (S : St) (p1 p2 : Int32) (in1_30 : vp_in p1 30) (in2_30 : vp_in p2 30) : v_Mi l D vwCl (tyl cI cII cL) yX1_saleIsBefore wsX1_saleIsBefore { frames := 0, cells := 0, slots := 0, locals := 0 } [.ref (h 4), .int p1, .int p2] (wC h cI S) (r_X1_saleIsBefore S p1 p2) (wC h cI S) := by
  refine v_ofMi (cc := cX1_saleIsBefore) (maxL := 3) (ret := (some .boolean)) (own := RX1) (lv0 := [(0, .ref (h 4)), (1, .int p1), (2, .int p2)]) (by decide) rfl rfl rfl (Nat.le_of_ble_eq_true rfl) ?_
  intro p e s m below meth c X hr hk hin
  have iX1 : ∀ w ∈ wsX10, w ∈ wsX1_saleIsBefore := by decide +kernel
  refine v_aload_n X dX1_saleIsBefore_0 rfl ?_
  refine v_getfield (ref := "Trumpvault$Cards") (ci := 1) (index := 21) (v := .ref (h 8)) X iX1 0 wC_g4 rfl 3 (by decide) (by decide +kernel) (fun _ h9 => h9) rfl dX1_saleIsBefore_1 ?_
  refine v_iload_n X dX1_saleIsBefore_4 rfl ?_
  refine v_iald X 4 0 wC_g8 rfl in1_30 dX1_saleIsBefore_5 ?_
  refine v_aload_n X dX1_saleIsBefore_6 rfl ?_
  refine v_getfield (ref := "Trumpvault$Cards") (ci := 1) (index := 21) (v := .ref (h 8)) X iX1 0 wC_g4 rfl 3 (by decide) (by decide +kernel) (fun _ h9 => h9) rfl dX1_saleIsBefore_7 ?_
  refine v_iload_n X dX1_saleIsBefore_10 rfl ?_
  refine v_iald X 4 0 wC_g8 rfl in2_30 dX1_saleIsBefore_11 ?_
  refine v_icmp_lt (tgt := 45) X dX1_saleIsBefore_12 (by decide) (fun c_1 => ?_) (fun c_1 => ?_)
  · refine v_iconst (x := 1) X dX1_saleIsBefore_45 rfl ?_
    refine v_goto (tgt := 50) X dX1_saleIsBefore_46 (by decide) ?_
    exact v_reti X hr hk rfl (by unfold r_X1_saleIsBefore; rw [if_pos c_1]) rfl (Nat.le_of_ble_eq_true rfl) (Nat.le_of_ble_eq_true rfl) dX1_saleIsBefore_50
  · refine v_aload_n X dX1_saleIsBefore_15 rfl ?_
    refine v_getfield (ref := "Trumpvault$Cards") (ci := 1) (index := 21) (v := .ref (h 8)) X iX1 0 wC_g4 rfl 3 (by decide) (by decide +kernel) (fun _ h9 => h9) rfl dX1_saleIsBefore_16 ?_
    refine v_iload_n X dX1_saleIsBefore_19 rfl ?_
    refine v_iald X 4 0 wC_g8 rfl in1_30 dX1_saleIsBefore_20 ?_
    refine v_aload_n X dX1_saleIsBefore_21 rfl ?_
    refine v_getfield (ref := "Trumpvault$Cards") (ci := 1) (index := 21) (v := .ref (h 8)) X iX1 0 wC_g4 rfl 3 (by decide) (by decide +kernel) (fun _ h9 => h9) rfl dX1_saleIsBefore_22 ?_
    refine v_iload_n X dX1_saleIsBefore_25 rfl ?_
    refine v_iald X 4 0 wC_g8 rfl in2_30 dX1_saleIsBefore_26 ?_
    refine v_icmp_ne (tgt := 49) X dX1_saleIsBefore_27 (by decide) (fun c_2 => ?_) (fun c_2 => ?_)
    · refine v_iconst (x := 0) X dX1_saleIsBefore_49 rfl ?_
      exact v_reti X hr hk rfl (by unfold r_X1_saleIsBefore; rw [if_neg c_1, if_neg c_2]) rfl (Nat.le_of_ble_eq_true rfl) (Nat.le_of_ble_eq_true rfl) dX1_saleIsBefore_50
    · refine v_aload_n X dX1_saleIsBefore_30 rfl ?_
      refine v_getfield (ref := "Trumpvault$Cards") (ci := 1) (index := 24) (v := .ref (h 9)) X iX1 0 wC_g4 rfl 4 (by decide) (by decide +kernel) (fun _ h9 => h9) rfl dX1_saleIsBefore_31 ?_
      refine v_iload_n X dX1_saleIsBefore_34 rfl ?_
      refine v_iald X 5 0 wC_g9 rfl in1_30 dX1_saleIsBefore_35 ?_
      refine v_aload_n X dX1_saleIsBefore_36 rfl ?_
      refine v_getfield (ref := "Trumpvault$Cards") (ci := 1) (index := 24) (v := .ref (h 9)) X iX1 0 wC_g4 rfl 4 (by decide) (by decide +kernel) (fun _ h9 => h9) rfl dX1_saleIsBefore_37 ?_
      refine v_iload_n X dX1_saleIsBefore_40 rfl ?_
      refine v_iald X 5 0 wC_g9 rfl in2_30 dX1_saleIsBefore_41 ?_
      refine v_icmp_ge (tgt := 49) X dX1_saleIsBefore_42 (by decide) (fun c_3 => ?_) (fun c_3 => ?_)
      · refine v_iconst (x := 0) X dX1_saleIsBefore_49 rfl ?_
        exact v_reti X hr hk rfl (by unfold r_X1_saleIsBefore; rw [if_neg c_1, if_pos c_2, if_pos c_3]) rfl (Nat.le_of_ble_eq_true rfl) (Nat.le_of_ble_eq_true rfl) dX1_saleIsBefore_50
      · refine v_iconst (x := 1) X dX1_saleIsBefore_45 rfl ?_
        refine v_goto (tgt := 50) X dX1_saleIsBefore_46 (by decide) ?_
        exact v_reti X hr hk rfl (by unfold r_X1_saleIsBefore; rw [if_neg c_1, if_pos c_2, if_neg c_3]) rfl (Nat.le_of_ble_eq_true rfl) (Nat.le_of_ble_eq_true rfl) dX1_saleIsBefore_50

def r_X1_canBeSwapped (S : St) (p1 : Int32) : Int32 :=
  (if (S 7 p1.toNatClampNeg) = 2 then (if (r_X1_has S (S 10 p1.toNatClampNeg)) = 0 then 0 else (if (S 7 (S 10 p1.toNatClampNeg).toNatClampNeg) = 0 then (if (S 6 p1.toNatClampNeg) = (S 6 (S 10 p1.toNatClampNeg).toNatClampNeg) then 0 else 1) else 0)) else 0)
theorem b_X1_canBeSwapped (S : St) (p1 : Int32) : (r_X1_canBeSwapped S p1) = 0 ∨ (r_X1_canBeSwapped S p1) = 1 := by
  unfold r_X1_canBeSwapped
  repeat' split
  all_goals first | exact Or.inl rfl | exact Or.inr rfl
set_option maxHeartbeats 1000000 in
set_option maxRecDepth 100000 in
theorem c_X1_canBeSwapped (l : Launch) (D : va_G) (cI cII cL : ClassId) (h : Nat → Nat) (S : St) (p1 : Int32) (in1_30 : vp_in p1 30) (hcnt : cntC S) : v_Mi l D vwCl (tyl cI cII cL) yX1_canBeSwapped wsX1_canBeSwapped { frames := 1, cells := 0, slots := 0, locals := 21 } [.ref (h 4), .int p1] (wC h cI S) (r_X1_canBeSwapped S p1) (wC h cI S) := by
  refine v_ofMi (cc := cX1_canBeSwapped) (maxL := 3) (ret := (some .boolean)) (own := RX1) (lv0 := [(0, .ref (h 4)), (1, .int p1)]) (by decide) rfl rfl rfl (Nat.le_of_ble_eq_true rfl) ?_
  intro p e s m below meth c X hr hk hin
  have iX1 : ∀ w ∈ wsX10, w ∈ wsX1_canBeSwapped := by decide +kernel
  refine v_aload_n X dX1_canBeSwapped_0 rfl ?_
  refine v_getfield (ref := "Trumpvault$Cards") (ci := 1) (index := 27) (v := .ref (h 10)) X iX1 0 wC_g4 rfl 5 (by decide) (by decide +kernel) (fun _ h9 => h9) rfl dX1_canBeSwapped_1 ?_
  refine v_iload_n X dX1_canBeSwapped_4 rfl ?_
  refine v_iald X 6 0 wC_g10 rfl in1_30 dX1_canBeSwapped_5 ?_
  refine v_istore_n (lv' := [(2, .int (S 10 p1.toNatClampNeg)), (0, .ref (h 4)), (1, .int p1)]) X dX1_canBeSwapped_6 (by decide) rfl ?_
  refine v_aload_n X dX1_canBeSwapped_7 rfl ?_
  refine v_getfield (ref := "Trumpvault$Cards") (ci := 1) (index := 18) (v := .ref (h 7)) X iX1 0 wC_g4 rfl 2 (by decide) (by decide +kernel) (fun _ h9 => h9) rfl dX1_canBeSwapped_8 ?_
  refine v_iload_n X dX1_canBeSwapped_11 rfl ?_
  refine v_iald X 3 0 wC_g7 rfl in1_30 dX1_canBeSwapped_12 ?_
  refine v_iconst (x := 2) X dX1_canBeSwapped_13 rfl ?_
  refine v_icmp_ne (tgt := 53) X dX1_canBeSwapped_14 (by decide) (fun c_1 => ?_) (fun c_1 => ?_)
  · refine v_iconst (x := 0) X dX1_canBeSwapped_53 rfl ?_
    exact v_reti X hr hk rfl (by unfold r_X1_canBeSwapped; rw [if_neg c_1]) rfl (Nat.le_of_ble_eq_true rfl) (Nat.le_of_ble_eq_true rfl) dX1_canBeSwapped_54
  · refine v_aload_n X dX1_canBeSwapped_17 rfl ?_
    refine v_iload_n X dX1_canBeSwapped_18 rfl ?_
    refine v_callVi (As := [.int (S 10 p1.toNatClampNeg)]) (rest := []) (w' := (wC h cI S)) X (c_X1_has l D cI cII cL h S (S 10 p1.toNatClampNeg)) (cwV 1 X.2.2.2.1 gX1_canBeSwapped_X1_has rfl rfl rfl (by decide +kernel) ⟨Nat.le_of_ble_eq_true rfl, Nat.le_of_ble_eq_true rfl⟩) 0 1 rfl rfl wC_g4 rfl rfl (Nat.le_of_ble_eq_true rfl) dX1_canBeSwapped_19 ⟨Nat.le_of_ble_eq_true rfl, Nat.le_of_ble_eq_true rfl⟩ ?_
    refine v_if_eq (tgt := 53) X dX1_canBeSwapped_22 (by decide) (fun c_2 => ?_) (fun c_2 => ?_)
    · refine v_iconst (x := 0) X dX1_canBeSwapped_53 rfl ?_
      exact v_reti X hr hk rfl (by unfold r_X1_canBeSwapped; rw [if_pos c_1, if_pos c_2]) rfl (Nat.le_of_ble_eq_true rfl) (Nat.le_of_ble_eq_true rfl) dX1_canBeSwapped_54
    · refine v_aload_n X dX1_canBeSwapped_25 rfl ?_
      refine v_getfield (ref := "Trumpvault$Cards") (ci := 1) (index := 18) (v := .ref (h 7)) X iX1 0 wC_g4 rfl 2 (by decide) (by decide +kernel) (fun _ h9 => h9) rfl dX1_canBeSwapped_26 ?_
      refine v_iload_n X dX1_canBeSwapped_29 rfl ?_
      refine v_iald X 3 0 wC_g7 rfl (has_in hcnt c_2) dX1_canBeSwapped_30 ?_
      refine v_if_ne (tgt := 53) X dX1_canBeSwapped_31 (by decide) (fun c_3 => ?_) (fun c_3 => ?_)
      · refine v_iconst (x := 0) X dX1_canBeSwapped_53 rfl ?_
        exact v_reti X hr hk rfl (by unfold r_X1_canBeSwapped; rw [if_pos c_1, if_neg c_2, if_neg c_3]) rfl (Nat.le_of_ble_eq_true rfl) (Nat.le_of_ble_eq_true rfl) dX1_canBeSwapped_54
      · refine v_aload_n X dX1_canBeSwapped_34 rfl ?_
        refine v_getfield (ref := "Trumpvault$Cards") (ci := 1) (index := 15) (v := .ref (h 6)) X iX1 0 wC_g4 rfl 1 (by decide) (by decide +kernel) (fun _ h9 => h9) rfl dX1_canBeSwapped_35 ?_
        refine v_iload_n X dX1_canBeSwapped_38 rfl ?_
        refine v_iald X 2 0 wC_g6 rfl in1_30 dX1_canBeSwapped_39 ?_
        refine v_aload_n X dX1_canBeSwapped_40 rfl ?_
        refine v_getfield (ref := "Trumpvault$Cards") (ci := 1) (index := 15) (v := .ref (h 6)) X iX1 0 wC_g4 rfl 1 (by decide) (by decide +kernel) (fun _ h9 => h9) rfl dX1_canBeSwapped_41 ?_
        refine v_iload_n X dX1_canBeSwapped_44 rfl ?_
        refine v_iald X 2 0 wC_g6 rfl (has_in hcnt c_2) dX1_canBeSwapped_45 ?_
        refine v_icmp_eq (tgt := 53) X dX1_canBeSwapped_46 (by decide) (fun c_4 => ?_) (fun c_4 => ?_)
        · refine v_iconst (x := 0) X dX1_canBeSwapped_53 rfl ?_
          exact v_reti X hr hk rfl (by unfold r_X1_canBeSwapped; rw [if_pos c_1, if_neg c_2, if_pos c_3, if_pos c_4]) rfl (Nat.le_of_ble_eq_true rfl) (Nat.le_of_ble_eq_true rfl) dX1_canBeSwapped_54
        · refine v_iconst (x := 1) X dX1_canBeSwapped_49 rfl ?_
          refine v_goto (tgt := 54) X dX1_canBeSwapped_50 (by decide) ?_
          exact v_reti X hr hk rfl (by unfold r_X1_canBeSwapped; rw [if_pos c_1, if_neg c_2, if_pos c_3, if_neg c_4]) rfl (Nat.le_of_ble_eq_true rfl) (Nat.le_of_ble_eq_true rfl) dX1_canBeSwapped_54

def st1_X1_takeSalesOf (S : St) (p1 : Int32) (k : Nat) (qS : St) (qb2 : Int32) : St × Int32 :=
  (if (r_X1_isOnSale (qS) (nI k) p1) = 0 then (qS, qb2) else ((s_X1_takeSale (qS) (nI k)), (qb2 + 1)))
def lp1_X1_takeSalesOf (S : St) (p1 : Int32) : Nat → St × Int32
  | 0 => (S, 0)
  | k + 1 => st1_X1_takeSalesOf S p1 k (lp1_X1_takeSalesOf S p1 k).1 (lp1_X1_takeSalesOf S p1 k).2
theorem e_lp1_X1_takeSalesOf (S : St) (p1 : Int32) (k : Nat) : lp1_X1_takeSalesOf S p1 (k + 1) = st1_X1_takeSalesOf S p1 k (lp1_X1_takeSalesOf S p1 k).1 (lp1_X1_takeSalesOf S p1 k).2 := rfl
def r_X1_takeSalesOf (S : St) (p1 : Int32) : Int32 :=
  (lp1_X1_takeSalesOf S p1 (S 4 8).toNatClampNeg).2
def s_X1_takeSalesOf (S : St) (p1 : Int32) : St :=
  (lp1_X1_takeSalesOf S p1 (S 4 8).toNatClampNeg).1
theorem lpc_X1_takeSalesOf (S : St) (p1 : Int32) (k : Nat) : (lp1_X1_takeSalesOf S p1 k).1 4 8 = S 4 8 := by
  induction k with
  | zero => rfl
  | succ k ih =>
    show (st1_X1_takeSalesOf S p1 k _ _).1 4 8 = _
    unfold st1_X1_takeSalesOf
    split
    · exact ih
    · exact ih
set_option maxHeartbeats 1000000 in
set_option maxRecDepth 100000 in
theorem c_X1_takeSalesOf (l : Launch) (D : va_G) (cI cII cL : ClassId) (h : Nat → Nat) (S : St) (p1 : Int32) (hcnt : cntC S) : v_Mi l D vwCl (tyl cI cII cL) yX1_takeSalesOf wsX1_takeSalesOf { frames := 1, cells := 0, slots := 0, locals := 22 } [.ref (h 4), .int p1] (wC h cI S) (r_X1_takeSalesOf S p1) (wC h cI (s_X1_takeSalesOf S p1)) := by
  refine v_ofMi (cc := cX1_takeSalesOf) (maxL := 4) (ret := (some .int)) (own := RX1) (lv0 := [(0, .ref (h 4)), (1, .int p1)]) (by decide) rfl rfl rfl (Nat.le_of_ble_eq_true rfl) ?_
  intro p e s m below meth c X hr hk hin
  have iX1 : ∀ w ∈ wsX10, w ∈ wsX1_takeSalesOf := by decide +kernel
  obtain ⟨N, hN, hN30, hNc⟩ := v_num (M := 30) (by decide) hcnt
  refine v_iconst (x := 0) X dX1_takeSalesOf_0 rfl ?_
  refine v_istore_n (lv' := [(2, .int 0), (0, .ref (h 4)), (1, .int p1)]) X dX1_takeSalesOf_1 (by decide) rfl ?_
  refine v_iconst (x := 0) X dX1_takeSalesOf_2 rfl ?_
  refine v_istore_n (lv' := [(3, .int 0), (2, .int 0), (0, .ref (h 4)), (1, .int p1)]) X dX1_takeSalesOf_3 (by decide) rfl ?_
  have L_1 : ∀ (d_1 k_1 : Nat) (i_1 b2_1 : Int32) (S1 : St), k_1 + d_1 = N → i_1 = nI k_1 → b2_1 = (lp1_X1_takeSalesOf S p1 k_1).2 → S1 = (lp1_X1_takeSalesOf S p1 k_1).1 → v_V p l e { frames := 1, cells := 0, slots := 0, locals := 22 } s m [.ref (h 4), .int p1].toArray below meth c D vwCl (va_A (wC h cI S) s.heap.size) 4 (v_Qi below s D vwCl (tyl cI cII cL) { frames := 1, cells := 0, slots := 0, locals := 22 } [.ref (h 4), .int p1] (wC h cI S) (r_X1_takeSalesOf S p1) (wC h cI (s_X1_takeSalesOf S p1))) 0 0 (wC h cI S1) 4 [(3, .int i_1), (2, .int b2_1), (0, .ref (h 4)), (1, .int p1)] [] := by
    intro d_1
    induction d_1 with
    | zero =>
      intro k_1 i_1 b2_1 S1 hk_1 ei_1 eb2_1 eS1
      subst ei_1 eb2_1 eS1
      obtain rfl : N = k_1 := by omega
      have hb : (lp1_X1_takeSalesOf S p1 N).1 4 8 = nI N := (lpc_X1_takeSalesOf S p1 N).trans hN
      refine v_iload_n X dX1_takeSalesOf_4 rfl ?_
      refine v_aload_n X dX1_takeSalesOf_5 rfl ?_
      refine v_getfield (ref := "Trumpvault$Cards") (ci := 1) (index := 36) (v := .int ((lp1_X1_takeSalesOf S p1 N).1 4 8)) X iX1 0 wC_g4 rfl 8 (by decide) (by decide +kernel) (fun _ h9 => h9) rfl dX1_takeSalesOf_6 ?_
      refine v_icmp_ge (tgt := 36) X dX1_takeSalesOf_9 (by decide) (fun c_1 => ?_) (fun c_1 => ?_)
      · refine v_iload_n X dX1_takeSalesOf_36 rfl ?_
        exact v_reti X hr hk rfl (by unfold r_X1_takeSalesOf; rw [hNc]) (congrArg (fun z => (wC h cI z)) (by unfold s_X1_takeSalesOf; rw [hNc])) (Nat.le_of_ble_eq_true rfl) (Nat.le_of_ble_eq_true rfl) dX1_takeSalesOf_37
      · exact absurd (by rw [hb]; exact nI_le (Nat.le_refl _) (by omega)) c_1
    | succ d_1 ih_1 =>
      intro k_1 i_1 b2_1 S1 hk_1 ei_1 eb2_1 eS1
      subst ei_1 eb2_1 eS1
      have hlt_1 : k_1 < N := by omega
      have hb : (lp1_X1_takeSalesOf S p1 k_1).1 4 8 = nI N := (lpc_X1_takeSalesOf S p1 k_1).trans hN
      refine v_iload_n X dX1_takeSalesOf_4 rfl ?_
      refine v_aload_n X dX1_takeSalesOf_5 rfl ?_
      refine v_getfield (ref := "Trumpvault$Cards") (ci := 1) (index := 36) (v := .int ((lp1_X1_takeSalesOf S p1 k_1).1 4 8)) X iX1 0 wC_g4 rfl 8 (by decide) (by decide +kernel) (fun _ h9 => h9) rfl dX1_takeSalesOf_6 ?_
      refine v_icmp_ge (tgt := 36) X dX1_takeSalesOf_9 (by decide) (fun c_2 => ?_) (fun c_2 => ?_)
      · exact absurd c_2 (by rw [hb]; exact nI_ge hlt_1 (by omega))
      · refine v_aload_n X dX1_takeSalesOf_12 rfl ?_
        refine v_iload_n X dX1_takeSalesOf_13 rfl ?_
        refine v_iload_n X dX1_takeSalesOf_14 rfl ?_
        refine v_callVi (As := [.int (nI k_1), .int p1]) (rest := []) (w' := (wC h cI (lp1_X1_takeSalesOf S p1 k_1).1)) X (c_X1_isOnSale l D cI cII cL h ((lp1_X1_takeSalesOf S p1 k_1).1) (nI k_1) p1 (vp_in_nI (by omega) (by decide))) (cwV 2 X.2.2.2.1 gX1_takeSalesOf_X1_isOnSale rfl rfl rfl (by decide +kernel) ⟨Nat.le_of_ble_eq_true rfl, Nat.le_of_ble_eq_true rfl⟩) 0 1 rfl rfl wC_g4 rfl rfl (Nat.le_of_ble_eq_true rfl) dX1_takeSalesOf_15 ⟨Nat.le_of_ble_eq_true rfl, Nat.le_of_ble_eq_true rfl⟩ ?_
        refine v_if_eq (tgt := 30) X dX1_takeSalesOf_18 (by decide) (fun c_3 => ?_) (fun c_3 => ?_)
        · refine v_iinc (y := ((nI k_1) + 1)) (lv' := [(3, .int ((nI k_1) + 1)), (2, .int ((lp1_X1_takeSalesOf S p1 k_1).2)), (0, .ref (h 4)), (1, .int p1)]) X dX1_takeSalesOf_30 rfl rfl (by decide) rfl ?_
          refine v_goto (tgt := 4) X dX1_takeSalesOf_33 (by decide) ?_
          refine v_lv [0, 1, 2, 3] rfl ?_
          exact ih_1 (k_1 + 1) ((nI k_1) + 1) ((lp1_X1_takeSalesOf S p1 k_1).2) ((lp1_X1_takeSalesOf S p1 k_1).1) (by omega) (nI_1 k_1) (by rw [e_lp1_X1_takeSalesOf]; unfold st1_X1_takeSalesOf; rw [if_pos c_3]) (by rw [e_lp1_X1_takeSalesOf]; unfold st1_X1_takeSalesOf; rw [if_pos c_3])
        · refine v_aload_n X dX1_takeSalesOf_21 rfl ?_
          refine v_iload_n X dX1_takeSalesOf_22 rfl ?_
          refine v_callVi (As := [.int (nI k_1)]) (rest := []) (w' := (wC h cI (s_X1_takeSale ((lp1_X1_takeSalesOf S p1 k_1).1) (nI k_1)))) X (c_X1_takeSale l D cI cII cL h ((lp1_X1_takeSalesOf S p1 k_1).1) (nI k_1) (vp_in_nI (by omega) (by decide))) (cwV 1 X.2.2.2.1 gX1_takeSalesOf_X1_takeSale rfl rfl rfl (by decide +kernel) ⟨Nat.le_of_ble_eq_true rfl, Nat.le_of_ble_eq_true rfl⟩) 0 1 rfl rfl wC_g4 rfl rfl (Nat.le_of_ble_eq_true rfl) dX1_takeSalesOf_23 ⟨Nat.le_of_ble_eq_true rfl, Nat.le_of_ble_eq_true rfl⟩ ?_
          refine v_pop X dX1_takeSalesOf_26 rfl ?_
          refine v_iinc (y := ((lp1_X1_takeSalesOf S p1 k_1).2 + 1)) (lv' := [(2, .int ((lp1_X1_takeSalesOf S p1 k_1).2 + 1)), (3, .int (nI k_1)), (0, .ref (h 4)), (1, .int p1)]) X dX1_takeSalesOf_27 rfl rfl (by decide) rfl ?_
          refine v_iinc (y := ((nI k_1) + 1)) (lv' := [(3, .int ((nI k_1) + 1)), (2, .int ((lp1_X1_takeSalesOf S p1 k_1).2 + 1)), (0, .ref (h 4)), (1, .int p1)]) X dX1_takeSalesOf_30 rfl rfl (by decide) rfl ?_
          refine v_goto (tgt := 4) X dX1_takeSalesOf_33 (by decide) ?_
          refine v_lv [0, 1, 2, 3] rfl ?_
          exact ih_1 (k_1 + 1) ((nI k_1) + 1) ((lp1_X1_takeSalesOf S p1 k_1).2 + 1) (s_X1_takeSale ((lp1_X1_takeSalesOf S p1 k_1).1) (nI k_1)) (by omega) (nI_1 k_1) (by rw [e_lp1_X1_takeSalesOf]; unfold st1_X1_takeSalesOf; rw [if_neg c_3]) (by rw [e_lp1_X1_takeSalesOf]; unfold st1_X1_takeSalesOf; rw [if_neg c_3])
  exact L_1 N 0 0 0 S (Nat.zero_add _) (by exact nI_0.symm) rfl rfl

def st1_X1_bestSale (S : St) (p1 p2 : Int32) (k : Nat) (qb3 : Int32) : Int32 :=
  (if (r_X1_isOnSale S (nI k) p1) = 0 then qb3 else (if (S 6 (nI k).toNatClampNeg) = p2 then qb3 else (if qb3 = (-1) then (nI k) else (if (r_X1_saleIsBefore S (nI k) qb3) = 0 then qb3 else (nI k)))))
def lp1_X1_bestSale (S : St) (p1 p2 : Int32) : Nat → Int32
  | 0 => (-1)
  | k + 1 => st1_X1_bestSale S p1 p2 k (lp1_X1_bestSale S p1 p2 k)
theorem e_lp1_X1_bestSale (S : St) (p1 p2 : Int32) (k : Nat) : lp1_X1_bestSale S p1 p2 (k + 1) = st1_X1_bestSale S p1 p2 k (lp1_X1_bestSale S p1 p2 k) := rfl
def r_X1_bestSale (S : St) (p1 p2 : Int32) : Int32 :=
  (lp1_X1_bestSale S p1 p2 (S 4 8).toNatClampNeg)
theorem rng_X1_bestSale (S : St) (p1 p2 : Int32) (k : Nat) (hk : k ≤ 30) : lp1_X1_bestSale S p1 p2 k = -1 ∨ vp_in (lp1_X1_bestSale S p1 p2 k) 30 := by
  induction k with
  | zero => exact Or.inl rfl
  | succ k ih =>
    have ih := ih (by omega)
    have hk2 : vp_in (nI k) 30 := vp_in_nI (by omega) (by decide)
    show st1_X1_bestSale S p1 p2 k _ = -1 ∨ vp_in (st1_X1_bestSale S p1 p2 k _) 30
    unfold st1_X1_bestSale
    repeat' split
    all_goals first | exact ih | exact Or.inr hk2
set_option maxHeartbeats 1000000 in
set_option maxRecDepth 100000 in
theorem c_X1_bestSale (l : Launch) (D : va_G) (cI cII cL : ClassId) (h : Nat → Nat) (S : St) (p1 p2 : Int32) (hcnt : cntC S) : v_Mi l D vwCl (tyl cI cII cL) yX1_bestSale wsX1_bestSale { frames := 1, cells := 0, slots := 0, locals := 22 } [.ref (h 4), .int p1, .int p2] (wC h cI S) (r_X1_bestSale S p1 p2) (wC h cI S) := by
  refine v_ofMi (cc := cX1_bestSale) (maxL := 5) (ret := (some .int)) (own := RX1) (lv0 := [(0, .ref (h 4)), (1, .int p1), (2, .int p2)]) (by decide) rfl rfl rfl (Nat.le_of_ble_eq_true rfl) ?_
  intro p e s m below meth c X hr hk hin
  have iX1 : ∀ w ∈ wsX10, w ∈ wsX1_bestSale := by decide +kernel
  obtain ⟨N, hN, hN30, hNc⟩ := v_num (M := 30) (by decide) hcnt
  refine v_iconst (x := (-1)) X dX1_bestSale_0 rfl ?_
  refine v_istore_n (lv' := [(3, .int (-1)), (0, .ref (h 4)), (1, .int p1), (2, .int p2)]) X dX1_bestSale_1 (by decide) rfl ?_
  refine v_iconst (x := 0) X dX1_bestSale_2 rfl ?_
  refine v_istore (lv' := [(4, .int 0), (3, .int (-1)), (0, .ref (h 4)), (1, .int p1), (2, .int p2)]) X dX1_bestSale_3 (by decide) rfl ?_
  have L_1 : ∀ (d_1 k_1 : Nat) (i_1 b3_1 : Int32), k_1 + d_1 = N → i_1 = nI k_1 → b3_1 = (lp1_X1_bestSale S p1 p2 k_1) → v_V p l e { frames := 1, cells := 0, slots := 0, locals := 22 } s m [.ref (h 4), .int p1, .int p2].toArray below meth c D vwCl (va_A (wC h cI S) s.heap.size) 5 (v_Qi below s D vwCl (tyl cI cII cL) { frames := 1, cells := 0, slots := 0, locals := 22 } [.ref (h 4), .int p1, .int p2] (wC h cI S) (r_X1_bestSale S p1 p2) (wC h cI S)) 0 0 (wC h cI S) 5 [(4, .int i_1), (3, .int b3_1), (0, .ref (h 4)), (1, .int p1), (2, .int p2)] [] := by
    intro d_1
    induction d_1 with
    | zero =>
      intro k_1 i_1 b3_1 hk_1 ei_1 eb3_1
      subst ei_1 eb3_1
      obtain rfl : N = k_1 := by omega
      refine v_iload X dX1_bestSale_5 rfl ?_
      refine v_aload_n X dX1_bestSale_7 rfl ?_
      refine v_getfield (ref := "Trumpvault$Cards") (ci := 1) (index := 36) (v := .int (S 4 8)) X iX1 0 wC_g4 rfl 8 (by decide) (by decide +kernel) (fun _ h9 => h9) rfl dX1_bestSale_8 ?_
      refine v_icmp_ge (tgt := 59) X dX1_bestSale_11 (by decide) (fun c_1 => ?_) (fun c_1 => ?_)
      · refine v_iload_n X dX1_bestSale_59 rfl ?_
        exact v_reti X hr hk rfl (by unfold r_X1_bestSale; rw [hNc]) rfl (Nat.le_of_ble_eq_true rfl) (Nat.le_of_ble_eq_true rfl) dX1_bestSale_60
      · exact absurd (by rw [hN]; exact nI_le (Nat.le_refl _) (by omega)) c_1
    | succ d_1 ih_1 =>
      intro k_1 i_1 b3_1 hk_1 ei_1 eb3_1
      subst ei_1 eb3_1
      have hlt_1 : k_1 < N := by omega
      refine v_iload X dX1_bestSale_5 rfl ?_
      refine v_aload_n X dX1_bestSale_7 rfl ?_
      refine v_getfield (ref := "Trumpvault$Cards") (ci := 1) (index := 36) (v := .int (S 4 8)) X iX1 0 wC_g4 rfl 8 (by decide) (by decide +kernel) (fun _ h9 => h9) rfl dX1_bestSale_8 ?_
      refine v_icmp_ge (tgt := 59) X dX1_bestSale_11 (by decide) (fun c_2 => ?_) (fun c_2 => ?_)
      · exact absurd c_2 (by rw [hN]; exact nI_ge hlt_1 (by omega))
      · refine v_aload_n X dX1_bestSale_14 rfl ?_
        refine v_iload X dX1_bestSale_15 rfl ?_
        refine v_iload_n X dX1_bestSale_17 rfl ?_
        refine v_callVi (As := [.int (nI k_1), .int p1]) (rest := []) (w' := (wC h cI S)) X (c_X1_isOnSale l D cI cII cL h S (nI k_1) p1 (vp_in_nI (by omega) (by decide))) (cwV 2 X.2.2.2.1 gX1_bestSale_X1_isOnSale rfl rfl rfl (by decide +kernel) ⟨Nat.le_of_ble_eq_true rfl, Nat.le_of_ble_eq_true rfl⟩) 0 1 rfl rfl wC_g4 rfl rfl (Nat.le_of_ble_eq_true rfl) dX1_bestSale_18 ⟨Nat.le_of_ble_eq_true rfl, Nat.le_of_ble_eq_true rfl⟩ ?_
        refine v_if_eq (tgt := 53) X dX1_bestSale_21 (by decide) (fun c_3 => ?_) (fun c_3 => ?_)
        · refine v_iinc (y := ((nI k_1) + 1)) (lv' := [(4, .int ((nI k_1) + 1)), (3, .int (lp1_X1_bestSale S p1 p2 k_1)), (0, .ref (h 4)), (1, .int p1), (2, .int p2)]) X dX1_bestSale_53 rfl rfl (by decide) rfl ?_
          refine v_goto (tgt := 5) X dX1_bestSale_56 (by decide) ?_
          refine v_lv [0, 1, 2, 3, 4] rfl ?_
          exact ih_1 (k_1 + 1) ((nI k_1) + 1) (lp1_X1_bestSale S p1 p2 k_1) (by omega) (nI_1 k_1) (by rw [e_lp1_X1_bestSale]; unfold st1_X1_bestSale; rw [if_pos c_3])
        · refine v_aload_n X dX1_bestSale_24 rfl ?_
          refine v_getfield (ref := "Trumpvault$Cards") (ci := 1) (index := 15) (v := .ref (h 6)) X iX1 0 wC_g4 rfl 1 (by decide) (by decide +kernel) (fun _ h9 => h9) rfl dX1_bestSale_25 ?_
          refine v_iload X dX1_bestSale_28 rfl ?_
          refine v_iald X 2 0 wC_g6 rfl (vp_in_nI (by omega) (by decide)) dX1_bestSale_30 ?_
          refine v_iload_n X dX1_bestSale_31 rfl ?_
          refine v_icmp_eq (tgt := 53) X dX1_bestSale_32 (by decide) (fun c_4 => ?_) (fun c_4 => ?_)
          · refine v_iinc (y := ((nI k_1) + 1)) (lv' := [(4, .int ((nI k_1) + 1)), (3, .int (lp1_X1_bestSale S p1 p2 k_1)), (0, .ref (h 4)), (1, .int p1), (2, .int p2)]) X dX1_bestSale_53 rfl rfl (by decide) rfl ?_
            refine v_goto (tgt := 5) X dX1_bestSale_56 (by decide) ?_
            refine v_lv [0, 1, 2, 3, 4] rfl ?_
            exact ih_1 (k_1 + 1) ((nI k_1) + 1) (lp1_X1_bestSale S p1 p2 k_1) (by omega) (nI_1 k_1) (by rw [e_lp1_X1_bestSale]; unfold st1_X1_bestSale; rw [if_neg c_3, if_pos c_4])
          · refine v_iload_n X dX1_bestSale_35 rfl ?_
            refine v_iconst (x := (-1)) X dX1_bestSale_36 rfl ?_
            refine v_icmp_eq (tgt := 50) X dX1_bestSale_37 (by decide) (fun c_5 => ?_) (fun c_5 => ?_)
            · refine v_iload X dX1_bestSale_50 rfl ?_
              refine v_istore_n (lv' := [(3, .int (nI k_1)), (4, .int (nI k_1)), (0, .ref (h 4)), (1, .int p1), (2, .int p2)]) X dX1_bestSale_52 (by decide) rfl ?_
              refine v_iinc (y := ((nI k_1) + 1)) (lv' := [(4, .int ((nI k_1) + 1)), (3, .int (nI k_1)), (0, .ref (h 4)), (1, .int p1), (2, .int p2)]) X dX1_bestSale_53 rfl rfl (by decide) rfl ?_
              refine v_goto (tgt := 5) X dX1_bestSale_56 (by decide) ?_
              refine v_lv [0, 1, 2, 3, 4] rfl ?_
              exact ih_1 (k_1 + 1) ((nI k_1) + 1) (nI k_1) (by omega) (nI_1 k_1) (by rw [e_lp1_X1_bestSale]; unfold st1_X1_bestSale; rw [if_neg c_3, if_neg c_4, if_pos c_5])
            · refine v_aload_n X dX1_bestSale_40 rfl ?_
              refine v_iload X dX1_bestSale_41 rfl ?_
              refine v_iload_n X dX1_bestSale_43 rfl ?_
              refine v_callVi (As := [.int (nI k_1), .int (lp1_X1_bestSale S p1 p2 k_1)]) (rest := []) (w' := (wC h cI S)) X (c_X1_saleIsBefore l D cI cII cL h S (nI k_1) (lp1_X1_bestSale S p1 p2 k_1) (vp_in_nI (by omega) (by decide)) ((rng_X1_bestSale S p1 p2 k_1 (by omega)).resolve_left c_5)) (cwV 2 X.2.2.2.1 gX1_bestSale_X1_saleIsBefore rfl rfl rfl (by decide +kernel) ⟨Nat.le_of_ble_eq_true rfl, Nat.le_of_ble_eq_true rfl⟩) 0 1 rfl rfl wC_g4 rfl rfl (Nat.le_of_ble_eq_true rfl) dX1_bestSale_44 ⟨Nat.le_of_ble_eq_true rfl, Nat.le_of_ble_eq_true rfl⟩ ?_
              refine v_if_eq (tgt := 53) X dX1_bestSale_47 (by decide) (fun c_6 => ?_) (fun c_6 => ?_)
              · refine v_iinc (y := ((nI k_1) + 1)) (lv' := [(4, .int ((nI k_1) + 1)), (3, .int (lp1_X1_bestSale S p1 p2 k_1)), (0, .ref (h 4)), (1, .int p1), (2, .int p2)]) X dX1_bestSale_53 rfl rfl (by decide) rfl ?_
                refine v_goto (tgt := 5) X dX1_bestSale_56 (by decide) ?_
                refine v_lv [0, 1, 2, 3, 4] rfl ?_
                exact ih_1 (k_1 + 1) ((nI k_1) + 1) (lp1_X1_bestSale S p1 p2 k_1) (by omega) (nI_1 k_1) (by rw [e_lp1_X1_bestSale]; unfold st1_X1_bestSale; rw [if_neg c_3, if_neg c_4, if_neg c_5, if_pos c_6])
              · refine v_iload X dX1_bestSale_50 rfl ?_
                refine v_istore_n (lv' := [(3, .int (nI k_1)), (4, .int (nI k_1)), (0, .ref (h 4)), (1, .int p1), (2, .int p2)]) X dX1_bestSale_52 (by decide) rfl ?_
                refine v_iinc (y := ((nI k_1) + 1)) (lv' := [(4, .int ((nI k_1) + 1)), (3, .int (nI k_1)), (0, .ref (h 4)), (1, .int p1), (2, .int p2)]) X dX1_bestSale_53 rfl rfl (by decide) rfl ?_
                refine v_goto (tgt := 5) X dX1_bestSale_56 (by decide) ?_
                refine v_lv [0, 1, 2, 3, 4] rfl ?_
                exact ih_1 (k_1 + 1) ((nI k_1) + 1) (nI k_1) (by omega) (nI_1 k_1) (by rw [e_lp1_X1_bestSale]; unfold st1_X1_bestSale; rw [if_neg c_3, if_neg c_4, if_neg c_5, if_neg c_6])
  exact L_1 N 0 0 (-1) (Nat.zero_add _) (by exact nI_0.symm) rfl

def st1_X1_endLoans (S : St) (p1 : Int32) (k : Nat) (qS : St) : St :=
  (if (qS 7 (nI k).toNatClampNeg) = 3 then (if p1 < (qS 12 (nI k).toNatClampNeg) then qS else (sU qS 7 (nI k).toNatClampNeg 0)) else qS)
def lp1_X1_endLoans (S : St) (p1 : Int32) : Nat → St
  | 0 => S
  | k + 1 => st1_X1_endLoans S p1 k (lp1_X1_endLoans S p1 k)
theorem e_lp1_X1_endLoans (S : St) (p1 : Int32) (k : Nat) : lp1_X1_endLoans S p1 (k + 1) = st1_X1_endLoans S p1 k (lp1_X1_endLoans S p1 k) := rfl
def s_X1_endLoans (S : St) (p1 : Int32) : St :=
  (lp1_X1_endLoans S p1 (S 4 8).toNatClampNeg)
theorem lpc_X1_endLoans (S : St) (p1 : Int32) (k : Nat) : lp1_X1_endLoans S p1 k 4 8 = S 4 8 := by
  induction k with
  | zero => rfl
  | succ k ih =>
    show st1_X1_endLoans S p1 k _ 4 8 = _
    unfold st1_X1_endLoans
    repeat' split
    all_goals exact ih
set_option maxHeartbeats 1000000 in
set_option maxRecDepth 100000 in
theorem c_X1_endLoans (l : Launch) (D : va_G) (cI cII cL : ClassId) (h : Nat → Nat) (S : St) (p1 : Int32) (hcnt : cntC S) : v_Mv l D vwCl (tyl cI cII cL) yX1_endLoans wsX1_endLoans { frames := 0, cells := 0, slots := 0, locals := 0 } [.ref (h 4), .int p1] (wC h cI S) (wC h cI (s_X1_endLoans S p1)) := by
  refine v_ofMv (cc := cX1_endLoans) (maxL := 3) (ret := none) (own := RX1) (lv0 := [(0, .ref (h 4)), (1, .int p1)]) (by decide) rfl rfl rfl (Nat.le_of_ble_eq_true rfl) ?_
  intro p e s m below meth c X hr hk hin
  have iX1 : ∀ w ∈ wsX10, w ∈ wsX1_endLoans := by decide +kernel
  obtain ⟨N, hN, hN30, hNc⟩ := v_num (M := 30) (by decide) hcnt
  refine v_iconst (x := 0) X dX1_endLoans_0 rfl ?_
  refine v_istore_n (lv' := [(2, .int 0), (0, .ref (h 4)), (1, .int p1)]) X dX1_endLoans_1 (by decide) rfl ?_
  have L_1 : ∀ (d_1 k_1 : Nat) (i_1 : Int32) (S1 : St), k_1 + d_1 = N → i_1 = nI k_1 → S1 = (lp1_X1_endLoans S p1 k_1) → v_V p l e { frames := 0, cells := 0, slots := 0, locals := 0 } s m [.ref (h 4), .int p1].toArray below meth c D vwCl (va_A (wC h cI S) s.heap.size) 3 (v_Qv below s D vwCl (tyl cI cII cL) { frames := 0, cells := 0, slots := 0, locals := 0 } [.ref (h 4), .int p1] (wC h cI S) (wC h cI (s_X1_endLoans S p1))) 0 0 (wC h cI S1) 2 [(2, .int i_1), (0, .ref (h 4)), (1, .int p1)] [] := by
    intro d_1
    induction d_1 with
    | zero =>
      intro k_1 i_1 S1 hk_1 ei_1 eS1
      subst ei_1 eS1
      obtain rfl : N = k_1 := by omega
      have hb : (lp1_X1_endLoans S p1 N) 4 8 = nI N := (lpc_X1_endLoans S p1 N).trans hN
      refine v_iload_n X dX1_endLoans_2 rfl ?_
      refine v_aload_n X dX1_endLoans_3 rfl ?_
      refine v_getfield (ref := "Trumpvault$Cards") (ci := 1) (index := 36) (v := .int ((lp1_X1_endLoans S p1 N) 4 8)) X iX1 0 wC_g4 rfl 8 (by decide) (by decide +kernel) (fun _ h9 => h9) rfl dX1_endLoans_4 ?_
      refine v_icmp_ge (tgt := 43) X dX1_endLoans_7 (by decide) (fun c_1 => ?_) (fun c_1 => ?_)
      · exact v_retv X hr hk (congrArg (fun z => (wC h cI z)) (by unfold s_X1_endLoans; rw [hNc])) (Nat.le_of_ble_eq_true rfl) (Nat.le_of_ble_eq_true rfl) dX1_endLoans_43
      · exact absurd (by rw [hb]; exact nI_le (Nat.le_refl _) (by omega)) c_1
    | succ d_1 ih_1 =>
      intro k_1 i_1 S1 hk_1 ei_1 eS1
      subst ei_1 eS1
      have hlt_1 : k_1 < N := by omega
      have hb : (lp1_X1_endLoans S p1 k_1) 4 8 = nI N := (lpc_X1_endLoans S p1 k_1).trans hN
      refine v_iload_n X dX1_endLoans_2 rfl ?_
      refine v_aload_n X dX1_endLoans_3 rfl ?_
      refine v_getfield (ref := "Trumpvault$Cards") (ci := 1) (index := 36) (v := .int ((lp1_X1_endLoans S p1 k_1) 4 8)) X iX1 0 wC_g4 rfl 8 (by decide) (by decide +kernel) (fun _ h9 => h9) rfl dX1_endLoans_4 ?_
      refine v_icmp_ge (tgt := 43) X dX1_endLoans_7 (by decide) (fun c_2 => ?_) (fun c_2 => ?_)
      · exact absurd c_2 (by rw [hb]; exact nI_ge hlt_1 (by omega))
      · refine v_aload_n X dX1_endLoans_10 rfl ?_
        refine v_getfield (ref := "Trumpvault$Cards") (ci := 1) (index := 18) (v := .ref (h 7)) X iX1 0 wC_g4 rfl 2 (by decide) (by decide +kernel) (fun _ h9 => h9) rfl dX1_endLoans_11 ?_
        refine v_iload_n X dX1_endLoans_14 rfl ?_
        refine v_iald X 3 0 wC_g7 rfl (vp_in_nI (by omega) (by decide)) dX1_endLoans_15 ?_
        refine v_iconst (x := 3) X dX1_endLoans_16 rfl ?_
        refine v_icmp_ne (tgt := 37) X dX1_endLoans_17 (by decide) (fun c_3 => ?_) (fun c_3 => ?_)
        · refine v_iinc (y := ((nI k_1) + 1)) (lv' := [(2, .int ((nI k_1) + 1)), (0, .ref (h 4)), (1, .int p1)]) X dX1_endLoans_37 rfl rfl (by decide) rfl ?_
          refine v_goto (tgt := 2) X dX1_endLoans_40 (by decide) ?_
          refine v_lv [0, 1, 2] rfl ?_
          exact ih_1 (k_1 + 1) ((nI k_1) + 1) (lp1_X1_endLoans S p1 k_1) (by omega) (nI_1 k_1) (by rw [e_lp1_X1_endLoans]; unfold st1_X1_endLoans; rw [if_neg c_3])
        · refine v_aload_n X dX1_endLoans_20 rfl ?_
          refine v_getfield (ref := "Trumpvault$Cards") (ci := 1) (index := 33) (v := .ref (h 12)) X iX1 0 wC_g4 rfl 7 (by decide) (by decide +kernel) (fun _ h9 => h9) rfl dX1_endLoans_21 ?_
          refine v_iload_n X dX1_endLoans_24 rfl ?_
          refine v_iald X 8 0 wC_g12 rfl (vp_in_nI (by omega) (by decide)) dX1_endLoans_25 ?_
          refine v_iload_n X dX1_endLoans_26 rfl ?_
          refine v_icmp_gt (tgt := 37) X dX1_endLoans_27 (by decide) (fun c_4 => ?_) (fun c_4 => ?_)
          · refine v_iinc (y := ((nI k_1) + 1)) (lv' := [(2, .int ((nI k_1) + 1)), (0, .ref (h 4)), (1, .int p1)]) X dX1_endLoans_37 rfl rfl (by decide) rfl ?_
            refine v_goto (tgt := 2) X dX1_endLoans_40 (by decide) ?_
            refine v_lv [0, 1, 2] rfl ?_
            exact ih_1 (k_1 + 1) ((nI k_1) + 1) (lp1_X1_endLoans S p1 k_1) (by omega) (nI_1 k_1) (by rw [e_lp1_X1_endLoans]; unfold st1_X1_endLoans; rw [if_pos c_3, if_pos c_4])
          · refine v_aload_n X dX1_endLoans_30 rfl ?_
            refine v_getfield (ref := "Trumpvault$Cards") (ci := 1) (index := 18) (v := .ref (h 7)) X iX1 0 wC_g4 rfl 2 (by decide) (by decide +kernel) (fun _ h9 => h9) rfl dX1_endLoans_31 ?_
            refine v_iload_n X dX1_endLoans_34 rfl ?_
            refine v_iconst (x := 0) X dX1_endLoans_35 rfl ?_
            refine v_iast (w' := (wC h cI (sU (lp1_X1_endLoans S p1 k_1) 7 (nI k_1).toNatClampNeg 0))) X 3 0 wC_g7 rfl (vp_in_nI (by omega) (by decide)) dX1_endLoans_36 wC_s7 ?_
            refine v_iinc (y := ((nI k_1) + 1)) (lv' := [(2, .int ((nI k_1) + 1)), (0, .ref (h 4)), (1, .int p1)]) X dX1_endLoans_37 rfl rfl (by decide) rfl ?_
            refine v_goto (tgt := 2) X dX1_endLoans_40 (by decide) ?_
            refine v_lv [0, 1, 2] rfl ?_
            exact ih_1 (k_1 + 1) ((nI k_1) + 1) (sU (lp1_X1_endLoans S p1 k_1) 7 (nI k_1).toNatClampNeg 0) (by omega) (nI_1 k_1) (by rw [e_lp1_X1_endLoans]; unfold st1_X1_endLoans; rw [if_pos c_3, if_neg c_4])
  exact L_1 N 0 0 S (Nat.zero_add _) (by exact nI_0.symm) rfl
