def s_X3_swap (S : St) (p1 p2 : Int32) : St :=
  (if (x_X3_needCard S p1) = none then (if (x_X3_needCard S p2) = none then (if (S 6 p1.toNatClampNeg) = (S 6 p2.toNatClampNeg) then S else (if (S 7 p1.toNatClampNeg) = 0 then (sU (sU S 7 p1.toNatClampNeg 2) 10 p1.toNatClampNeg p2) else S)) else S) else S)
def x_X3_swap (S : St) (p1 p2 : Int32) : Option String :=
  (if (x_X3_needCard S p1) = none then (if (x_X3_needCard S p2) = none then (if (S 6 p1.toNatClampNeg) = (S 6 p2.toNatClampNeg) then some v_E2 else (if (S 7 p1.toNatClampNeg) = 0 then none else some v_E3)) else (x_X3_needCard S p2)) else (x_X3_needCard S p1))
set_option maxHeartbeats 1000000 in
set_option maxRecDepth 100000 in
theorem c_X3_swap (l : Launch) (D : va_G) (cI cII cL : ClassId) (hlt : l.stackTraces = false) (h : Nat → Nat) (S : St) (p1 p2 : Int32) (hcnt : cntC S) : v_Xv l D vwCl (tyl cI cII cL) yX3_swap wsX3_swap { frames := 7, cells := 3, slots := 18, locals := 103 } [.ref (h 0), .int p1, .int p2] (wT h cI cII S) (x_X3_swap S p1 p2) (wT h cI cII (s_X3_swap S p1 p2)) := by
  refine v_ofXv (cc := cX3_swap) (maxL := 3) (ret := none) (own := RX3) (lv0 := [(0, .ref (h 0)), (1, .int p1), (2, .int p2)]) hlt (by decide) rfl rfl rfl (Nat.le_of_ble_eq_true rfl) ?_
  intro p e s m below meth c X TT hr
  have iX1 : ∀ w ∈ wsX10, w ∈ wsX3_swap := by decide +kernel
  have iX3 : ∀ w ∈ wsX30, w ∈ wsX3_swap := by decide +kernel
  have tv_E2 : ∀ w ∈ (vx_atS RX3 154 v_E2 v_nm).filter goodWord, w ∈ wsX3_swap := by decide +kernel
  have tv_E3 : ∀ w ∈ (vx_atS RX3 68 v_E3 v_nm).filter goodWord, w ∈ wsX3_swap := by decide +kernel
  refine v_aload_n X dX3_swap_0 rfl ?_
  refine v_iload_n X dX3_swap_1 rfl ?_
  refine v_xcallVv (As := [.int p1]) (rest := []) (w' := (wT h cI cII S)) X TT.2.1 (c_X3_needCard l D cI cII cL hlt h S p1) (cwV 1 X.2.2.2.1 gX3_swap_X3_needCard rfl rfl rfl (by decide +kernel) ⟨Nat.le_of_ble_eq_true rfl, Nat.le_of_ble_eq_true rfl⟩) 0 3 rfl rfl wT_g0 rfl rfl (Nat.le_of_ble_eq_true rfl) dX3_swap_2 ⟨Nat.le_of_ble_eq_true rfl, Nat.le_of_ble_eq_true rfl⟩ (fun E q9 hx => v_outG X TT ((by have c_1 : ¬ (x_X3_needCard S p1) = none := (by rw [hx]; exact nofun); unfold x_X3_swap; rw [if_neg c_1] : (x_X3_swap S p1 p2) = (x_X3_needCard S p1)).trans hx) rfl (Nat.le_of_ble_eq_true rfl) (Nat.le_of_ble_eq_true rfl)) (fun c_1 => ?_)
  refine v_aload_n X dX3_swap_5 rfl ?_
  refine v_iload_n X dX3_swap_6 rfl ?_
  refine v_xcallVv (As := [.int p2]) (rest := []) (w' := (wT h cI cII S)) X TT.2.1 (c_X3_needCard l D cI cII cL hlt h S p2) (cwV 1 X.2.2.2.1 gX3_swap_X3_needCard rfl rfl rfl (by decide +kernel) ⟨Nat.le_of_ble_eq_true rfl, Nat.le_of_ble_eq_true rfl⟩) 0 3 rfl rfl wT_g0 rfl rfl (Nat.le_of_ble_eq_true rfl) dX3_swap_7 ⟨Nat.le_of_ble_eq_true rfl, Nat.le_of_ble_eq_true rfl⟩ (fun E q9 hx => v_outG X TT ((by have c_2 : ¬ (x_X3_needCard S p2) = none := (by rw [hx]; exact nofun); unfold x_X3_swap; rw [if_pos c_1, if_neg c_2] : (x_X3_swap S p1 p2) = (x_X3_needCard S p2)).trans hx) rfl (Nat.le_of_ble_eq_true rfl) (Nat.le_of_ble_eq_true rfl)) (fun c_2 => ?_)
  refine v_aload_n X dX3_swap_10 rfl ?_
  refine v_getfield (ref := "Trumpvault") (ci := 3) (index := 10) (v := .ref (h 4)) X iX3 0 wT_g0 rfl 0 (by decide) (by decide +kernel) (fun _ h9 => h9) rfl dX3_swap_11 ?_
  refine v_getfield (ref := "Trumpvault$Cards") (ci := 1) (index := 82) (v := .ref (h 6)) X iX1 4 wT_g4 rfl 1 (by decide) (by decide +kernel) (fun _ h9 => h9) rfl dX3_swap_14 ?_
  refine v_iload_n X dX3_swap_17 rfl ?_
  refine v_iald X 6 0 wT_g6 rfl (needCard_in hcnt c_1) dX3_swap_18 ?_
  refine v_aload_n X dX3_swap_19 rfl ?_
  refine v_getfield (ref := "Trumpvault") (ci := 3) (index := 10) (v := .ref (h 4)) X iX3 0 wT_g0 rfl 0 (by decide) (by decide +kernel) (fun _ h9 => h9) rfl dX3_swap_20 ?_
  refine v_getfield (ref := "Trumpvault$Cards") (ci := 1) (index := 82) (v := .ref (h 6)) X iX1 4 wT_g4 rfl 1 (by decide) (by decide +kernel) (fun _ h9 => h9) rfl dX3_swap_23 ?_
  refine v_iload_n X dX3_swap_26 rfl ?_
  refine v_iald X 6 0 wT_g6 rfl (needCard_in hcnt c_2) dX3_swap_27 ?_
  refine v_icmp_ne (tgt := 41) X dX3_swap_28 (by decide) (fun c_3 => ?_) (fun c_3 => ?_)
  · refine v_aload_n X dX3_swap_41 rfl ?_
    refine v_getfield (ref := "Trumpvault") (ci := 3) (index := 10) (v := .ref (h 4)) X iX3 0 wT_g0 rfl 0 (by decide) (by decide +kernel) (fun _ h9 => h9) rfl dX3_swap_42 ?_
    refine v_getfield (ref := "Trumpvault$Cards") (ci := 1) (index := 92) (v := .ref (h 7)) X iX1 4 wT_g4 rfl 2 (by decide) (by decide +kernel) (fun _ h9 => h9) rfl dX3_swap_45 ?_
    refine v_iload_n X dX3_swap_48 rfl ?_
    refine v_iald X 7 0 wT_g7 rfl (needCard_in hcnt c_1) dX3_swap_49 ?_
    refine v_if_eq (tgt := 63) X dX3_swap_50 (by decide) (fun c_4 => ?_) (fun c_4 => ?_)
    · refine v_aload_n X dX3_swap_63 rfl ?_
      refine v_getfield (ref := "Trumpvault") (ci := 3) (index := 10) (v := .ref (h 4)) X iX3 0 wT_g0 rfl 0 (by decide) (by decide +kernel) (fun _ h9 => h9) rfl dX3_swap_64 ?_
      refine v_getfield (ref := "Trumpvault$Cards") (ci := 1) (index := 92) (v := .ref (h 7)) X iX1 4 wT_g4 rfl 2 (by decide) (by decide +kernel) (fun _ h9 => h9) rfl dX3_swap_67 ?_
      refine v_iload_n X dX3_swap_70 rfl ?_
      refine v_iconst (x := 2) X dX3_swap_71 rfl ?_
      refine v_iast (w' := (wT h cI cII (sU S 7 p1.toNatClampNeg 2))) X 7 0 wT_g7 rfl (needCard_in hcnt c_1) dX3_swap_72 wT_s7 ?_
      refine v_aload_n X dX3_swap_73 rfl ?_
      refine v_getfield (ref := "Trumpvault") (ci := 3) (index := 10) (v := .ref (h 4)) X iX3 0 wT_g0 rfl 0 (by decide) (by decide +kernel) (fun _ h9 => h9) rfl dX3_swap_74 ?_
      refine v_getfield (ref := "Trumpvault$Cards") (ci := 1) (index := 157) (v := .ref (h 10)) X iX1 4 wT_g4 rfl 5 (by decide) (by decide +kernel) (fun _ h9 => h9) rfl dX3_swap_77 ?_
      refine v_iload_n X dX3_swap_80 rfl ?_
      refine v_iload_n X dX3_swap_81 rfl ?_
      refine v_iast (w' := (wT h cI cII (sU (sU S 7 p1.toNatClampNeg 2) 10 p1.toNatClampNeg p2))) X 10 0 wT_g10 rfl (needCard_in hcnt c_1) dX3_swap_82 wT_s10 ?_
      exact v_xretv X TT hr (by unfold x_X3_swap; rw [if_pos c_1, if_pos c_2, if_neg c_3, if_pos c_4]) (congrArg (fun z => (wT h cI cII z)) (by unfold s_X3_swap; rw [if_pos c_1, if_pos c_2, if_neg c_3, if_pos c_4])) (Nat.le_of_ble_eq_true rfl) (Nat.le_of_ble_eq_true rfl) dX3_swap_83
    · exact v_throwG (is := 155) (text := "the card is not free") X TT v_EL3 (by decide +kernel) (by decide +kernel) tv_E3 (by decide +kernel) dX3_swap_53 dX3_swap_56 dX3_swap_57 dX3_swap_59 dX3_swap_62 (by unfold x_X3_swap; rw [if_pos c_1, if_pos c_2, if_neg c_3, if_neg c_4]) rfl ⟨Nat.le_of_ble_eq_true rfl, Nat.le_of_ble_eq_true rfl, Nat.le_of_ble_eq_true rfl, Nat.le_of_ble_eq_true rfl⟩ (Nat.le_of_ble_eq_true rfl) (Nat.le_of_ble_eq_true rfl)
  · exact v_throwG (is := 152) (text := "both cards have the same owner") X TT v_EL2 (by decide +kernel) (by decide +kernel) tv_E2 (by decide +kernel) dX3_swap_31 dX3_swap_34 dX3_swap_35 dX3_swap_37 dX3_swap_40 (by unfold x_X3_swap; rw [if_pos c_1, if_pos c_2, if_pos c_3]) rfl ⟨Nat.le_of_ble_eq_true rfl, Nat.le_of_ble_eq_true rfl, Nat.le_of_ble_eq_true rfl, Nat.le_of_ble_eq_true rfl⟩ (Nat.le_of_ble_eq_true rfl) (Nat.le_of_ble_eq_true rfl)

def r_X3_agree (S : St) (p1 : Int32) : Int32 :=
  (if (x_X3_needCard S p1) = none then (if (r_X1_canBeSwapped S p1) = 0 then 0 else (S 10 p1.toNatClampNeg)) else 0)
def s_X3_agree (S : St) (p1 : Int32) : St :=
  (if (x_X3_needCard S p1) = none then (if (r_X1_canBeSwapped S p1) = 0 then S else (s_X3_giveTo (s_X3_giveTo S p1 (S 6 (S 10 p1.toNatClampNeg).toNatClampNeg)) (S 10 p1.toNatClampNeg) (S 6 p1.toNatClampNeg))) else S)
def x_X3_agree (S : St) (p1 : Int32) : Option String :=
  (if (x_X3_needCard S p1) = none then (if (r_X1_canBeSwapped S p1) = 0 then some v_E3 else none) else (x_X3_needCard S p1))
set_option maxHeartbeats 1000000 in
set_option maxRecDepth 100000 in
theorem c_X3_agree (l : Launch) (D : va_G) (cI cII cL : ClassId) (hlt : l.stackTraces = false) (h : Nat → Nat) (S : St) (p1 : Int32) (hcnt : cntC S) (hhis : hisC S) : v_Xi l D vwCl (tyl cI cII cL) yX3_agree wsX3_agree { frames := 7, cells := 2, slots := 12, locals := 103 } [.ref (h 0), .int p1] (wT h cI cII S) (x_X3_agree S p1) (r_X3_agree S p1) (wT h cI cII (s_X3_agree S p1)) := by
  refine v_ofXi (cc := cX3_agree) (maxL := 4) (ret := (some .int)) (own := RX3) (lv0 := [(0, .ref (h 0)), (1, .int p1)]) hlt (by decide) rfl rfl rfl (Nat.le_of_ble_eq_true rfl) ?_
  intro p e s m below meth c X TT hr
  have iX1 : ∀ w ∈ wsX10, w ∈ wsX3_agree := by decide +kernel
  have iX3 : ∀ w ∈ wsX30, w ∈ wsX3_agree := by decide +kernel
  have tv_E3 : ∀ w ∈ (vx_atS RX3 68 v_E3 v_nm).filter goodWord, w ∈ wsX3_agree := by decide +kernel
  refine v_aload_n X dX3_agree_0 rfl ?_
  refine v_iload_n X dX3_agree_1 rfl ?_
  refine v_xcallVv (As := [.int p1]) (rest := []) (w' := (wT h cI cII S)) X TT.2.1 (c_X3_needCard l D cI cII cL hlt h S p1) (cwV 1 X.2.2.2.1 gX3_agree_X3_needCard rfl rfl rfl (by decide +kernel) ⟨Nat.le_of_ble_eq_true rfl, Nat.le_of_ble_eq_true rfl⟩) 0 3 rfl rfl wT_g0 rfl rfl (Nat.le_of_ble_eq_true rfl) dX3_agree_2 ⟨Nat.le_of_ble_eq_true rfl, Nat.le_of_ble_eq_true rfl⟩ (fun E q9 hx => v_outG X TT ((by have c_1 : ¬ (x_X3_needCard S p1) = none := (by rw [hx]; exact nofun); unfold x_X3_agree; rw [if_neg c_1] : (x_X3_agree S p1) = (x_X3_needCard S p1)).trans hx) rfl (Nat.le_of_ble_eq_true rfl) (Nat.le_of_ble_eq_true rfl)) (fun c_1 => ?_)
  refine v_aload_n X dX3_agree_5 rfl ?_
  refine v_getfield (ref := "Trumpvault") (ci := 3) (index := 10) (v := .ref (h 4)) X iX3 0 wT_g0 rfl 0 (by decide) (by decide +kernel) (fun _ h9 => h9) rfl dX3_agree_6 ?_
  refine v_iload_n X dX3_agree_9 rfl ?_
  refine v_callVic (As := [.int p1]) (rest := []) (w' := (wT h cI cII S)) X (c_X1_canBeSwapped l D cI cII cL h S p1 (needCard_in hcnt c_1) hcnt) (cwV 1 X.2.2.2.1 gX3_agree_X1_canBeSwapped rfl rfl rfl (by decide +kernel) ⟨Nat.le_of_ble_eq_true rfl, Nat.le_of_ble_eq_true rfl⟩) isCC isRC pmC (cutC h cI cII (fun _ _ => rfl)) 0 1 rfl rfl wC_g4 rfl rfl (Nat.le_of_ble_eq_true rfl) dX3_agree_10 ⟨Nat.le_of_ble_eq_true rfl, Nat.le_of_ble_eq_true rfl⟩ ?_
  refine v_if_ne (tgt := 26) X dX3_agree_13 (by decide) (fun c_2 => ?_) (fun c_2 => ?_)
  · refine v_aload_n X dX3_agree_26 rfl ?_
    refine v_getfield (ref := "Trumpvault") (ci := 3) (index := 10) (v := .ref (h 4)) X iX3 0 wT_g0 rfl 0 (by decide) (by decide +kernel) (fun _ h9 => h9) rfl dX3_agree_27 ?_
    refine v_getfield (ref := "Trumpvault$Cards") (ci := 1) (index := 157) (v := .ref (h 10)) X iX1 4 wT_g4 rfl 5 (by decide) (by decide +kernel) (fun _ h9 => h9) rfl dX3_agree_30 ?_
    refine v_iload_n X dX3_agree_33 rfl ?_
    refine v_iald X 10 0 wT_g10 rfl (needCard_in hcnt c_1) dX3_agree_34 ?_
    refine v_istore_n (lv' := [(2, .int (S 10 p1.toNatClampNeg)), (0, .ref (h 0)), (1, .int p1)]) X dX3_agree_35 (by decide) rfl ?_
    refine v_aload_n X dX3_agree_36 rfl ?_
    refine v_getfield (ref := "Trumpvault") (ci := 3) (index := 10) (v := .ref (h 4)) X iX3 0 wT_g0 rfl 0 (by decide) (by decide +kernel) (fun _ h9 => h9) rfl dX3_agree_37 ?_
    refine v_getfield (ref := "Trumpvault$Cards") (ci := 1) (index := 82) (v := .ref (h 6)) X iX1 4 wT_g4 rfl 1 (by decide) (by decide +kernel) (fun _ h9 => h9) rfl dX3_agree_40 ?_
    refine v_iload_n X dX3_agree_43 rfl ?_
    refine v_iald X 6 0 wT_g6 rfl (needCard_in hcnt c_1) dX3_agree_44 ?_
    refine v_istore_n (lv' := [(3, .int (S 6 p1.toNatClampNeg)), (2, .int (S 10 p1.toNatClampNeg)), (0, .ref (h 0)), (1, .int p1)]) X dX3_agree_45 (by decide) rfl ?_
    refine v_aload_n X dX3_agree_46 rfl ?_
    refine v_iload_n X dX3_agree_47 rfl ?_
    refine v_aload_n X dX3_agree_48 rfl ?_
    refine v_getfield (ref := "Trumpvault") (ci := 3) (index := 10) (v := .ref (h 4)) X iX3 0 wT_g0 rfl 0 (by decide) (by decide +kernel) (fun _ h9 => h9) rfl dX3_agree_49 ?_
    refine v_getfield (ref := "Trumpvault$Cards") (ci := 1) (index := 82) (v := .ref (h 6)) X iX1 4 wT_g4 rfl 1 (by decide) (by decide +kernel) (fun _ h9 => h9) rfl dX3_agree_52 ?_
    refine v_iload_n X dX3_agree_55 rfl ?_
    refine v_iald X 6 0 wT_g6 rfl (swp_in hcnt c_2) dX3_agree_56 ?_
    refine v_callVv (As := [.int p1, .int (S 6 (S 10 p1.toNatClampNeg).toNatClampNeg)]) (rest := []) (w' := (wT h cI cII (s_X3_giveTo S p1 (S 6 (S 10 p1.toNatClampNeg).toNatClampNeg)))) X (c_X3_giveTo l D cI cII cL h S p1 (S 6 (S 10 p1.toNatClampNeg).toNatClampNeg) (needCard_in hcnt c_1) hhis) (cwV 2 X.2.2.2.1 gX3_agree_X3_giveTo rfl rfl rfl (by decide +kernel) ⟨Nat.le_of_ble_eq_true rfl, Nat.le_of_ble_eq_true rfl⟩) 0 3 rfl rfl wT_g0 rfl rfl (Nat.le_of_ble_eq_true rfl) dX3_agree_57 ⟨Nat.le_of_ble_eq_true rfl, Nat.le_of_ble_eq_true rfl⟩ ?_
    refine v_aload_n X dX3_agree_60 rfl ?_
    refine v_iload_n X dX3_agree_61 rfl ?_
    refine v_iload_n X dX3_agree_62 rfl ?_
    refine v_callVv (As := [.int (S 10 p1.toNatClampNeg), .int (S 6 p1.toNatClampNeg)]) (rest := []) (w' := (wT h cI cII (s_X3_giveTo (s_X3_giveTo S p1 (S 6 (S 10 p1.toNatClampNeg).toNatClampNeg)) (S 10 p1.toNatClampNeg) (S 6 p1.toNatClampNeg)))) X (c_X3_giveTo l D cI cII cL h (s_X3_giveTo S p1 (S 6 (S 10 p1.toNatClampNeg).toNatClampNeg)) (S 10 p1.toNatClampNeg) (S 6 p1.toNatClampNeg) (swp_in hcnt c_2) (his_giveTo hhis)) (cwV 2 X.2.2.2.1 gX3_agree_X3_giveTo rfl rfl rfl (by decide +kernel) ⟨Nat.le_of_ble_eq_true rfl, Nat.le_of_ble_eq_true rfl⟩) 0 3 rfl rfl wT_g0 rfl rfl (Nat.le_of_ble_eq_true rfl) dX3_agree_63 ⟨Nat.le_of_ble_eq_true rfl, Nat.le_of_ble_eq_true rfl⟩ ?_
    refine v_iload_n X dX3_agree_66 rfl ?_
    exact v_xreti X TT hr rfl (by unfold x_X3_agree; rw [if_pos c_1, if_neg c_2]) (by unfold r_X3_agree; rw [if_pos c_1, if_neg c_2]) (congrArg (fun z => (wT h cI cII z)) (by unfold s_X3_agree; rw [if_pos c_1, if_neg c_2])) (Nat.le_of_ble_eq_true rfl) (Nat.le_of_ble_eq_true rfl) dX3_agree_67
  · exact v_throwG (is := 163) (text := "the card can't be swapped now") X TT v_EL3 (by decide +kernel) (by decide +kernel) tv_E3 (by decide +kernel) dX3_agree_16 dX3_agree_19 dX3_agree_20 dX3_agree_22 dX3_agree_25 (by unfold x_X3_agree; rw [if_pos c_1, if_pos c_2]) rfl ⟨Nat.le_of_ble_eq_true rfl, Nat.le_of_ble_eq_true rfl, Nat.le_of_ble_eq_true rfl, Nat.le_of_ble_eq_true rfl⟩ (Nat.le_of_ble_eq_true rfl) (Nat.le_of_ble_eq_true rfl)

def s_X3_cancelSwap (S : St) (p1 : Int32) : St :=
  (if (x_X3_needCard S p1) = none then (if (S 7 p1.toNatClampNeg) = 2 then (sU S 7 p1.toNatClampNeg 0) else S) else S)
def x_X3_cancelSwap (S : St) (p1 : Int32) : Option String :=
  (if (x_X3_needCard S p1) = none then (if (S 7 p1.toNatClampNeg) = 2 then none else some v_E3) else (x_X3_needCard S p1))
set_option maxHeartbeats 1000000 in
set_option maxRecDepth 100000 in
theorem c_X3_cancelSwap (l : Launch) (D : va_G) (cI cII cL : ClassId) (hlt : l.stackTraces = false) (h : Nat → Nat) (S : St) (p1 : Int32) (hcnt : cntC S) : v_Xv l D vwCl (tyl cI cII cL) yX3_cancelSwap wsX3_cancelSwap { frames := 7, cells := 2, slots := 12, locals := 103 } [.ref (h 0), .int p1] (wT h cI cII S) (x_X3_cancelSwap S p1) (wT h cI cII (s_X3_cancelSwap S p1)) := by
  refine v_ofXv (cc := cX3_cancelSwap) (maxL := 2) (ret := none) (own := RX3) (lv0 := [(0, .ref (h 0)), (1, .int p1)]) hlt (by decide) rfl rfl rfl (Nat.le_of_ble_eq_true rfl) ?_
  intro p e s m below meth c X TT hr
  have iX1 : ∀ w ∈ wsX10, w ∈ wsX3_cancelSwap := by decide +kernel
  have iX3 : ∀ w ∈ wsX30, w ∈ wsX3_cancelSwap := by decide +kernel
  have tv_E3 : ∀ w ∈ (vx_atS RX3 68 v_E3 v_nm).filter goodWord, w ∈ wsX3_cancelSwap := by decide +kernel
  refine v_aload_n X dX3_cancelSwap_0 rfl ?_
  refine v_iload_n X dX3_cancelSwap_1 rfl ?_
  refine v_xcallVv (As := [.int p1]) (rest := []) (w' := (wT h cI cII S)) X TT.2.1 (c_X3_needCard l D cI cII cL hlt h S p1) (cwV 1 X.2.2.2.1 gX3_cancelSwap_X3_needCard rfl rfl rfl (by decide +kernel) ⟨Nat.le_of_ble_eq_true rfl, Nat.le_of_ble_eq_true rfl⟩) 0 3 rfl rfl wT_g0 rfl rfl (Nat.le_of_ble_eq_true rfl) dX3_cancelSwap_2 ⟨Nat.le_of_ble_eq_true rfl, Nat.le_of_ble_eq_true rfl⟩ (fun E q9 hx => v_outG X TT ((by have c_1 : ¬ (x_X3_needCard S p1) = none := (by rw [hx]; exact nofun); unfold x_X3_cancelSwap; rw [if_neg c_1] : (x_X3_cancelSwap S p1) = (x_X3_needCard S p1)).trans hx) rfl (Nat.le_of_ble_eq_true rfl) (Nat.le_of_ble_eq_true rfl)) (fun c_1 => ?_)
  refine v_aload_n X dX3_cancelSwap_5 rfl ?_
  refine v_getfield (ref := "Trumpvault") (ci := 3) (index := 10) (v := .ref (h 4)) X iX3 0 wT_g0 rfl 0 (by decide) (by decide +kernel) (fun _ h9 => h9) rfl dX3_cancelSwap_6 ?_
  refine v_getfield (ref := "Trumpvault$Cards") (ci := 1) (index := 92) (v := .ref (h 7)) X iX1 4 wT_g4 rfl 2 (by decide) (by decide +kernel) (fun _ h9 => h9) rfl dX3_cancelSwap_9 ?_
  refine v_iload_n X dX3_cancelSwap_12 rfl ?_
  refine v_iald X 7 0 wT_g7 rfl (needCard_in hcnt c_1) dX3_cancelSwap_13 ?_
  refine v_iconst (x := 2) X dX3_cancelSwap_14 rfl ?_
  refine v_icmp_eq (tgt := 28) X dX3_cancelSwap_15 (by decide) (fun c_2 => ?_) (fun c_2 => ?_)
  · refine v_aload_n X dX3_cancelSwap_28 rfl ?_
    refine v_getfield (ref := "Trumpvault") (ci := 3) (index := 10) (v := .ref (h 4)) X iX3 0 wT_g0 rfl 0 (by decide) (by decide +kernel) (fun _ h9 => h9) rfl dX3_cancelSwap_29 ?_
    refine v_getfield (ref := "Trumpvault$Cards") (ci := 1) (index := 92) (v := .ref (h 7)) X iX1 4 wT_g4 rfl 2 (by decide) (by decide +kernel) (fun _ h9 => h9) rfl dX3_cancelSwap_32 ?_
    refine v_iload_n X dX3_cancelSwap_35 rfl ?_
    refine v_iconst (x := 0) X dX3_cancelSwap_36 rfl ?_
    refine v_iast (w' := (wT h cI cII (sU S 7 p1.toNatClampNeg 0))) X 7 0 wT_g7 rfl (needCard_in hcnt c_1) dX3_cancelSwap_37 wT_s7 ?_
    exact v_xretv X TT hr (by unfold x_X3_cancelSwap; rw [if_pos c_1, if_pos c_2]) (congrArg (fun z => (wT h cI cII z)) (by unfold s_X3_cancelSwap; rw [if_pos c_1, if_pos c_2])) (Nat.le_of_ble_eq_true rfl) (Nat.le_of_ble_eq_true rfl) dX3_cancelSwap_38
  · exact v_throwG (is := 165) (text := "no swap is told of the card") X TT v_EL3 (by decide +kernel) (by decide +kernel) tv_E3 (by decide +kernel) dX3_cancelSwap_18 dX3_cancelSwap_21 dX3_cancelSwap_22 dX3_cancelSwap_24 dX3_cancelSwap_27 (by unfold x_X3_cancelSwap; rw [if_pos c_1, if_neg c_2]) rfl ⟨Nat.le_of_ble_eq_true rfl, Nat.le_of_ble_eq_true rfl, Nat.le_of_ble_eq_true rfl, Nat.le_of_ble_eq_true rfl⟩ (Nat.le_of_ble_eq_true rfl) (Nat.le_of_ble_eq_true rfl)

def r_X3_lend (S : St) (p1 p2 p3 : Int32) : Int32 :=
  (if (x_X3_needCard S p1) = none then (if (x_X3_needPlayer p2) = none then (if p3 < 1 then 0 else (if 50 < p3 then 0 else (if p2 = (S 6 p1.toNatClampNeg) then 0 else (if (S 7 p1.toNatClampNeg) = 0 then ((S 0 7) + p3) else 0)))) else 0) else 0)
def s_X3_lend (S : St) (p1 p2 p3 : Int32) : St :=
  (if (x_X3_needCard S p1) = none then (if (x_X3_needPlayer p2) = none then (if p3 < 1 then S else (if 50 < p3 then S else (if p2 = (S 6 p1.toNatClampNeg) then S else (if (S 7 p1.toNatClampNeg) = 0 then (s_X1_lendTo S p1 p2 ((S 0 7) + p3)) else S)))) else S) else S)
def x_X3_lend (S : St) (p1 p2 p3 : Int32) : Option String :=
  (if (x_X3_needCard S p1) = none then (if (x_X3_needPlayer p2) = none then (if p3 < 1 then some v_E2 else (if 50 < p3 then some v_E2 else (if p2 = (S 6 p1.toNatClampNeg) then some v_E2 else (if (S 7 p1.toNatClampNeg) = 0 then none else some v_E3)))) else (x_X3_needPlayer p2)) else (x_X3_needCard S p1))
set_option maxHeartbeats 1000000 in
set_option maxRecDepth 100000 in
theorem c_X3_lend (l : Launch) (D : va_G) (cI cII cL : ClassId) (hlt : l.stackTraces = false) (h : Nat → Nat) (S : St) (p1 p2 p3 : Int32) (hcnt : cntC S) : v_Xi l D vwCl (tyl cI cII cL) yX3_lend wsX3_lend { frames := 7, cells := 3, slots := 18, locals := 103 } [.ref (h 0), .int p1, .int p2, .int p3] (wT h cI cII S) (x_X3_lend S p1 p2 p3) (r_X3_lend S p1 p2 p3) (wT h cI cII (s_X3_lend S p1 p2 p3)) := by
  refine v_ofXi (cc := cX3_lend) (maxL := 5) (ret := (some .int)) (own := RX3) (lv0 := [(0, .ref (h 0)), (1, .int p1), (2, .int p2), (3, .int p3)]) hlt (by decide) rfl rfl rfl (Nat.le_of_ble_eq_true rfl) ?_
  intro p e s m below meth c X TT hr
  have iX1 : ∀ w ∈ wsX10, w ∈ wsX3_lend := by decide +kernel
  have iX3 : ∀ w ∈ wsX30, w ∈ wsX3_lend := by decide +kernel
  have tv_E2 : ∀ w ∈ (vx_atS RX3 154 v_E2 v_nm).filter goodWord, w ∈ wsX3_lend := by decide +kernel
  have tv_E3 : ∀ w ∈ (vx_atS RX3 68 v_E3 v_nm).filter goodWord, w ∈ wsX3_lend := by decide +kernel
  refine v_aload_n X dX3_lend_0 rfl ?_
  refine v_iload_n X dX3_lend_1 rfl ?_
  refine v_xcallVv (As := [.int p1]) (rest := []) (w' := (wT h cI cII S)) X TT.2.1 (c_X3_needCard l D cI cII cL hlt h S p1) (cwV 1 X.2.2.2.1 gX3_lend_X3_needCard rfl rfl rfl (by decide +kernel) ⟨Nat.le_of_ble_eq_true rfl, Nat.le_of_ble_eq_true rfl⟩) 0 3 rfl rfl wT_g0 rfl rfl (Nat.le_of_ble_eq_true rfl) dX3_lend_2 ⟨Nat.le_of_ble_eq_true rfl, Nat.le_of_ble_eq_true rfl⟩ (fun E q9 hx => v_outG X TT ((by have c_1 : ¬ (x_X3_needCard S p1) = none := (by rw [hx]; exact nofun); unfold x_X3_lend; rw [if_neg c_1] : (x_X3_lend S p1 p2 p3) = (x_X3_needCard S p1)).trans hx) rfl (Nat.le_of_ble_eq_true rfl) (Nat.le_of_ble_eq_true rfl)) (fun c_1 => ?_)
  refine v_iload_n X dX3_lend_5 rfl ?_
  refine v_xcallSv0 (As := [.int p2]) (rest := []) X TT.2.1 (c_X3_needPlayer l D cI cII cL hlt p2) (cwS 1 X.2.2.2.1 gX3_lend_X3_needPlayer rfl rfl rfl (by decide +kernel) ⟨Nat.le_of_ble_eq_true rfl, Nat.le_of_ble_eq_true rfl⟩) rfl rfl (Nat.le_of_ble_eq_true rfl) dX3_lend_6 ⟨Nat.le_of_ble_eq_true rfl, Nat.le_of_ble_eq_true rfl⟩ (fun E q9 hx => v_outG X TT ((by have c_2 : ¬ (x_X3_needPlayer p2) = none := (by rw [hx]; exact nofun); unfold x_X3_lend; rw [if_pos c_1, if_neg c_2] : (x_X3_lend S p1 p2 p3) = (x_X3_needPlayer p2)).trans hx) rfl (Nat.le_of_ble_eq_true rfl) (Nat.le_of_ble_eq_true rfl)) (fun c_2 => ?_)
  refine v_iload_n X dX3_lend_9 rfl ?_
  refine v_iconst (x := 1) X dX3_lend_10 rfl ?_
  refine v_icmp_lt (tgt := 33) X dX3_lend_11 (by decide) (fun c_3 => ?_) (fun c_3 => ?_)
  · exact v_throwG (is := 167) (text := "days out of range, or the player is the owner") X TT v_EL2 (by decide +kernel) (by decide +kernel) tv_E2 (by decide +kernel) dX3_lend_33 dX3_lend_36 dX3_lend_37 dX3_lend_39 dX3_lend_42 (by unfold x_X3_lend; rw [if_pos c_1, if_pos c_2, if_pos c_3]) rfl ⟨Nat.le_of_ble_eq_true rfl, Nat.le_of_ble_eq_true rfl, Nat.le_of_ble_eq_true rfl, Nat.le_of_ble_eq_true rfl⟩ (Nat.le_of_ble_eq_true rfl) (Nat.le_of_ble_eq_true rfl)
  · refine v_iload_n X dX3_lend_14 rfl ?_
    refine v_bipush (x := 50) X dX3_lend_15 rfl ?_
    refine v_icmp_gt (tgt := 33) X dX3_lend_17 (by decide) (fun c_4 => ?_) (fun c_4 => ?_)
    · exact v_throwG (is := 167) (text := "days out of range, or the player is the owner") X TT v_EL2 (by decide +kernel) (by decide +kernel) tv_E2 (by decide +kernel) dX3_lend_33 dX3_lend_36 dX3_lend_37 dX3_lend_39 dX3_lend_42 (by unfold x_X3_lend; rw [if_pos c_1, if_pos c_2, if_neg c_3, if_pos c_4]) rfl ⟨Nat.le_of_ble_eq_true rfl, Nat.le_of_ble_eq_true rfl, Nat.le_of_ble_eq_true rfl, Nat.le_of_ble_eq_true rfl⟩ (Nat.le_of_ble_eq_true rfl) (Nat.le_of_ble_eq_true rfl)
    · refine v_iload_n X dX3_lend_20 rfl ?_
      refine v_aload_n X dX3_lend_21 rfl ?_
      refine v_getfield (ref := "Trumpvault") (ci := 3) (index := 10) (v := .ref (h 4)) X iX3 0 wT_g0 rfl 0 (by decide) (by decide +kernel) (fun _ h9 => h9) rfl dX3_lend_22 ?_
      refine v_getfield (ref := "Trumpvault$Cards") (ci := 1) (index := 82) (v := .ref (h 6)) X iX1 4 wT_g4 rfl 1 (by decide) (by decide +kernel) (fun _ h9 => h9) rfl dX3_lend_25 ?_
      refine v_iload_n X dX3_lend_28 rfl ?_
      refine v_iald X 6 0 wT_g6 rfl (needCard_in hcnt c_1) dX3_lend_29 ?_
      refine v_icmp_ne (tgt := 43) X dX3_lend_30 (by decide) (fun c_5 => ?_) (fun c_5 => ?_)
      · refine v_aload_n X dX3_lend_43 rfl ?_
        refine v_getfield (ref := "Trumpvault") (ci := 3) (index := 10) (v := .ref (h 4)) X iX3 0 wT_g0 rfl 0 (by decide) (by decide +kernel) (fun _ h9 => h9) rfl dX3_lend_44 ?_
        refine v_getfield (ref := "Trumpvault$Cards") (ci := 1) (index := 92) (v := .ref (h 7)) X iX1 4 wT_g4 rfl 2 (by decide) (by decide +kernel) (fun _ h9 => h9) rfl dX3_lend_47 ?_
        refine v_iload_n X dX3_lend_50 rfl ?_
        refine v_iald X 7 0 wT_g7 rfl (needCard_in hcnt c_1) dX3_lend_51 ?_
        refine v_if_eq (tgt := 65) X dX3_lend_52 (by decide) (fun c_6 => ?_) (fun c_6 => ?_)
        · refine v_aload_n X dX3_lend_65 rfl ?_
          refine v_getfield (ref := "Trumpvault") (ci := 3) (index := 50) (v := .int (S 0 7)) X iX3 0 wT_g0 rfl 7 (by decide) (by decide +kernel) (fun _ h9 => h9) rfl dX3_lend_66 ?_
          refine v_iload_n X dX3_lend_69 rfl ?_
          refine v_iadd X dX3_lend_70 ?_
          refine v_istore (lv' := [(4, .int ((S 0 7) + p3)), (0, .ref (h 0)), (1, .int p1), (2, .int p2), (3, .int p3)]) X dX3_lend_71 (by decide) rfl ?_
          refine v_aload_n X dX3_lend_73 rfl ?_
          refine v_getfield (ref := "Trumpvault") (ci := 3) (index := 10) (v := .ref (h 4)) X iX3 0 wT_g0 rfl 0 (by decide) (by decide +kernel) (fun _ h9 => h9) rfl dX3_lend_74 ?_
          refine v_iload_n X dX3_lend_77 rfl ?_
          refine v_iload_n X dX3_lend_78 rfl ?_
          refine v_iload X dX3_lend_79 rfl ?_
          refine v_callVvc (As := [.int p1, .int p2, .int ((S 0 7) + p3)]) (rest := []) (w' := (wT h cI cII (s_X1_lendTo S p1 p2 ((S 0 7) + p3)))) X (c_X1_lendTo l D cI cII cL h S p1 p2 ((S 0 7) + p3) (needCard_in hcnt c_1)) (cwV 3 X.2.2.2.1 gX3_lend_X1_lendTo rfl rfl rfl (by decide +kernel) ⟨Nat.le_of_ble_eq_true rfl, Nat.le_of_ble_eq_true rfl⟩) isCC isRC pmC (cutC h cI cII (fr_X1_lendTo S p1 p2 ((S 0 7) + p3))) 0 1 rfl rfl wC_g4 rfl rfl (Nat.le_of_ble_eq_true rfl) dX3_lend_81 ⟨Nat.le_of_ble_eq_true rfl, Nat.le_of_ble_eq_true rfl⟩ ?_
          refine v_iload X dX3_lend_84 rfl ?_
          exact v_xreti X TT hr rfl (by unfold x_X3_lend; rw [if_pos c_1, if_pos c_2, if_neg c_3, if_neg c_4, if_neg c_5, if_pos c_6]) (by unfold r_X3_lend; rw [if_pos c_1, if_pos c_2, if_neg c_3, if_neg c_4, if_neg c_5, if_pos c_6]) (congrArg (fun z => (wT h cI cII z)) (by unfold s_X3_lend; rw [if_pos c_1, if_pos c_2, if_neg c_3, if_neg c_4, if_neg c_5, if_pos c_6])) (Nat.le_of_ble_eq_true rfl) (Nat.le_of_ble_eq_true rfl) dX3_lend_86
        · exact v_throwG (is := 155) (text := "the card is not free") X TT v_EL3 (by decide +kernel) (by decide +kernel) tv_E3 (by decide +kernel) dX3_lend_55 dX3_lend_58 dX3_lend_59 dX3_lend_61 dX3_lend_64 (by unfold x_X3_lend; rw [if_pos c_1, if_pos c_2, if_neg c_3, if_neg c_4, if_neg c_5, if_neg c_6]) rfl ⟨Nat.le_of_ble_eq_true rfl, Nat.le_of_ble_eq_true rfl, Nat.le_of_ble_eq_true rfl, Nat.le_of_ble_eq_true rfl⟩ (Nat.le_of_ble_eq_true rfl) (Nat.le_of_ble_eq_true rfl)
      · exact v_throwG (is := 167) (text := "days out of range, or the player is the owner") X TT v_EL2 (by decide +kernel) (by decide +kernel) tv_E2 (by decide +kernel) dX3_lend_33 dX3_lend_36 dX3_lend_37 dX3_lend_39 dX3_lend_42 (by unfold x_X3_lend; rw [if_pos c_1, if_pos c_2, if_neg c_3, if_neg c_4, if_pos c_5]) rfl ⟨Nat.le_of_ble_eq_true rfl, Nat.le_of_ble_eq_true rfl, Nat.le_of_ble_eq_true rfl, Nat.le_of_ble_eq_true rfl⟩ (Nat.le_of_ble_eq_true rfl) (Nat.le_of_ble_eq_true rfl)

def r_X3_ban (S : St) (p1 p2 : Int32) : Int32 :=
  (if (x_X3_needKind p1) = none then (if p2 < (S 0 7) then 0 else (if p2 ≤ ((S 0 7) + 50) then (if (r_X3_bannedToday (sU S 2 p1.toNatClampNeg p2) p1) = 0 then 0 else (r_X3_clearMarket (sU S 2 p1.toNatClampNeg p2) p1)) else 0)) else 0)
def s_X3_ban (S : St) (p1 p2 : Int32) : St :=
  (if (x_X3_needKind p1) = none then (if p2 < (S 0 7) then S else (if p2 ≤ ((S 0 7) + 50) then (if (r_X3_bannedToday (sU S 2 p1.toNatClampNeg p2) p1) = 0 then (sU S 2 p1.toNatClampNeg p2) else (s_X3_clearMarket (sU S 2 p1.toNatClampNeg p2) p1)) else S)) else S)
def x_X3_ban (S : St) (p1 p2 : Int32) : Option String :=
  (if (x_X3_needKind p1) = none then (if p2 < (S 0 7) then some v_E2 else (if p2 ≤ ((S 0 7) + 50) then (if (r_X3_bannedToday (sU S 2 p1.toNatClampNeg p2) p1) = 0 then none else none) else some v_E2)) else (x_X3_needKind p1))
set_option maxHeartbeats 1000000 in
set_option maxRecDepth 100000 in
theorem c_X3_ban (l : Launch) (D : va_G) (cI cII cL : ClassId) (hlt : l.stackTraces = false) (h : Nat → Nat) (S : St) (p1 p2 : Int32) (hcnt : cntC S) : v_Xi l D vwCl (tyl cI cII cL) yX3_ban wsX3_ban { frames := 7, cells := 2, slots := 12, locals := 102 } [.ref (h 0), .int p1, .int p2] (wT h cI cII S) (x_X3_ban S p1 p2) (r_X3_ban S p1 p2) (wT h cI cII (s_X3_ban S p1 p2)) := by
  refine v_ofXi (cc := cX3_ban) (maxL := 3) (ret := (some .int)) (own := RX3) (lv0 := [(0, .ref (h 0)), (1, .int p1), (2, .int p2)]) hlt (by decide) rfl rfl rfl (Nat.le_of_ble_eq_true rfl) ?_
  intro p e s m below meth c X TT hr
  have iX3 : ∀ w ∈ wsX30, w ∈ wsX3_ban := by decide +kernel
  have tv_E2 : ∀ w ∈ (vx_atS RX3 154 v_E2 v_nm).filter goodWord, w ∈ wsX3_ban := by decide +kernel
  refine v_iload_n X dX3_ban_0 rfl ?_
  refine v_xcallSv0 (As := [.int p1]) (rest := []) X TT.2.1 (c_X3_needKind l D cI cII cL hlt p1) (cwS 1 X.2.2.2.1 gX3_ban_X3_needKind rfl rfl rfl (by decide +kernel) ⟨Nat.le_of_ble_eq_true rfl, Nat.le_of_ble_eq_true rfl⟩) rfl rfl (Nat.le_of_ble_eq_true rfl) dX3_ban_1 ⟨Nat.le_of_ble_eq_true rfl, Nat.le_of_ble_eq_true rfl⟩ (fun E q9 hx => v_outG X TT ((by have c_1 : ¬ (x_X3_needKind p1) = none := (by rw [hx]; exact nofun); unfold x_X3_ban; rw [if_neg c_1] : (x_X3_ban S p1 p2) = (x_X3_needKind p1)).trans hx) rfl (Nat.le_of_ble_eq_true rfl) (Nat.le_of_ble_eq_true rfl)) (fun c_1 => ?_)
  refine v_iload_n X dX3_ban_4 rfl ?_
  refine v_aload_n X dX3_ban_5 rfl ?_
  refine v_getfield (ref := "Trumpvault") (ci := 3) (index := 50) (v := .int (S 0 7)) X iX3 0 wT_g0 rfl 7 (by decide) (by decide +kernel) (fun _ h9 => h9) rfl dX3_ban_6 ?_
  refine v_icmp_lt (tgt := 23) X dX3_ban_9 (by decide) (fun c_2 => ?_) (fun c_2 => ?_)
  · exact v_throwG (is := 172) (text := "day out of range") X TT v_EL2 (by decide +kernel) (by decide +kernel) tv_E2 (by decide +kernel) dX3_ban_23 dX3_ban_26 dX3_ban_27 dX3_ban_29 dX3_ban_32 (by unfold x_X3_ban; rw [if_pos c_1, if_pos c_2]) rfl ⟨Nat.le_of_ble_eq_true rfl, Nat.le_of_ble_eq_true rfl, Nat.le_of_ble_eq_true rfl, Nat.le_of_ble_eq_true rfl⟩ (Nat.le_of_ble_eq_true rfl) (Nat.le_of_ble_eq_true rfl)
  · refine v_iload_n X dX3_ban_12 rfl ?_
    refine v_aload_n X dX3_ban_13 rfl ?_
    refine v_getfield (ref := "Trumpvault") (ci := 3) (index := 50) (v := .int (S 0 7)) X iX3 0 wT_g0 rfl 7 (by decide) (by decide +kernel) (fun _ h9 => h9) rfl dX3_ban_14 ?_
    refine v_bipush (x := 50) X dX3_ban_17 rfl ?_
    refine v_iadd X dX3_ban_19 ?_
    refine v_icmp_le (tgt := 33) X dX3_ban_20 (by decide) (fun c_3 => ?_) (fun c_3 => ?_)
    · refine v_aload_n X dX3_ban_33 rfl ?_
      refine v_getfield (ref := "Trumpvault") (ci := 3) (index := 40) (v := .ref (h 2)) X iX3 0 wT_g0 rfl 4 (by decide) (by decide +kernel) (fun _ h9 => h9) rfl dX3_ban_34 ?_
      refine v_iload_n X dX3_ban_37 rfl ?_
      refine v_iload_n X dX3_ban_38 rfl ?_
      refine v_iast (w' := (wT h cI cII (sU S 2 p1.toNatClampNeg p2))) X 2 0 wT_g2 rfl (needKind_in c_1) dX3_ban_39 wT_s2 ?_
      refine v_aload_n X dX3_ban_40 rfl ?_
      refine v_iload_n X dX3_ban_41 rfl ?_
      refine v_callVi (As := [.int p1]) (rest := []) (w' := (wT h cI cII (sU S 2 p1.toNatClampNeg p2))) X (c_X3_bannedToday l D cI cII cL h (sU S 2 p1.toNatClampNeg p2) p1 (needKind_in c_1)) (cwV 1 X.2.2.2.1 gX3_ban_X3_bannedToday rfl rfl rfl (by decide +kernel) ⟨Nat.le_of_ble_eq_true rfl, Nat.le_of_ble_eq_true rfl⟩) 0 3 rfl rfl wT_g0 rfl rfl (Nat.le_of_ble_eq_true rfl) dX3_ban_42 ⟨Nat.le_of_ble_eq_true rfl, Nat.le_of_ble_eq_true rfl⟩ ?_
      refine v_if_eq (tgt := 56) X dX3_ban_45 (by decide) (fun c_4 => ?_) (fun c_4 => ?_)
      · refine v_iconst (x := 0) X dX3_ban_56 rfl ?_
        exact v_xreti X TT hr rfl (by unfold x_X3_ban; rw [if_pos c_1, if_neg c_2, if_pos c_3, if_pos c_4]) (by unfold r_X3_ban; rw [if_pos c_1, if_neg c_2, if_pos c_3, if_pos c_4]) (congrArg (fun z => (wT h cI cII z)) (by unfold s_X3_ban; rw [if_pos c_1, if_neg c_2, if_pos c_3, if_pos c_4])) (Nat.le_of_ble_eq_true rfl) (Nat.le_of_ble_eq_true rfl) dX3_ban_57
      · refine v_aload_n X dX3_ban_48 rfl ?_
        refine v_iload_n X dX3_ban_49 rfl ?_
        refine v_callVi (As := [.int p1]) (rest := []) (w' := (wT h cI cII (s_X3_clearMarket (sU S 2 p1.toNatClampNeg p2) p1))) X (c_X3_clearMarket l D cI cII cL h (sU S 2 p1.toNatClampNeg p2) p1 (needKind_in c_1) (cnt_of (sU_ne (by decide)) hcnt)) (cwV 1 X.2.2.2.1 gX3_ban_X3_clearMarket rfl rfl rfl (by decide +kernel) ⟨Nat.le_of_ble_eq_true rfl, Nat.le_of_ble_eq_true rfl⟩) 0 3 rfl rfl wT_g0 rfl rfl (Nat.le_of_ble_eq_true rfl) dX3_ban_50 ⟨Nat.le_of_ble_eq_true rfl, Nat.le_of_ble_eq_true rfl⟩ ?_
        refine v_goto (tgt := 57) X dX3_ban_53 (by decide) ?_
        exact v_xreti X TT hr rfl (by unfold x_X3_ban; rw [if_pos c_1, if_neg c_2, if_pos c_3, if_neg c_4]) (by unfold r_X3_ban; rw [if_pos c_1, if_neg c_2, if_pos c_3, if_neg c_4]) (congrArg (fun z => (wT h cI cII z)) (by unfold s_X3_ban; rw [if_pos c_1, if_neg c_2, if_pos c_3, if_neg c_4])) (Nat.le_of_ble_eq_true rfl) (Nat.le_of_ble_eq_true rfl) dX3_ban_57
    · exact v_throwG (is := 172) (text := "day out of range") X TT v_EL2 (by decide +kernel) (by decide +kernel) tv_E2 (by decide +kernel) dX3_ban_23 dX3_ban_26 dX3_ban_27 dX3_ban_29 dX3_ban_32 (by unfold x_X3_ban; rw [if_pos c_1, if_neg c_2, if_neg c_3]) rfl ⟨Nat.le_of_ble_eq_true rfl, Nat.le_of_ble_eq_true rfl, Nat.le_of_ble_eq_true rfl, Nat.le_of_ble_eq_true rfl⟩ (Nat.le_of_ble_eq_true rfl) (Nat.le_of_ble_eq_true rfl)

def r_X3_lift (S : St) (p1 : Int32) : Int32 :=
  (if (x_X3_needKind p1) = none then (if (S 2 p1.toNatClampNeg) = (-1) then 0 else 1) else 0)
def s_X3_lift (S : St) (p1 : Int32) : St :=
  (if (x_X3_needKind p1) = none then (sU S 2 p1.toNatClampNeg (-1)) else S)
def x_X3_lift (S : St) (p1 : Int32) : Option String :=
  (if (x_X3_needKind p1) = none then none else (x_X3_needKind p1))
theorem b_X3_lift (S : St) (p1 : Int32) : (r_X3_lift S p1) = 0 ∨ (r_X3_lift S p1) = 1 := by
  unfold r_X3_lift
  repeat' split
  all_goals first | exact Or.inl rfl | exact Or.inr rfl
set_option maxHeartbeats 1000000 in
set_option maxRecDepth 100000 in
theorem c_X3_lift (l : Launch) (D : va_G) (cI cII cL : ClassId) (hlt : l.stackTraces = false) (h : Nat → Nat) (S : St) (p1 : Int32) : v_Xi l D vwCl (tyl cI cII cL) yX3_lift wsX3_lift { frames := 7, cells := 1, slots := 6, locals := 102 } [.ref (h 0), .int p1] (wT h cI cII S) (x_X3_lift S p1) (r_X3_lift S p1) (wT h cI cII (s_X3_lift S p1)) := by
  refine v_ofXi (cc := cX3_lift) (maxL := 3) (ret := (some .boolean)) (own := RX3) (lv0 := [(0, .ref (h 0)), (1, .int p1)]) hlt (by decide) rfl rfl rfl (Nat.le_of_ble_eq_true rfl) ?_
  intro p e s m below meth c X TT hr
  have iX3 : ∀ w ∈ wsX30, w ∈ wsX3_lift := by decide +kernel
  refine v_iload_n X dX3_lift_0 rfl ?_
  refine v_xcallSv0 (As := [.int p1]) (rest := []) X TT.2.1 (c_X3_needKind l D cI cII cL hlt p1) (cwS 1 X.2.2.2.1 gX3_lift_X3_needKind rfl rfl rfl (by decide +kernel) ⟨Nat.le_of_ble_eq_true rfl, Nat.le_of_ble_eq_true rfl⟩) rfl rfl (Nat.le_of_ble_eq_true rfl) dX3_lift_1 ⟨Nat.le_of_ble_eq_true rfl, Nat.le_of_ble_eq_true rfl⟩ (fun E q9 hx => v_outG X TT ((by have c_1 : ¬ (x_X3_needKind p1) = none := (by rw [hx]; exact nofun); unfold x_X3_lift; rw [if_neg c_1] : (x_X3_lift S p1) = (x_X3_needKind p1)).trans hx) rfl (Nat.le_of_ble_eq_true rfl) (Nat.le_of_ble_eq_true rfl)) (fun c_1 => ?_)
  refine v_aload_n X dX3_lift_4 rfl ?_
  refine v_getfield (ref := "Trumpvault") (ci := 3) (index := 40) (v := .ref (h 2)) X iX3 0 wT_g0 rfl 4 (by decide) (by decide +kernel) (fun _ h9 => h9) rfl dX3_lift_5 ?_
  refine v_iload_n X dX3_lift_8 rfl ?_
  refine v_iald X 2 0 wT_g2 rfl (needKind_in c_1) dX3_lift_9 ?_
  refine v_iconst (x := (-1)) X dX3_lift_10 rfl ?_
  refine v_mrg (T := (if (S 2 p1.toNatClampNeg) = (-1) then 0 else 1)) 19 [] (fun hJ1 => ?_) ?_
  · refine v_icmp_eq (tgt := 18) X dX3_lift_11 (by decide) (fun c_2 => ?_) (fun c_2 => ?_)
    · refine v_iconst (x := 0) X dX3_lift_18 rfl ?_
      exact hJ1 _ (by rw [if_pos c_2])
    · refine v_iconst (x := 1) X dX3_lift_14 rfl ?_
      refine v_goto (tgt := 19) X dX3_lift_15 (by decide) ?_
      exact hJ1 _ (by rw [if_neg c_2])
  · refine v_istore_n (lv' := [(2, .int (if (S 2 p1.toNatClampNeg) = (-1) then 0 else 1)), (0, .ref (h 0)), (1, .int p1)]) X dX3_lift_19 (by decide) rfl ?_
    refine v_aload_n X dX3_lift_20 rfl ?_
    refine v_getfield (ref := "Trumpvault") (ci := 3) (index := 40) (v := .ref (h 2)) X iX3 0 wT_g0 rfl 4 (by decide) (by decide +kernel) (fun _ h9 => h9) rfl dX3_lift_21 ?_
    refine v_iload_n X dX3_lift_24 rfl ?_
    refine v_iconst (x := (-1)) X dX3_lift_25 rfl ?_
    refine v_iast (w' := (wT h cI cII (sU S 2 p1.toNatClampNeg (-1)))) X 2 0 wT_g2 rfl (needKind_in c_1) dX3_lift_26 wT_s2 ?_
    refine v_iload_n X dX3_lift_27 rfl ?_
    exact v_xreti X TT hr (narrow_b (by repeat' split; all_goals first | exact Or.inl rfl | exact Or.inr rfl)) (by unfold x_X3_lift; rw [if_pos c_1]) (by unfold r_X3_lift; rw [if_pos c_1]) (congrArg (fun z => (wT h cI cII z)) (by unfold s_X3_lift; rw [if_pos c_1])) (Nat.le_of_ble_eq_true rfl) (Nat.le_of_ble_eq_true rfl) dX3_lift_28

def r_X3_isBanned (S : St) (p1 : Int32) : Int32 :=
  (if (x_X3_needKind p1) = none then (r_X3_bannedToday S p1) else 0)
def x_X3_isBanned (S : St) (p1 : Int32) : Option String :=
  (if (x_X3_needKind p1) = none then none else (x_X3_needKind p1))
theorem b_X3_isBanned (S : St) (p1 : Int32) : (r_X3_isBanned S p1) = 0 ∨ (r_X3_isBanned S p1) = 1 := by
  unfold r_X3_isBanned
  repeat' split
  all_goals first | exact Or.inl rfl | exact Or.inr rfl | exact b_X3_bannedToday _ _
set_option maxHeartbeats 1000000 in
set_option maxRecDepth 100000 in
theorem c_X3_isBanned (l : Launch) (D : va_G) (cI cII cL : ClassId) (hlt : l.stackTraces = false) (h : Nat → Nat) (S : St) (p1 : Int32) : v_Xi l D vwCl (tyl cI cII cL) yX3_isBanned wsX3_isBanned { frames := 7, cells := 1, slots := 6, locals := 102 } [.ref (h 0), .int p1] (wT h cI cII S) (x_X3_isBanned S p1) (r_X3_isBanned S p1) (wT h cI cII S) := by
  refine v_ofXi (cc := cX3_isBanned) (maxL := 2) (ret := (some .boolean)) (own := RX3) (lv0 := [(0, .ref (h 0)), (1, .int p1)]) hlt (by decide) rfl rfl rfl (Nat.le_of_ble_eq_true rfl) ?_
  intro p e s m below meth c X TT hr
  refine v_iload_n X dX3_isBanned_0 rfl ?_
  refine v_xcallSv0 (As := [.int p1]) (rest := []) X TT.2.1 (c_X3_needKind l D cI cII cL hlt p1) (cwS 1 X.2.2.2.1 gX3_isBanned_X3_needKind rfl rfl rfl (by decide +kernel) ⟨Nat.le_of_ble_eq_true rfl, Nat.le_of_ble_eq_true rfl⟩) rfl rfl (Nat.le_of_ble_eq_true rfl) dX3_isBanned_1 ⟨Nat.le_of_ble_eq_true rfl, Nat.le_of_ble_eq_true rfl⟩ (fun E q9 hx => v_outG X TT ((by have c_1 : ¬ (x_X3_needKind p1) = none := (by rw [hx]; exact nofun); unfold x_X3_isBanned; rw [if_neg c_1] : (x_X3_isBanned S p1) = (x_X3_needKind p1)).trans hx) rfl (Nat.le_of_ble_eq_true rfl) (Nat.le_of_ble_eq_true rfl)) (fun c_1 => ?_)
  refine v_aload_n X dX3_isBanned_4 rfl ?_
  refine v_iload_n X dX3_isBanned_5 rfl ?_
  refine v_callVi (As := [.int p1]) (rest := []) (w' := (wT h cI cII S)) X (c_X3_bannedToday l D cI cII cL h S p1 (needKind_in c_1)) (cwV 1 X.2.2.2.1 gX3_isBanned_X3_bannedToday rfl rfl rfl (by decide +kernel) ⟨Nat.le_of_ble_eq_true rfl, Nat.le_of_ble_eq_true rfl⟩) 0 3 rfl rfl wT_g0 rfl rfl (Nat.le_of_ble_eq_true rfl) dX3_isBanned_6 ⟨Nat.le_of_ble_eq_true rfl, Nat.le_of_ble_eq_true rfl⟩ ?_
  exact v_xreti X TT hr (narrow_b (b_X3_bannedToday _ _)) (by unfold x_X3_isBanned; rw [if_pos c_1]) (by unfold r_X3_isBanned; rw [if_pos c_1]) rfl (Nat.le_of_ble_eq_true rfl) (Nat.le_of_ble_eq_true rfl) dX3_isBanned_9

def r_X3_toggleDeck (S : St) (p1 p2 : Int32) : Int32 :=
  (if (x_X3_needPlayer p1) = none then (if (x_X3_needCard S p2) = none then (r_J6_bitCount_0f7a4 ((sU S 3 p1.toNatClampNeg ((S 3 p1.toNatClampNeg) ^^^ (1 <<< (p2 &&& 31)))) 3 p1.toNatClampNeg)) else 0) else 0)
def s_X3_toggleDeck (S : St) (p1 p2 : Int32) : St :=
  (if (x_X3_needPlayer p1) = none then (if (x_X3_needCard S p2) = none then (sU S 3 p1.toNatClampNeg ((S 3 p1.toNatClampNeg) ^^^ (1 <<< (p2 &&& 31)))) else S) else S)
def x_X3_toggleDeck (S : St) (p1 p2 : Int32) : Option String :=
  (if (x_X3_needPlayer p1) = none then (if (x_X3_needCard S p2) = none then none else (x_X3_needCard S p2)) else (x_X3_needPlayer p1))
set_option maxHeartbeats 1000000 in
set_option maxRecDepth 100000 in
theorem c_X3_toggleDeck (l : Launch) (D : va_G) (cI cII cL : ClassId) (hlt : l.stackTraces = false) (h : Nat → Nat) (S : St) (p1 p2 : Int32) (hcnt : cntC S) : v_Xi l D vwCl (tyl cI cII cL) yX3_toggleDeck wsX3_toggleDeck { frames := 7, cells := 2, slots := 12, locals := 103 } [.ref (h 0), .int p1, .int p2] (wT h cI cII S) (x_X3_toggleDeck S p1 p2) (r_X3_toggleDeck S p1 p2) (wT h cI cII (s_X3_toggleDeck S p1 p2)) := by
  refine v_ofXi (cc := cX3_toggleDeck) (maxL := 3) (ret := (some .int)) (own := RX3) (lv0 := [(0, .ref (h 0)), (1, .int p1), (2, .int p2)]) hlt (by decide) rfl rfl rfl (Nat.le_of_ble_eq_true rfl) ?_
  intro p e s m below meth c X TT hr
  have iX3 : ∀ w ∈ wsX30, w ∈ wsX3_toggleDeck := by decide +kernel
  refine v_iload_n X dX3_toggleDeck_0 rfl ?_
  refine v_xcallSv0 (As := [.int p1]) (rest := []) X TT.2.1 (c_X3_needPlayer l D cI cII cL hlt p1) (cwS 1 X.2.2.2.1 gX3_toggleDeck_X3_needPlayer rfl rfl rfl (by decide +kernel) ⟨Nat.le_of_ble_eq_true rfl, Nat.le_of_ble_eq_true rfl⟩) rfl rfl (Nat.le_of_ble_eq_true rfl) dX3_toggleDeck_1 ⟨Nat.le_of_ble_eq_true rfl, Nat.le_of_ble_eq_true rfl⟩ (fun E q9 hx => v_outG X TT ((by have c_1 : ¬ (x_X3_needPlayer p1) = none := (by rw [hx]; exact nofun); unfold x_X3_toggleDeck; rw [if_neg c_1] : (x_X3_toggleDeck S p1 p2) = (x_X3_needPlayer p1)).trans hx) rfl (Nat.le_of_ble_eq_true rfl) (Nat.le_of_ble_eq_true rfl)) (fun c_1 => ?_)
  refine v_aload_n X dX3_toggleDeck_4 rfl ?_
  refine v_iload_n X dX3_toggleDeck_5 rfl ?_
  refine v_xcallVv (As := [.int p2]) (rest := []) (w' := (wT h cI cII S)) X TT.2.1 (c_X3_needCard l D cI cII cL hlt h S p2) (cwV 1 X.2.2.2.1 gX3_toggleDeck_X3_needCard rfl rfl rfl (by decide +kernel) ⟨Nat.le_of_ble_eq_true rfl, Nat.le_of_ble_eq_true rfl⟩) 0 3 rfl rfl wT_g0 rfl rfl (Nat.le_of_ble_eq_true rfl) dX3_toggleDeck_6 ⟨Nat.le_of_ble_eq_true rfl, Nat.le_of_ble_eq_true rfl⟩ (fun E q9 hx => v_outG X TT ((by have c_2 : ¬ (x_X3_needCard S p2) = none := (by rw [hx]; exact nofun); unfold x_X3_toggleDeck; rw [if_pos c_1, if_neg c_2] : (x_X3_toggleDeck S p1 p2) = (x_X3_needCard S p2)).trans hx) rfl (Nat.le_of_ble_eq_true rfl) (Nat.le_of_ble_eq_true rfl)) (fun c_2 => ?_)
  refine v_aload_n X dX3_toggleDeck_9 rfl ?_
  refine v_getfield (ref := "Trumpvault") (ci := 3) (index := 43) (v := .ref (h 3)) X iX3 0 wT_g0 rfl 5 (by decide) (by decide +kernel) (fun _ h9 => h9) rfl dX3_toggleDeck_10 ?_
  refine v_iload_n X dX3_toggleDeck_13 rfl ?_
  refine v_dup2 X dX3_toggleDeck_14 rfl rfl ?_
  refine v_iald X 3 0 wT_g3 rfl (needPlayer_in c_1) dX3_toggleDeck_15 ?_
  refine v_iconst (x := 1) X dX3_toggleDeck_16 rfl ?_
  refine v_iload_n X dX3_toggleDeck_17 rfl ?_
  refine v_ishl X dX3_toggleDeck_18 ?_
  refine v_ixor X dX3_toggleDeck_19 ?_
  refine v_iast (w' := (wT h cI cII (sU S 3 p1.toNatClampNeg ((S 3 p1.toNatClampNeg) ^^^ (1 <<< (p2 &&& 31)))))) X 3 0 wT_g3 rfl (needPlayer_in c_1) dX3_toggleDeck_20 wT_s3 ?_
  refine v_aload_n X dX3_toggleDeck_21 rfl ?_
  refine v_getfield (ref := "Trumpvault") (ci := 3) (index := 43) (v := .ref (h 3)) X iX3 0 wT_g0 rfl 5 (by decide) (by decide +kernel) (fun _ h9 => h9) rfl dX3_toggleDeck_22 ?_
  refine v_iload_n X dX3_toggleDeck_25 rfl ?_
  refine v_iald X 3 0 wT_g3 rfl (needPlayer_in c_1) dX3_toggleDeck_26 ?_
  refine v_callSi0 (As := [.int ((sU S 3 p1.toNatClampNeg ((S 3 p1.toNatClampNeg) ^^^ (1 <<< (p2 &&& 31)))) 3 p1.toNatClampNeg)]) (rest := []) X (c_J6_bitCount_0f7a4 l D cI cII cL ((sU S 3 p1.toNatClampNeg ((S 3 p1.toNatClampNeg) ^^^ (1 <<< (p2 &&& 31)))) 3 p1.toNatClampNeg)) (va_cwS 1 X.2.2.2.1 gX3_toggleDeck_J6_bitCount_0f7a4 rfl rfl rfl (by decide +kernel) ⟨Nat.le_of_ble_eq_true rfl, Nat.le_of_ble_eq_true rfl⟩) rfl rfl (Nat.le_of_ble_eq_true rfl) dX3_toggleDeck_27 ⟨Nat.le_of_ble_eq_true rfl, Nat.le_of_ble_eq_true rfl⟩ ?_
  exact v_xreti X TT hr rfl (by unfold x_X3_toggleDeck; rw [if_pos c_1, if_pos c_2]) (by unfold r_X3_toggleDeck; rw [if_pos c_1, if_pos c_2]) (congrArg (fun z => (wT h cI cII z)) (by unfold s_X3_toggleDeck; rw [if_pos c_1, if_pos c_2])) (Nat.le_of_ble_eq_true rfl) (Nat.le_of_ble_eq_true rfl) dX3_toggleDeck_30

def r_X3_strength (S : St) (p1 : Int32) : Int32 :=
  (if (x_X3_needPlayer p1) = none then (r_X3_deckStrength S p1) else 0)
def x_X3_strength (S : St) (p1 : Int32) : Option String :=
  (if (x_X3_needPlayer p1) = none then none else (x_X3_needPlayer p1))
set_option maxHeartbeats 1000000 in
set_option maxRecDepth 100000 in
theorem c_X3_strength (l : Launch) (D : va_G) (cI cII cL : ClassId) (hlt : l.stackTraces = false) (h : Nat → Nat) (S : St) (p1 : Int32) (hcnt : cntC S) : v_Xi l D vwCl (tyl cI cII cL) yX3_strength wsX3_strength { frames := 7, cells := 1, slots := 6, locals := 102 } [.ref (h 0), .int p1] (wT h cI cII S) (x_X3_strength S p1) (r_X3_strength S p1) (wT h cI cII S) := by
  refine v_ofXi (cc := cX3_strength) (maxL := 2) (ret := (some .int)) (own := RX3) (lv0 := [(0, .ref (h 0)), (1, .int p1)]) hlt (by decide) rfl rfl rfl (Nat.le_of_ble_eq_true rfl) ?_
  intro p e s m below meth c X TT hr
  refine v_iload_n X dX3_strength_0 rfl ?_
  refine v_xcallSv0 (As := [.int p1]) (rest := []) X TT.2.1 (c_X3_needPlayer l D cI cII cL hlt p1) (cwS 1 X.2.2.2.1 gX3_strength_X3_needPlayer rfl rfl rfl (by decide +kernel) ⟨Nat.le_of_ble_eq_true rfl, Nat.le_of_ble_eq_true rfl⟩) rfl rfl (Nat.le_of_ble_eq_true rfl) dX3_strength_1 ⟨Nat.le_of_ble_eq_true rfl, Nat.le_of_ble_eq_true rfl⟩ (fun E q9 hx => v_outG X TT ((by have c_1 : ¬ (x_X3_needPlayer p1) = none := (by rw [hx]; exact nofun); unfold x_X3_strength; rw [if_neg c_1] : (x_X3_strength S p1) = (x_X3_needPlayer p1)).trans hx) rfl (Nat.le_of_ble_eq_true rfl) (Nat.le_of_ble_eq_true rfl)) (fun c_1 => ?_)
  refine v_aload_n X dX3_strength_4 rfl ?_
  refine v_iload_n X dX3_strength_5 rfl ?_
  refine v_callVi (As := [.int p1]) (rest := []) (w' := (wT h cI cII S)) X (c_X3_deckStrength l D cI cII cL h S p1 (needPlayer_in c_1) hcnt) (cwV 1 X.2.2.2.1 gX3_strength_X3_deckStrength rfl rfl rfl (by decide +kernel) ⟨Nat.le_of_ble_eq_true rfl, Nat.le_of_ble_eq_true rfl⟩) 0 3 rfl rfl wT_g0 rfl rfl (Nat.le_of_ble_eq_true rfl) dX3_strength_6 ⟨Nat.le_of_ble_eq_true rfl, Nat.le_of_ble_eq_true rfl⟩ ?_
  exact v_xreti X TT hr rfl (by unfold x_X3_strength; rw [if_pos c_1]) (by unfold r_X3_strength; rw [if_pos c_1]) rfl (Nat.le_of_ble_eq_true rfl) (Nat.le_of_ble_eq_true rfl) dX3_strength_9
