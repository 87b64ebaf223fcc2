def r_X3_mint (S : St) (p1 p2 : Int32) : Int32 :=
  (if (x_X3_needPlayer p1) = none then (if (x_X3_needKind p2) = none then (if (r_X1_isFull S) = 0 then (r_X1_add S p1 p2) else 0) else 0) else 0)
def s_X3_mint (S : St) (p1 p2 : Int32) : St :=
  (if (x_X3_needPlayer p1) = none then (if (x_X3_needKind p2) = none then (if (r_X1_isFull S) = 0 then (s_X2_record (s_X1_add S p1 p2) (r_X1_add S p1 p2) p1) else S) else S) else S)
def x_X3_mint (S : St) (p1 p2 : Int32) : Option String :=
  (if (x_X3_needPlayer p1) = none then (if (x_X3_needKind p2) = none then (if (r_X1_isFull S) = 0 then none else some v_E3) else (x_X3_needKind p2)) else (x_X3_needPlayer p1))
set_option maxHeartbeats 1000000 in
set_option maxRecDepth 100000 in
theorem c_X3_mint (l : Launch) (D : va_G) (cI cII cL : ClassId) (hlt : l.stackTraces = false) (h : Nat → Nat) (S : St) (p1 p2 : Int32) (hcnt : cntC S) (hhis : hisC S) : v_Xi l D vwCl (tyl cI cII cL) yX3_mint wsX3_mint { frames := 7, cells := 3, slots := 18, locals := 102 } [.ref (h 0), .int p1, .int p2] (wT h cI cII S) (x_X3_mint S p1 p2) (r_X3_mint S p1 p2) (wT h cI cII (s_X3_mint S p1 p2)) := by
  refine v_ofXi (cc := cX3_mint) (maxL := 4) (ret := (some .int)) (own := RX3) (lv0 := [(0, .ref (h 0)), (1, .int p1), (2, .int p2)]) hlt (by decide) rfl rfl rfl (Nat.le_of_ble_eq_true rfl) ?_
  intro p e s m below meth c X TT hr
  have iX3 : ∀ w ∈ wsX30, w ∈ wsX3_mint := by decide +kernel
  have tv_E3 : ∀ w ∈ (vx_atS RX3 68 v_E3 v_nm).filter goodWord, w ∈ wsX3_mint := by decide +kernel
  refine v_iload_n X dX3_mint_0 rfl ?_
  refine v_xcallSv0 (As := [.int p1]) (rest := []) X TT.2.1 (c_X3_needPlayer l D cI cII cL hlt p1) (cwS 1 X.2.2.2.1 gX3_mint_X3_needPlayer rfl rfl rfl (by decide +kernel) ⟨Nat.le_of_ble_eq_true rfl, Nat.le_of_ble_eq_true rfl⟩) rfl rfl (Nat.le_of_ble_eq_true rfl) dX3_mint_1 ⟨Nat.le_of_ble_eq_true rfl, Nat.le_of_ble_eq_true rfl⟩ (fun E q9 hx => v_outG X TT ((by have c_1 : ¬ (x_X3_needPlayer p1) = none := (by rw [hx]; exact nofun); unfold x_X3_mint; rw [if_neg c_1] : (x_X3_mint S p1 p2) = (x_X3_needPlayer p1)).trans hx) rfl (Nat.le_of_ble_eq_true rfl) (Nat.le_of_ble_eq_true rfl)) (fun c_1 => ?_)
  refine v_iload_n X dX3_mint_4 rfl ?_
  refine v_xcallSv0 (As := [.int p2]) (rest := []) X TT.2.1 (c_X3_needKind l D cI cII cL hlt p2) (cwS 1 X.2.2.2.1 gX3_mint_X3_needKind rfl rfl rfl (by decide +kernel) ⟨Nat.le_of_ble_eq_true rfl, Nat.le_of_ble_eq_true rfl⟩) rfl rfl (Nat.le_of_ble_eq_true rfl) dX3_mint_5 ⟨Nat.le_of_ble_eq_true rfl, Nat.le_of_ble_eq_true rfl⟩ (fun E q9 hx => v_outG X TT ((by have c_2 : ¬ (x_X3_needKind p2) = none := (by rw [hx]; exact nofun); unfold x_X3_mint; rw [if_pos c_1, if_neg c_2] : (x_X3_mint S p1 p2) = (x_X3_needKind p2)).trans hx) rfl (Nat.le_of_ble_eq_true rfl) (Nat.le_of_ble_eq_true rfl)) (fun c_2 => ?_)
  refine v_aload_n X dX3_mint_8 rfl ?_
  refine v_getfield (ref := "Trumpvault") (ci := 3) (index := 10) (v := .ref (h 4)) X iX3 0 wT_g0 rfl 0 (by decide) (by decide +kernel) (fun _ h9 => h9) rfl dX3_mint_9 ?_
  refine v_callVic (As := []) (rest := []) (w' := (wT h cI cII S)) X (c_X1_isFull l D cI cII cL h S ) (cwV 0 X.2.2.2.1 gX3_mint_X1_isFull rfl rfl rfl (by decide +kernel) ⟨Nat.le_of_ble_eq_true rfl, Nat.le_of_ble_eq_true rfl⟩) isCC isRC pmC (cutC h cI cII (fun _ _ => rfl)) 0 1 rfl rfl wC_g4 rfl rfl (Nat.le_of_ble_eq_true rfl) dX3_mint_12 ⟨Nat.le_of_ble_eq_true rfl, Nat.le_of_ble_eq_true rfl⟩ ?_
  refine v_if_eq (tgt := 28) X dX3_mint_15 (by decide) (fun c_3 => ?_) (fun c_3 => ?_)
  · have hadd : vp_in (S 4 8) 30 := full_in hcnt c_3
    refine v_aload_n X dX3_mint_28 rfl ?_
    refine v_getfield (ref := "Trumpvault") (ci := 3) (index := 10) (v := .ref (h 4)) X iX3 0 wT_g0 rfl 0 (by decide) (by decide +kernel) (fun _ h9 => h9) rfl dX3_mint_29 ?_
    refine v_iload_n X dX3_mint_32 rfl ?_
    refine v_iload_n X dX3_mint_33 rfl ?_
    refine v_callVic (As := [.int p1, .int p2]) (rest := []) (w' := (wT h cI cII (s_X1_add S p1 p2))) X (c_X1_add l D cI cII cL h S p1 p2 hadd) (cwV 2 X.2.2.2.1 gX3_mint_X1_add rfl rfl rfl (by decide +kernel) ⟨Nat.le_of_ble_eq_true rfl, Nat.le_of_ble_eq_true rfl⟩) isCC isRC pmC (cutC h cI cII (fr_X1_add S p1 p2)) 0 1 rfl rfl wC_g4 rfl rfl (Nat.le_of_ble_eq_true rfl) dX3_mint_34 ⟨Nat.le_of_ble_eq_true rfl, Nat.le_of_ble_eq_true rfl⟩ ?_
    refine v_istore_n (lv' := [(3, .int (r_X1_add S p1 p2)), (0, .ref (h 0)), (1, .int p1), (2, .int p2)]) X dX3_mint_37 (by decide) rfl ?_
    refine v_aload_n X dX3_mint_38 rfl ?_
    refine v_getfield (ref := "Trumpvault") (ci := 3) (index := 26) (v := .ref (h 26)) X iX3 0 wT_g0 rfl 2 (by decide) (by decide +kernel) (fun _ h9 => h9) rfl dX3_mint_39 ?_
    refine v_iload_n X dX3_mint_42 rfl ?_
    refine v_iload_n X dX3_mint_43 rfl ?_
    refine v_callVvc (As := [.int (r_X1_add S p1 p2), .int p1]) (rest := []) (w' := (wT h cI cII (s_X2_record (s_X1_add S p1 p2) (r_X1_add S p1 p2) p1))) X (c_X2_record l D cI cII cL h (s_X1_add S p1 p2) (r_X1_add S p1 p2) p1 (his_of (show (s_X1_add S p1 p2) 26 = S 26 from rfl) hhis)) (cwV 2 X.2.2.2.1 gX3_mint_X2_record rfl rfl rfl (by decide +kernel) ⟨Nat.le_of_ble_eq_true rfl, Nat.le_of_ble_eq_true rfl⟩) isCH isRH pmH (cutH h cI cII (fr_X2_record (s_X1_add S p1 p2) (r_X1_add S p1 p2) p1)) 0 2 rfl rfl wH_g26 rfl rfl (Nat.le_of_ble_eq_true rfl) dX3_mint_44 ⟨Nat.le_of_ble_eq_true rfl, Nat.le_of_ble_eq_true rfl⟩ ?_
    refine v_iload_n X dX3_mint_47 rfl ?_
    exact v_xreti X TT hr rfl (by unfold x_X3_mint; rw [if_pos c_1, if_pos c_2, if_pos c_3]) (by unfold r_X3_mint; rw [if_pos c_1, if_pos c_2, if_pos c_3]) (congrArg (fun z => (wT h cI cII z)) (by unfold s_X3_mint; rw [if_pos c_1, if_pos c_2, if_pos c_3])) (Nat.le_of_ble_eq_true rfl) (Nat.le_of_ble_eq_true rfl) dX3_mint_48
  · exact v_throwG (is := 66) (text := "there are as many cards as there can be") X TT v_EL3 (by decide +kernel) (by decide +kernel) tv_E3 (by decide +kernel) dX3_mint_18 dX3_mint_21 dX3_mint_22 dX3_mint_24 dX3_mint_27 (by unfold x_X3_mint; rw [if_pos c_1, if_pos c_2, if_neg c_3]) rfl ⟨Nat.le_of_ble_eq_true rfl, Nat.le_of_ble_eq_true rfl, Nat.le_of_ble_eq_true rfl, Nat.le_of_ble_eq_true rfl⟩ (Nat.le_of_ble_eq_true rfl) (Nat.le_of_ble_eq_true rfl)

def r_X3_owner (S : St) (p1 : Int32) : Int32 :=
  (if (x_X3_needCard S p1) = none then (S 6 p1.toNatClampNeg) else 0)
def x_X3_owner (S : St) (p1 : Int32) : Option String :=
  (if (x_X3_needCard S p1) = none then none else (x_X3_needCard S p1))
set_option maxHeartbeats 1000000 in
set_option maxRecDepth 100000 in
theorem c_X3_owner (l : Launch) (D : va_G) (cI cII cL : ClassId) (hlt : l.stackTraces = false) (h : Nat → Nat) (S : St) (p1 : Int32) (hcnt : cntC S) : v_Xi l D vwCl (tyl cI cII cL) yX3_owner wsX3_owner { frames := 7, cells := 1, slots := 6, locals := 103 } [.ref (h 0), .int p1] (wT h cI cII S) (x_X3_owner S p1) (r_X3_owner S p1) (wT h cI cII S) := by
  refine v_ofXi (cc := cX3_owner) (maxL := 2) (ret := (some .int)) (own := RX3) (lv0 := [(0, .ref (h 0)), (1, .int p1)]) hlt (by decide) rfl rfl rfl (Nat.le_of_ble_eq_true rfl) ?_
  intro p e s m below meth c X TT hr
  have iX1 : ∀ w ∈ wsX10, w ∈ wsX3_owner := by decide +kernel
  have iX3 : ∀ w ∈ wsX30, w ∈ wsX3_owner := by decide +kernel
  refine v_aload_n X dX3_owner_0 rfl ?_
  refine v_iload_n X dX3_owner_1 rfl ?_
  refine v_xcallVv (As := [.int p1]) (rest := []) (w' := (wT h cI cII S)) X TT.2.1 (c_X3_needCard l D cI cII cL hlt h S p1) (cwV 1 X.2.2.2.1 gX3_owner_X3_needCard rfl rfl rfl (by decide +kernel) ⟨Nat.le_of_ble_eq_true rfl, Nat.le_of_ble_eq_true rfl⟩) 0 3 rfl rfl wT_g0 rfl rfl (Nat.le_of_ble_eq_true rfl) dX3_owner_2 ⟨Nat.le_of_ble_eq_true rfl, Nat.le_of_ble_eq_true rfl⟩ (fun E q9 hx => v_outG X TT ((by have c_1 : ¬ (x_X3_needCard S p1) = none := (by rw [hx]; exact nofun); unfold x_X3_owner; rw [if_neg c_1] : (x_X3_owner S p1) = (x_X3_needCard S p1)).trans hx) rfl (Nat.le_of_ble_eq_true rfl) (Nat.le_of_ble_eq_true rfl)) (fun c_1 => ?_)
  refine v_aload_n X dX3_owner_5 rfl ?_
  refine v_getfield (ref := "Trumpvault") (ci := 3) (index := 10) (v := .ref (h 4)) X iX3 0 wT_g0 rfl 0 (by decide) (by decide +kernel) (fun _ h9 => h9) rfl dX3_owner_6 ?_
  refine v_getfield (ref := "Trumpvault$Cards") (ci := 1) (index := 82) (v := .ref (h 6)) X iX1 4 wT_g4 rfl 1 (by decide) (by decide +kernel) (fun _ h9 => h9) rfl dX3_owner_9 ?_
  refine v_iload_n X dX3_owner_12 rfl ?_
  refine v_iald X 6 0 wT_g6 rfl (needCard_in hcnt c_1) dX3_owner_13 ?_
  exact v_xreti X TT hr rfl (by unfold x_X3_owner; rw [if_pos c_1]) (by unfold r_X3_owner; rw [if_pos c_1]) rfl (Nat.le_of_ble_eq_true rfl) (Nat.le_of_ble_eq_true rfl) dX3_owner_14

def r_X3_ownerByHistory (S : St) (p1 : Int32) : Int32 :=
  (if (x_X3_needCard S p1) = none then (r_X2_lastOwner S p1) else 0)
def x_X3_ownerByHistory (S : St) (p1 : Int32) : Option String :=
  (if (x_X3_needCard S p1) = none then none else (x_X3_needCard S p1))
set_option maxHeartbeats 1000000 in
set_option maxRecDepth 100000 in
theorem c_X3_ownerByHistory (l : Launch) (D : va_G) (cI cII cL : ClassId) (hlt : l.stackTraces = false) (h : Nat → Nat) (S : St) (p1 : Int32) (hcnt : cntC S) (hhis : hisC S) : v_Xi l D vwCl (tyl cI cII cL) yX3_ownerByHistory wsX3_ownerByHistory { frames := 7, cells := 1, slots := 6, locals := 103 } [.ref (h 0), .int p1] (wT h cI cII S) (x_X3_ownerByHistory S p1) (r_X3_ownerByHistory S p1) (wT h cI cII S) := by
  refine v_ofXi (cc := cX3_ownerByHistory) (maxL := 2) (ret := (some .int)) (own := RX3) (lv0 := [(0, .ref (h 0)), (1, .int p1)]) hlt (by decide) rfl rfl rfl (Nat.le_of_ble_eq_true rfl) ?_
  intro p e s m below meth c X TT hr
  have iX3 : ∀ w ∈ wsX30, w ∈ wsX3_ownerByHistory := by decide +kernel
  refine v_aload_n X dX3_ownerByHistory_0 rfl ?_
  refine v_iload_n X dX3_ownerByHistory_1 rfl ?_
  refine v_xcallVv (As := [.int p1]) (rest := []) (w' := (wT h cI cII S)) X TT.2.1 (c_X3_needCard l D cI cII cL hlt h S p1) (cwV 1 X.2.2.2.1 gX3_ownerByHistory_X3_needCard rfl rfl rfl (by decide +kernel) ⟨Nat.le_of_ble_eq_true rfl, Nat.le_of_ble_eq_true rfl⟩) 0 3 rfl rfl wT_g0 rfl rfl (Nat.le_of_ble_eq_true rfl) dX3_ownerByHistory_2 ⟨Nat.le_of_ble_eq_true rfl, Nat.le_of_ble_eq_true rfl⟩ (fun E q9 hx => v_outG X TT ((by have c_1 : ¬ (x_X3_needCard S p1) = none := (by rw [hx]; exact nofun); unfold x_X3_ownerByHistory; rw [if_neg c_1] : (x_X3_ownerByHistory S p1) = (x_X3_needCard S p1)).trans hx) rfl (Nat.le_of_ble_eq_true rfl) (Nat.le_of_ble_eq_true rfl)) (fun c_1 => ?_)
  refine v_aload_n X dX3_ownerByHistory_5 rfl ?_
  refine v_getfield (ref := "Trumpvault") (ci := 3) (index := 26) (v := .ref (h 26)) X iX3 0 wT_g0 rfl 2 (by decide) (by decide +kernel) (fun _ h9 => h9) rfl dX3_ownerByHistory_6 ?_
  refine v_iload_n X dX3_ownerByHistory_9 rfl ?_
  refine v_callVic (As := [.int p1]) (rest := []) (w' := (wT h cI cII S)) X (c_X2_lastOwner l D cI cII cL h S p1 hhis) (cwV 1 X.2.2.2.1 gX3_ownerByHistory_X2_lastOwner rfl rfl rfl (by decide +kernel) ⟨Nat.le_of_ble_eq_true rfl, Nat.le_of_ble_eq_true rfl⟩) isCH isRH pmH (cutH h cI cII (fun _ _ => rfl)) 0 2 rfl rfl wH_g26 rfl rfl (Nat.le_of_ble_eq_true rfl) dX3_ownerByHistory_10 ⟨Nat.le_of_ble_eq_true rfl, Nat.le_of_ble_eq_true rfl⟩ ?_
  exact v_xreti X TT hr rfl (by unfold x_X3_ownerByHistory; rw [if_pos c_1]) (by unfold r_X3_ownerByHistory; rw [if_pos c_1]) rfl (Nat.le_of_ble_eq_true rfl) (Nat.le_of_ble_eq_true rfl) dX3_ownerByHistory_13

def r_X3_holder (S : St) (p1 : Int32) : Int32 :=
  (if (x_X3_needCard S p1) = none then (r_X1_holderOf S p1) else 0)
def x_X3_holder (S : St) (p1 : Int32) : Option String :=
  (if (x_X3_needCard S p1) = none then none else (x_X3_needCard S p1))
set_option maxHeartbeats 1000000 in
set_option maxRecDepth 100000 in
theorem c_X3_holder (l : Launch) (D : va_G) (cI cII cL : ClassId) (hlt : l.stackTraces = false) (h : Nat → Nat) (S : St) (p1 : Int32) (hcnt : cntC S) : v_Xi l D vwCl (tyl cI cII cL) yX3_holder wsX3_holder { frames := 7, cells := 1, slots := 6, locals := 103 } [.ref (h 0), .int p1] (wT h cI cII S) (x_X3_holder S p1) (r_X3_holder S p1) (wT h cI cII S) := by
  refine v_ofXi (cc := cX3_holder) (maxL := 2) (ret := (some .int)) (own := RX3) (lv0 := [(0, .ref (h 0)), (1, .int p1)]) hlt (by decide) rfl rfl rfl (Nat.le_of_ble_eq_true rfl) ?_
  intro p e s m below meth c X TT hr
  have iX3 : ∀ w ∈ wsX30, w ∈ wsX3_holder := by decide +kernel
  refine v_aload_n X dX3_holder_0 rfl ?_
  refine v_iload_n X dX3_holder_1 rfl ?_
  refine v_xcallVv (As := [.int p1]) (rest := []) (w' := (wT h cI cII S)) X TT.2.1 (c_X3_needCard l D cI cII cL hlt h S p1) (cwV 1 X.2.2.2.1 gX3_holder_X3_needCard rfl rfl rfl (by decide +kernel) ⟨Nat.le_of_ble_eq_true rfl, Nat.le_of_ble_eq_true rfl⟩) 0 3 rfl rfl wT_g0 rfl rfl (Nat.le_of_ble_eq_true rfl) dX3_holder_2 ⟨Nat.le_of_ble_eq_true rfl, Nat.le_of_ble_eq_true rfl⟩ (fun E q9 hx => v_outG X TT ((by have c_1 : ¬ (x_X3_needCard S p1) = none := (by rw [hx]; exact nofun); unfold x_X3_holder; rw [if_neg c_1] : (x_X3_holder S p1) = (x_X3_needCard S p1)).trans hx) rfl (Nat.le_of_ble_eq_true rfl) (Nat.le_of_ble_eq_true rfl)) (fun c_1 => ?_)
  refine v_aload_n X dX3_holder_5 rfl ?_
  refine v_getfield (ref := "Trumpvault") (ci := 3) (index := 10) (v := .ref (h 4)) X iX3 0 wT_g0 rfl 0 (by decide) (by decide +kernel) (fun _ h9 => h9) rfl dX3_holder_6 ?_
  refine v_iload_n X dX3_holder_9 rfl ?_
  refine v_callVic (As := [.int p1]) (rest := []) (w' := (wT h cI cII S)) X (c_X1_holderOf l D cI cII cL h S p1 (needCard_in hcnt c_1)) (cwV 1 X.2.2.2.1 gX3_holder_X1_holderOf rfl rfl rfl (by decide +kernel) ⟨Nat.le_of_ble_eq_true rfl, Nat.le_of_ble_eq_true rfl⟩) isCC isRC pmC (cutC h cI cII (fun _ _ => rfl)) 0 1 rfl rfl wC_g4 rfl rfl (Nat.le_of_ble_eq_true rfl) dX3_holder_10 ⟨Nat.le_of_ble_eq_true rfl, Nat.le_of_ble_eq_true rfl⟩ ?_
  exact v_xreti X TT hr rfl (by unfold x_X3_holder; rw [if_pos c_1]) (by unfold r_X3_holder; rw [if_pos c_1]) rfl (Nat.le_of_ble_eq_true rfl) (Nat.le_of_ble_eq_true rfl) dX3_holder_13

def r_X3_stateOf (S : St) (p1 : Int32) : Int32 :=
  (if (x_X3_needCard S p1) = none then (S 7 p1.toNatClampNeg) else 0)
def x_X3_stateOf (S : St) (p1 : Int32) : Option String :=
  (if (x_X3_needCard S p1) = none then none else (x_X3_needCard S p1))
set_option maxHeartbeats 1000000 in
set_option maxRecDepth 100000 in
theorem c_X3_stateOf (l : Launch) (D : va_G) (cI cII cL : ClassId) (hlt : l.stackTraces = false) (h : Nat → Nat) (S : St) (p1 : Int32) (hcnt : cntC S) : v_Xi l D vwCl (tyl cI cII cL) yX3_stateOf wsX3_stateOf { frames := 7, cells := 1, slots := 6, locals := 103 } [.ref (h 0), .int p1] (wT h cI cII S) (x_X3_stateOf S p1) (r_X3_stateOf S p1) (wT h cI cII S) := by
  refine v_ofXi (cc := cX3_stateOf) (maxL := 2) (ret := (some .int)) (own := RX3) (lv0 := [(0, .ref (h 0)), (1, .int p1)]) hlt (by decide) rfl rfl rfl (Nat.le_of_ble_eq_true rfl) ?_
  intro p e s m below meth c X TT hr
  have iX1 : ∀ w ∈ wsX10, w ∈ wsX3_stateOf := by decide +kernel
  have iX3 : ∀ w ∈ wsX30, w ∈ wsX3_stateOf := by decide +kernel
  refine v_aload_n X dX3_stateOf_0 rfl ?_
  refine v_iload_n X dX3_stateOf_1 rfl ?_
  refine v_xcallVv (As := [.int p1]) (rest := []) (w' := (wT h cI cII S)) X TT.2.1 (c_X3_needCard l D cI cII cL hlt h S p1) (cwV 1 X.2.2.2.1 gX3_stateOf_X3_needCard rfl rfl rfl (by decide +kernel) ⟨Nat.le_of_ble_eq_true rfl, Nat.le_of_ble_eq_true rfl⟩) 0 3 rfl rfl wT_g0 rfl rfl (Nat.le_of_ble_eq_true rfl) dX3_stateOf_2 ⟨Nat.le_of_ble_eq_true rfl, Nat.le_of_ble_eq_true rfl⟩ (fun E q9 hx => v_outG X TT ((by have c_1 : ¬ (x_X3_needCard S p1) = none := (by rw [hx]; exact nofun); unfold x_X3_stateOf; rw [if_neg c_1] : (x_X3_stateOf S p1) = (x_X3_needCard S p1)).trans hx) rfl (Nat.le_of_ble_eq_true rfl) (Nat.le_of_ble_eq_true rfl)) (fun c_1 => ?_)
  refine v_aload_n X dX3_stateOf_5 rfl ?_
  refine v_getfield (ref := "Trumpvault") (ci := 3) (index := 10) (v := .ref (h 4)) X iX3 0 wT_g0 rfl 0 (by decide) (by decide +kernel) (fun _ h9 => h9) rfl dX3_stateOf_6 ?_
  refine v_getfield (ref := "Trumpvault$Cards") (ci := 1) (index := 92) (v := .ref (h 7)) X iX1 4 wT_g4 rfl 2 (by decide) (by decide +kernel) (fun _ h9 => h9) rfl dX3_stateOf_9 ?_
  refine v_iload_n X dX3_stateOf_12 rfl ?_
  refine v_iald X 7 0 wT_g7 rfl (needCard_in hcnt c_1) dX3_stateOf_13 ?_
  exact v_xreti X TT hr rfl (by unfold x_X3_stateOf; rw [if_pos c_1]) (by unfold r_X3_stateOf; rw [if_pos c_1]) rfl (Nat.le_of_ble_eq_true rfl) (Nat.le_of_ble_eq_true rfl) dX3_stateOf_14

def r_X3_coins (S : St) (p1 : Int32) : Int32 :=
  (if (x_X3_needPlayer p1) = none then (S 1 p1.toNatClampNeg) else 0)
def x_X3_coins (S : St) (p1 : Int32) : Option String :=
  (if (x_X3_needPlayer p1) = none then none else (x_X3_needPlayer p1))
set_option maxHeartbeats 1000000 in
set_option maxRecDepth 100000 in
theorem c_X3_coins (l : Launch) (D : va_G) (cI cII cL : ClassId) (hlt : l.stackTraces = false) (h : Nat → Nat) (S : St) (p1 : Int32) : v_Xi l D vwCl (tyl cI cII cL) yX3_coins wsX3_coins { frames := 7, cells := 1, slots := 6, locals := 102 } [.ref (h 0), .int p1] (wT h cI cII S) (x_X3_coins S p1) (r_X3_coins S p1) (wT h cI cII S) := by
  refine v_ofXi (cc := cX3_coins) (maxL := 2) (ret := (some .int)) (own := RX3) (lv0 := [(0, .ref (h 0)), (1, .int p1)]) hlt (by decide) rfl rfl rfl (Nat.le_of_ble_eq_true rfl) ?_
  intro p e s m below meth c X TT hr
  have iX3 : ∀ w ∈ wsX30, w ∈ wsX3_coins := by decide +kernel
  refine v_iload_n X dX3_coins_0 rfl ?_
  refine v_xcallSv0 (As := [.int p1]) (rest := []) X TT.2.1 (c_X3_needPlayer l D cI cII cL hlt p1) (cwS 1 X.2.2.2.1 gX3_coins_X3_needPlayer rfl rfl rfl (by decide +kernel) ⟨Nat.le_of_ble_eq_true rfl, Nat.le_of_ble_eq_true rfl⟩) rfl rfl (Nat.le_of_ble_eq_true rfl) dX3_coins_1 ⟨Nat.le_of_ble_eq_true rfl, Nat.le_of_ble_eq_true rfl⟩ (fun E q9 hx => v_outG X TT ((by have c_1 : ¬ (x_X3_needPlayer p1) = none := (by rw [hx]; exact nofun); unfold x_X3_coins; rw [if_neg c_1] : (x_X3_coins S p1) = (x_X3_needPlayer p1)).trans hx) rfl (Nat.le_of_ble_eq_true rfl) (Nat.le_of_ble_eq_true rfl)) (fun c_1 => ?_)
  refine v_aload_n X dX3_coins_4 rfl ?_
  refine v_getfield (ref := "Trumpvault") (ci := 3) (index := 30) (v := .ref (h 1)) X iX3 0 wT_g0 rfl 3 (by decide) (by decide +kernel) (fun _ h9 => h9) rfl dX3_coins_5 ?_
  refine v_iload_n X dX3_coins_8 rfl ?_
  refine v_iald X 1 0 wT_g1 rfl (needPlayer_in c_1) dX3_coins_9 ?_
  exact v_xreti X TT hr rfl (by unfold x_X3_coins; rw [if_pos c_1]) (by unfold r_X3_coins; rw [if_pos c_1]) rfl (Nat.le_of_ble_eq_true rfl) (Nat.le_of_ble_eq_true rfl) dX3_coins_10

def r_X3_sell (S : St) (p1 p2 : Int32) : Int32 :=
  (if (x_X3_needCard S p1) = none then (if (x_X3_needPrice p2) = none then (if (S 7 p1.toNatClampNeg) = 0 then (if (r_X3_bannedToday S (S 5 p1.toNatClampNeg)) = 0 then (if (r_X0_bestBidder S (S 5 p1.toNatClampNeg) (S 6 p1.toNatClampNeg)) = (-1) then 0 else (if p2 ≤ (S (15 + (r_X0_bestBidder S (S 5 p1.toNatClampNeg) (S 6 p1.toNatClampNeg)).toNatClampNeg) (S 5 p1.toNatClampNeg).toNatClampNeg) then (r_X0_take S (r_X0_bestBidder S (S 5 p1.toNatClampNeg) (S 6 p1.toNatClampNeg)) (S 5 p1.toNatClampNeg)) else 0)) else 0) else 0) else 0) else 0)
def s_X3_sell (S : St) (p1 p2 : Int32) : St :=
  (if (x_X3_needCard S p1) = none then (if (x_X3_needPrice p2) = none then (if (S 7 p1.toNatClampNeg) = 0 then (if (r_X3_bannedToday S (S 5 p1.toNatClampNeg)) = 0 then (if (r_X0_bestBidder S (S 5 p1.toNatClampNeg) (S 6 p1.toNatClampNeg)) = (-1) then (sU (s_X1_putSale S p1 p2 (S 0 6)) 0 6 (((s_X1_putSale S p1 p2 (S 0 6)) 0 6) + 1)) else (if p2 ≤ (S (15 + (r_X0_bestBidder S (S 5 p1.toNatClampNeg) (S 6 p1.toNatClampNeg)).toNatClampNeg) (S 5 p1.toNatClampNeg).toNatClampNeg) then (s_X3_giveTo (sU (s_X0_take S (r_X0_bestBidder S (S 5 p1.toNatClampNeg) (S 6 p1.toNatClampNeg)) (S 5 p1.toNatClampNeg)) 1 ((s_X0_take S (r_X0_bestBidder S (S 5 p1.toNatClampNeg) (S 6 p1.toNatClampNeg)) (S 5 p1.toNatClampNeg)) 6 p1.toNatClampNeg).toNatClampNeg (((s_X0_take S (r_X0_bestBidder S (S 5 p1.toNatClampNeg) (S 6 p1.toNatClampNeg)) (S 5 p1.toNatClampNeg)) 1 ((s_X0_take S (r_X0_bestBidder S (S 5 p1.toNatClampNeg) (S 6 p1.toNatClampNeg)) (S 5 p1.toNatClampNeg)) 6 p1.toNatClampNeg).toNatClampNeg) + (r_X0_take S (r_X0_bestBidder S (S 5 p1.toNatClampNeg) (S 6 p1.toNatClampNeg)) (S 5 p1.toNatClampNeg)))) p1 (r_X0_bestBidder S (S 5 p1.toNatClampNeg) (S 6 p1.toNatClampNeg))) else (sU (s_X1_putSale S p1 p2 (S 0 6)) 0 6 (((s_X1_putSale S p1 p2 (S 0 6)) 0 6) + 1)))) else S) else S) else S) else S)
def x_X3_sell (S : St) (p1 p2 : Int32) : Option String :=
  (if (x_X3_needCard S p1) = none then (if (x_X3_needPrice p2) = none then (if (S 7 p1.toNatClampNeg) = 0 then (if (r_X3_bannedToday S (S 5 p1.toNatClampNeg)) = 0 then (if (r_X0_bestBidder S (S 5 p1.toNatClampNeg) (S 6 p1.toNatClampNeg)) = (-1) then none else (if p2 ≤ (S (15 + (r_X0_bestBidder S (S 5 p1.toNatClampNeg) (S 6 p1.toNatClampNeg)).toNatClampNeg) (S 5 p1.toNatClampNeg).toNatClampNeg) then none else none)) else some v_E3) else some v_E3) else (x_X3_needPrice p2)) else (x_X3_needCard S p1))
set_option maxHeartbeats 1000000 in
set_option maxRecDepth 100000 in
theorem c_X3_sell (l : Launch) (D : va_G) (cI cII cL : ClassId) (hlt : l.stackTraces = false) (h : Nat → Nat) (S : St) (p1 p2 : Int32) (hcnt : cntC S) (hhis : hisC S) (hkin : ∀ j, vp_in (S 5 j) 8) (hown : ∀ j, vp_in (S 6 j) 5) : v_Xi l D vwCl (tyl cI cII cL) yX3_sell wsX3_sell { frames := 7, cells := 3, slots := 18, locals := 103 } [.ref (h 0), .int p1, .int p2] (wT h cI cII S) (x_X3_sell S p1 p2) (r_X3_sell S p1 p2) (wT h cI cII (s_X3_sell S p1 p2)) := by
  refine v_ofXi (cc := cX3_sell) (maxL := 6) (ret := (some .int)) (own := RX3) (lv0 := [(0, .ref (h 0)), (1, .int p1), (2, .int p2)]) hlt (by decide) rfl rfl rfl (Nat.le_of_ble_eq_true rfl) ?_
  intro p e s m below meth c X TT hr
  have iX0 : ∀ w ∈ wsX00, w ∈ wsX3_sell := by decide +kernel
  have iX1 : ∀ w ∈ wsX10, w ∈ wsX3_sell := by decide +kernel
  have iX3 : ∀ w ∈ wsX30, w ∈ wsX3_sell := by decide +kernel
  have tv_E3 : ∀ w ∈ (vx_atS RX3 68 v_E3 v_nm).filter goodWord, w ∈ wsX3_sell := by decide +kernel
  refine v_aload_n X dX3_sell_0 rfl ?_
  refine v_iload_n X dX3_sell_1 rfl ?_
  refine v_xcallVv (As := [.int p1]) (rest := []) (w' := (wT h cI cII S)) X TT.2.1 (c_X3_needCard l D cI cII cL hlt h S p1) (cwV 1 X.2.2.2.1 gX3_sell_X3_needCard rfl rfl rfl (by decide +kernel) ⟨Nat.le_of_ble_eq_true rfl, Nat.le_of_ble_eq_true rfl⟩) 0 3 rfl rfl wT_g0 rfl rfl (Nat.le_of_ble_eq_true rfl) dX3_sell_2 ⟨Nat.le_of_ble_eq_true rfl, Nat.le_of_ble_eq_true rfl⟩ (fun E q9 hx => v_outG X TT ((by have c_1 : ¬ (x_X3_needCard S p1) = none := (by rw [hx]; exact nofun); unfold x_X3_sell; rw [if_neg c_1] : (x_X3_sell S p1 p2) = (x_X3_needCard S p1)).trans hx) rfl (Nat.le_of_ble_eq_true rfl) (Nat.le_of_ble_eq_true rfl)) (fun c_1 => ?_)
  refine v_iload_n X dX3_sell_5 rfl ?_
  refine v_xcallSv0 (As := [.int p2]) (rest := []) X TT.2.1 (c_X3_needPrice l D cI cII cL hlt p2) (cwS 1 X.2.2.2.1 gX3_sell_X3_needPrice rfl rfl rfl (by decide +kernel) ⟨Nat.le_of_ble_eq_true rfl, Nat.le_of_ble_eq_true rfl⟩) rfl rfl (Nat.le_of_ble_eq_true rfl) dX3_sell_6 ⟨Nat.le_of_ble_eq_true rfl, Nat.le_of_ble_eq_true rfl⟩ (fun E q9 hx => v_outG X TT ((by have c_2 : ¬ (x_X3_needPrice p2) = none := (by rw [hx]; exact nofun); unfold x_X3_sell; rw [if_pos c_1, if_neg c_2] : (x_X3_sell S p1 p2) = (x_X3_needPrice p2)).trans hx) rfl (Nat.le_of_ble_eq_true rfl) (Nat.le_of_ble_eq_true rfl)) (fun c_2 => ?_)
  refine v_aload_n X dX3_sell_9 rfl ?_
  refine v_getfield (ref := "Trumpvault") (ci := 3) (index := 10) (v := .ref (h 4)) X iX3 0 wT_g0 rfl 0 (by decide) (by decide +kernel) (fun _ h9 => h9) rfl dX3_sell_10 ?_
  refine v_getfield (ref := "Trumpvault$Cards") (ci := 1) (index := 98) (v := .ref (h 5)) X iX1 4 wT_g4 rfl 0 (by decide) (by decide +kernel) (fun _ h9 => h9) rfl dX3_sell_13 ?_
  refine v_iload_n X dX3_sell_16 rfl ?_
  refine v_iald X 5 0 wT_g5 rfl (needCard_in hcnt c_1) dX3_sell_17 ?_
  refine v_istore_n (lv' := [(3, .int (S 5 p1.toNatClampNeg)), (0, .ref (h 0)), (1, .int p1), (2, .int p2)]) X dX3_sell_18 (by decide) rfl ?_
  refine v_aload_n X dX3_sell_19 rfl ?_
  refine v_getfield (ref := "Trumpvault") (ci := 3) (index := 10) (v := .ref (h 4)) X iX3 0 wT_g0 rfl 0 (by decide) (by decide +kernel) (fun _ h9 => h9) rfl dX3_sell_20 ?_
  refine v_getfield (ref := "Trumpvault$Cards") (ci := 1) (index := 92) (v := .ref (h 7)) X iX1 4 wT_g4 rfl 2 (by decide) (by decide +kernel) (fun _ h9 => h9) rfl dX3_sell_23 ?_
  refine v_iload_n X dX3_sell_26 rfl ?_
  refine v_iald X 7 0 wT_g7 rfl (needCard_in hcnt c_1) dX3_sell_27 ?_
  refine v_if_ne (tgt := 39) X dX3_sell_28 (by decide) (fun c_3 => ?_) (fun c_3 => ?_)
  · exact v_throwG (is := 105) (text := "the card is not free, or its kind is banned") X TT v_EL3 (by decide +kernel) (by decide +kernel) tv_E3 (by decide +kernel) dX3_sell_39 dX3_sell_42 dX3_sell_43 dX3_sell_45 dX3_sell_48 (by unfold x_X3_sell; rw [if_pos c_1, if_pos c_2, if_neg c_3]) rfl ⟨Nat.le_of_ble_eq_true rfl, Nat.le_of_ble_eq_true rfl, Nat.le_of_ble_eq_true rfl, Nat.le_of_ble_eq_true rfl⟩ (Nat.le_of_ble_eq_true rfl) (Nat.le_of_ble_eq_true rfl)
  · refine v_aload_n X dX3_sell_31 rfl ?_
    refine v_iload_n X dX3_sell_32 rfl ?_
    refine v_callVi (As := [.int (S 5 p1.toNatClampNeg)]) (rest := []) (w' := (wT h cI cII S)) X (c_X3_bannedToday l D cI cII cL h S (S 5 p1.toNatClampNeg) (hkin _)) (cwV 1 X.2.2.2.1 gX3_sell_X3_bannedToday rfl rfl rfl (by decide +kernel) ⟨Nat.le_of_ble_eq_true rfl, Nat.le_of_ble_eq_true rfl⟩) 0 3 rfl rfl wT_g0 rfl rfl (Nat.le_of_ble_eq_true rfl) dX3_sell_33 ⟨Nat.le_of_ble_eq_true rfl, Nat.le_of_ble_eq_true rfl⟩ ?_
    refine v_if_eq (tgt := 49) X dX3_sell_36 (by decide) (fun c_4 => ?_) (fun c_4 => ?_)
    · refine v_aload_n X dX3_sell_49 rfl ?_
      refine v_getfield (ref := "Trumpvault") (ci := 3) (index := 19) (v := .ref (h 13)) X iX3 0 wT_g0 rfl 1 (by decide) (by decide +kernel) (fun _ h9 => h9) rfl dX3_sell_50 ?_
      refine v_iload_n X dX3_sell_53 rfl ?_
      refine v_aload_n X dX3_sell_54 rfl ?_
      refine v_getfield (ref := "Trumpvault") (ci := 3) (index := 10) (v := .ref (h 4)) X iX3 0 wT_g0 rfl 0 (by decide) (by decide +kernel) (fun _ h9 => h9) rfl dX3_sell_55 ?_
      refine v_getfield (ref := "Trumpvault$Cards") (ci := 1) (index := 82) (v := .ref (h 6)) X iX1 4 wT_g4 rfl 1 (by decide) (by decide +kernel) (fun _ h9 => h9) rfl dX3_sell_58 ?_
      refine v_iload_n X dX3_sell_61 rfl ?_
      refine v_iald X 6 0 wT_g6 rfl (needCard_in hcnt c_1) dX3_sell_62 ?_
      refine v_callVic (As := [.int (S 5 p1.toNatClampNeg), .int (S 6 p1.toNatClampNeg)]) (rest := []) (w' := (wT h cI cII S)) X (c_X0_bestBidder l D cI cII cL h S (S 5 p1.toNatClampNeg) (S 6 p1.toNatClampNeg) (hkin _)) (cwV 2 X.2.2.2.1 gX3_sell_X0_bestBidder rfl rfl rfl (by decide +kernel) ⟨Nat.le_of_ble_eq_true rfl, Nat.le_of_ble_eq_true rfl⟩) isCB isRB pmB (cutB h cI cII (fun _ _ => rfl)) 0 0 rfl rfl wB_g13 rfl rfl (Nat.le_of_ble_eq_true rfl) dX3_sell_63 ⟨Nat.le_of_ble_eq_true rfl, Nat.le_of_ble_eq_true rfl⟩ ?_
      refine v_istore (lv' := [(4, .int (r_X0_bestBidder S (S 5 p1.toNatClampNeg) (S 6 p1.toNatClampNeg))), (3, .int (S 5 p1.toNatClampNeg)), (0, .ref (h 0)), (1, .int p1), (2, .int p2)]) X dX3_sell_66 (by decide) rfl ?_
      refine v_iload X dX3_sell_68 rfl ?_
      refine v_iconst (x := (-1)) X dX3_sell_70 rfl ?_
      refine v_icmp_eq (tgt := 90) X dX3_sell_71 (by decide) (fun c_5 => ?_) (fun c_5 => ?_)
      · refine v_aload_n X dX3_sell_90 rfl ?_
        refine v_getfield (ref := "Trumpvault") (ci := 3) (index := 10) (v := .ref (h 4)) X iX3 0 wT_g0 rfl 0 (by decide) (by decide +kernel) (fun _ h9 => h9) rfl dX3_sell_91 ?_
        refine v_iload_n X dX3_sell_94 rfl ?_
        refine v_iload_n X dX3_sell_95 rfl ?_
        refine v_aload_n X dX3_sell_96 rfl ?_
        refine v_getfield (ref := "Trumpvault") (ci := 3) (index := 46) (v := .int (S 0 6)) X iX3 0 wT_g0 rfl 6 (by decide) (by decide +kernel) (fun _ h9 => h9) rfl dX3_sell_97 ?_
        refine v_callVvc (As := [.int p1, .int p2, .int (S 0 6)]) (rest := []) (w' := (wT h cI cII (s_X1_putSale S p1 p2 (S 0 6)))) X (c_X1_putSale l D cI cII cL h S p1 p2 (S 0 6) (needCard_in hcnt c_1)) (cwV 3 X.2.2.2.1 gX3_sell_X1_putSale rfl rfl rfl (by decide +kernel) ⟨Nat.le_of_ble_eq_true rfl, Nat.le_of_ble_eq_true rfl⟩) isCC isRC pmC (cutC h cI cII (fr_X1_putSale S p1 p2 (S 0 6))) 0 1 rfl rfl wC_g4 rfl rfl (Nat.le_of_ble_eq_true rfl) dX3_sell_100 ⟨Nat.le_of_ble_eq_true rfl, Nat.le_of_ble_eq_true rfl⟩ ?_
        refine v_aload_n X dX3_sell_103 rfl ?_
        refine v_dup X dX3_sell_104 rfl ?_
        refine v_getfield (ref := "Trumpvault") (ci := 3) (index := 46) (v := .int ((s_X1_putSale S p1 p2 (S 0 6)) 0 6)) X iX3 0 wT_g0 rfl 6 (by decide) (by decide +kernel) (fun _ h9 => h9) rfl dX3_sell_105 ?_
        refine v_iconst (x := 1) X dX3_sell_108 rfl ?_
        refine v_iadd X dX3_sell_109 ?_
        refine v_putfield (w' := (wT h cI cII (sU (s_X1_putSale S p1 p2 (S 0 6)) 0 6 (((s_X1_putSale S p1 p2 (S 0 6)) 0 6) + 1)))) (ref := "Trumpvault") (ci := 3) (index := 46) (ty := .int) X iX3 tyX3 tyX3_ok nmX3 0 wT_g0 rfl 6 (by decide) (by decide +kernel) (fun _ h9 => h9) rfl (by decide +kernel) rfl rfl (Nat.le_of_ble_eq_true rfl) dX3_sell_110 wT_f0_6 ?_
        refine v_iconst (x := 0) X dX3_sell_113 rfl ?_
        exact v_xreti X TT hr rfl (by unfold x_X3_sell; rw [if_pos c_1, if_pos c_2, if_pos c_3, if_pos c_4, if_pos c_5]) (by unfold r_X3_sell; rw [if_pos c_1, if_pos c_2, if_pos c_3, if_pos c_4, if_pos c_5]) (congrArg (fun z => (wT h cI cII z)) (by unfold s_X3_sell; rw [if_pos c_1, if_pos c_2, if_pos c_3, if_pos c_4, if_pos c_5])) (Nat.le_of_ble_eq_true rfl) (Nat.le_of_ble_eq_true rfl) dX3_sell_114
      · refine v_aload_n X dX3_sell_74 rfl ?_
        refine v_getfield (ref := "Trumpvault") (ci := 3) (index := 19) (v := .ref (h 13)) X iX3 0 wT_g0 rfl 1 (by decide) (by decide +kernel) (fun _ h9 => h9) rfl dX3_sell_75 ?_
        refine v_getfield (ref := "Trumpvault$Bids") (ci := 0) (index := 110) (v := .ref (h 14)) X iX0 13 wT_g13 rfl 0 (by decide) (by decide +kernel) (fun _ h9 => h9) rfl dX3_sell_78 ?_
        refine v_iload X dX3_sell_81 rfl ?_
        refine v_aald (b := h (15 + (r_X0_bestBidder S (S 5 p1.toNatClampNeg) (S 6 p1.toNatClampNeg)).toNatClampNeg)) X 14 1 wT_g14 rfl ((rngr_X0_bestBidder _ _ _).resolve_left c_5) (if_pos (vp_lt ((rngr_X0_bestBidder _ _ _).resolve_left c_5))) dX3_sell_83 ?_
        refine v_iload_n X dX3_sell_84 rfl ?_
        refine v_iald X (15 + (r_X0_bestBidder S (S 5 p1.toNatClampNeg) (S 6 p1.toNatClampNeg)).toNatClampNeg) 0 (wT_row15 ((rngr_X0_bestBidder _ _ _).resolve_left c_5)) rfl (hkin _) dX3_sell_85 ?_
        refine v_iload_n X dX3_sell_86 rfl ?_
        refine v_icmp_ge (tgt := 115) X dX3_sell_87 (by decide) (fun c_6 => ?_) (fun c_6 => ?_)
        · refine v_aload_n X dX3_sell_115 rfl ?_
          refine v_getfield (ref := "Trumpvault") (ci := 3) (index := 19) (v := .ref (h 13)) X iX3 0 wT_g0 rfl 1 (by decide) (by decide +kernel) (fun _ h9 => h9) rfl dX3_sell_116 ?_
          refine v_iload X dX3_sell_119 rfl ?_
          refine v_iload_n X dX3_sell_121 rfl ?_
          refine v_callVic (As := [.int (r_X0_bestBidder S (S 5 p1.toNatClampNeg) (S 6 p1.toNatClampNeg)), .int (S 5 p1.toNatClampNeg)]) (rest := []) (w' := (wT h cI cII (s_X0_take S (r_X0_bestBidder S (S 5 p1.toNatClampNeg) (S 6 p1.toNatClampNeg)) (S 5 p1.toNatClampNeg)))) X (c_X0_take l D cI cII cL h S (r_X0_bestBidder S (S 5 p1.toNatClampNeg) (S 6 p1.toNatClampNeg)) (S 5 p1.toNatClampNeg) ((rngr_X0_bestBidder _ _ _).resolve_left c_5) (hkin _)) (cwV 2 X.2.2.2.1 gX3_sell_X0_take rfl rfl rfl (by decide +kernel) ⟨Nat.le_of_ble_eq_true rfl, Nat.le_of_ble_eq_true rfl⟩) isCB isRB pmB (cutB h cI cII (fr_X0_take S (r_X0_bestBidder S (S 5 p1.toNatClampNeg) (S 6 p1.toNatClampNeg)) (S 5 p1.toNatClampNeg) ((rngr_X0_bestBidder _ _ _).resolve_left c_5))) 0 0 rfl rfl wB_g13 rfl rfl (Nat.le_of_ble_eq_true rfl) dX3_sell_122 ⟨Nat.le_of_ble_eq_true rfl, Nat.le_of_ble_eq_true rfl⟩ ?_
          refine v_istore (lv' := [(5, .int (r_X0_take S (r_X0_bestBidder S (S 5 p1.toNatClampNeg) (S 6 p1.toNatClampNeg)) (S 5 p1.toNatClampNeg))), (4, .int (r_X0_bestBidder S (S 5 p1.toNatClampNeg) (S 6 p1.toNatClampNeg))), (3, .int (S 5 p1.toNatClampNeg)), (0, .ref (h 0)), (1, .int p1), (2, .int p2)]) X dX3_sell_125 (by decide) rfl ?_
          refine v_aload_n X dX3_sell_127 rfl ?_
          refine v_getfield (ref := "Trumpvault") (ci := 3) (index := 30) (v := .ref (h 1)) X iX3 0 wT_g0 rfl 3 (by decide) (by decide +kernel) (fun _ h9 => h9) rfl dX3_sell_128 ?_
          refine v_aload_n X dX3_sell_131 rfl ?_
          refine v_getfield (ref := "Trumpvault") (ci := 3) (index := 10) (v := .ref (h 4)) X iX3 0 wT_g0 rfl 0 (by decide) (by decide +kernel) (fun _ h9 => h9) rfl dX3_sell_132 ?_
          refine v_getfield (ref := "Trumpvault$Cards") (ci := 1) (index := 82) (v := .ref (h 6)) X iX1 4 wT_g4 rfl 1 (by decide) (by decide +kernel) (fun _ h9 => h9) rfl dX3_sell_135 ?_
          refine v_iload_n X dX3_sell_138 rfl ?_
          refine v_iald X 6 0 wT_g6 rfl (needCard_in hcnt c_1) dX3_sell_139 ?_
          refine v_dup2 X dX3_sell_140 rfl rfl ?_
          refine v_iald X 1 0 wT_g1 rfl (own_of (fr_X0_take S (r_X0_bestBidder S (S 5 p1.toNatClampNeg) (S 6 p1.toNatClampNeg)) (S 5 p1.toNatClampNeg) ((rngr_X0_bestBidder _ _ _).resolve_left c_5) 6 (by decide)) hown _) dX3_sell_141 ?_
          refine v_iload X dX3_sell_142 rfl ?_
          refine v_iadd X dX3_sell_144 ?_
          refine v_iast (w' := (wT h cI cII (sU (s_X0_take S (r_X0_bestBidder S (S 5 p1.toNatClampNeg) (S 6 p1.toNatClampNeg)) (S 5 p1.toNatClampNeg)) 1 ((s_X0_take S (r_X0_bestBidder S (S 5 p1.toNatClampNeg) (S 6 p1.toNatClampNeg)) (S 5 p1.toNatClampNeg)) 6 p1.toNatClampNeg).toNatClampNeg (((s_X0_take S (r_X0_bestBidder S (S 5 p1.toNatClampNeg) (S 6 p1.toNatClampNeg)) (S 5 p1.toNatClampNeg)) 1 ((s_X0_take S (r_X0_bestBidder S (S 5 p1.toNatClampNeg) (S 6 p1.toNatClampNeg)) (S 5 p1.toNatClampNeg)) 6 p1.toNatClampNeg).toNatClampNeg) + (r_X0_take S (r_X0_bestBidder S (S 5 p1.toNatClampNeg) (S 6 p1.toNatClampNeg)) (S 5 p1.toNatClampNeg)))))) X 1 0 wT_g1 rfl (own_of (fr_X0_take S (r_X0_bestBidder S (S 5 p1.toNatClampNeg) (S 6 p1.toNatClampNeg)) (S 5 p1.toNatClampNeg) ((rngr_X0_bestBidder _ _ _).resolve_left c_5) 6 (by decide)) hown _) dX3_sell_145 wT_s1 ?_
          refine v_aload_n X dX3_sell_146 rfl ?_
          refine v_iload_n X dX3_sell_147 rfl ?_
          refine v_iload X dX3_sell_148 rfl ?_
          refine v_callVv (As := [.int p1, .int (r_X0_bestBidder S (S 5 p1.toNatClampNeg) (S 6 p1.toNatClampNeg))]) (rest := []) (w' := (wT h cI cII (s_X3_giveTo (sU (s_X0_take S (r_X0_bestBidder S (S 5 p1.toNatClampNeg) (S 6 p1.toNatClampNeg)) (S 5 p1.toNatClampNeg)) 1 ((s_X0_take S (r_X0_bestBidder S (S 5 p1.toNatClampNeg) (S 6 p1.toNatClampNeg)) (S 5 p1.toNatClampNeg)) 6 p1.toNatClampNeg).toNatClampNeg (((s_X0_take S (r_X0_bestBidder S (S 5 p1.toNatClampNeg) (S 6 p1.toNatClampNeg)) (S 5 p1.toNatClampNeg)) 1 ((s_X0_take S (r_X0_bestBidder S (S 5 p1.toNatClampNeg) (S 6 p1.toNatClampNeg)) (S 5 p1.toNatClampNeg)) 6 p1.toNatClampNeg).toNatClampNeg) + (r_X0_take S (r_X0_bestBidder S (S 5 p1.toNatClampNeg) (S 6 p1.toNatClampNeg)) (S 5 p1.toNatClampNeg)))) p1 (r_X0_bestBidder S (S 5 p1.toNatClampNeg) (S 6 p1.toNatClampNeg))))) X (c_X3_giveTo l D cI cII cL h (sU (s_X0_take S (r_X0_bestBidder S (S 5 p1.toNatClampNeg) (S 6 p1.toNatClampNeg)) (S 5 p1.toNatClampNeg)) 1 ((s_X0_take S (r_X0_bestBidder S (S 5 p1.toNatClampNeg) (S 6 p1.toNatClampNeg)) (S 5 p1.toNatClampNeg)) 6 p1.toNatClampNeg).toNatClampNeg (((s_X0_take S (r_X0_bestBidder S (S 5 p1.toNatClampNeg) (S 6 p1.toNatClampNeg)) (S 5 p1.toNatClampNeg)) 1 ((s_X0_take S (r_X0_bestBidder S (S 5 p1.toNatClampNeg) (S 6 p1.toNatClampNeg)) (S 5 p1.toNatClampNeg)) 6 p1.toNatClampNeg).toNatClampNeg) + (r_X0_take S (r_X0_bestBidder S (S 5 p1.toNatClampNeg) (S 6 p1.toNatClampNeg)) (S 5 p1.toNatClampNeg)))) p1 (r_X0_bestBidder S (S 5 p1.toNatClampNeg) (S 6 p1.toNatClampNeg)) (needCard_in hcnt c_1) (his_of ((sU_ne (by decide)).trans (fr_X0_take S (r_X0_bestBidder S (S 5 p1.toNatClampNeg) (S 6 p1.toNatClampNeg)) (S 5 p1.toNatClampNeg) ((rngr_X0_bestBidder _ _ _).resolve_left c_5) 26 (by decide))) hhis)) (cwV 2 X.2.2.2.1 gX3_sell_X3_giveTo rfl rfl rfl (by decide +kernel) ⟨Nat.le_of_ble_eq_true rfl, Nat.le_of_ble_eq_true rfl⟩) 0 3 rfl rfl wT_g0 rfl rfl (Nat.le_of_ble_eq_true rfl) dX3_sell_150 ⟨Nat.le_of_ble_eq_true rfl, Nat.le_of_ble_eq_true rfl⟩ ?_
          refine v_iload X dX3_sell_153 rfl ?_
          exact v_xreti X TT hr rfl (by unfold x_X3_sell; rw [if_pos c_1, if_pos c_2, if_pos c_3, if_pos c_4, if_neg c_5, if_pos c_6]) (by unfold r_X3_sell; rw [if_pos c_1, if_pos c_2, if_pos c_3, if_pos c_4, if_neg c_5, if_pos c_6]) (congrArg (fun z => (wT h cI cII z)) (by unfold s_X3_sell; rw [if_pos c_1, if_pos c_2, if_pos c_3, if_pos c_4, if_neg c_5, if_pos c_6])) (Nat.le_of_ble_eq_true rfl) (Nat.le_of_ble_eq_true rfl) dX3_sell_155
        · refine v_aload_n X dX3_sell_90 rfl ?_
          refine v_getfield (ref := "Trumpvault") (ci := 3) (index := 10) (v := .ref (h 4)) X iX3 0 wT_g0 rfl 0 (by decide) (by decide +kernel) (fun _ h9 => h9) rfl dX3_sell_91 ?_
          refine v_iload_n X dX3_sell_94 rfl ?_
          refine v_iload_n X dX3_sell_95 rfl ?_
          refine v_aload_n X dX3_sell_96 rfl ?_
          refine v_getfield (ref := "Trumpvault") (ci := 3) (index := 46) (v := .int (S 0 6)) X iX3 0 wT_g0 rfl 6 (by decide) (by decide +kernel) (fun _ h9 => h9) rfl dX3_sell_97 ?_
          refine v_callVvc (As := [.int p1, .int p2, .int (S 0 6)]) (rest := []) (w' := (wT h cI cII (s_X1_putSale S p1 p2 (S 0 6)))) X (c_X1_putSale l D cI cII cL h S p1 p2 (S 0 6) (needCard_in hcnt c_1)) (cwV 3 X.2.2.2.1 gX3_sell_X1_putSale rfl rfl rfl (by decide +kernel) ⟨Nat.le_of_ble_eq_true rfl, Nat.le_of_ble_eq_true rfl⟩) isCC isRC pmC (cutC h cI cII (fr_X1_putSale S p1 p2 (S 0 6))) 0 1 rfl rfl wC_g4 rfl rfl (Nat.le_of_ble_eq_true rfl) dX3_sell_100 ⟨Nat.le_of_ble_eq_true rfl, Nat.le_of_ble_eq_true rfl⟩ ?_
          refine v_aload_n X dX3_sell_103 rfl ?_
          refine v_dup X dX3_sell_104 rfl ?_
          refine v_getfield (ref := "Trumpvault") (ci := 3) (index := 46) (v := .int ((s_X1_putSale S p1 p2 (S 0 6)) 0 6)) X iX3 0 wT_g0 rfl 6 (by decide) (by decide +kernel) (fun _ h9 => h9) rfl dX3_sell_105 ?_
          refine v_iconst (x := 1) X dX3_sell_108 rfl ?_
          refine v_iadd X dX3_sell_109 ?_
          refine v_putfield (w' := (wT h cI cII (sU (s_X1_putSale S p1 p2 (S 0 6)) 0 6 (((s_X1_putSale S p1 p2 (S 0 6)) 0 6) + 1)))) (ref := "Trumpvault") (ci := 3) (index := 46) (ty := .int) X iX3 tyX3 tyX3_ok nmX3 0 wT_g0 rfl 6 (by decide) (by decide +kernel) (fun _ h9 => h9) rfl (by decide +kernel) rfl rfl (Nat.le_of_ble_eq_true rfl) dX3_sell_110 wT_f0_6 ?_
          refine v_iconst (x := 0) X dX3_sell_113 rfl ?_
          exact v_xreti X TT hr rfl (by unfold x_X3_sell; rw [if_pos c_1, if_pos c_2, if_pos c_3, if_pos c_4, if_neg c_5, if_neg c_6]) (by unfold r_X3_sell; rw [if_pos c_1, if_pos c_2, if_pos c_3, if_pos c_4, if_neg c_5, if_neg c_6]) (congrArg (fun z => (wT h cI cII z)) (by unfold s_X3_sell; rw [if_pos c_1, if_pos c_2, if_pos c_3, if_pos c_4, if_neg c_5, if_neg c_6])) (Nat.le_of_ble_eq_true rfl) (Nat.le_of_ble_eq_true rfl) dX3_sell_114
    · exact v_throwG (is := 105) (text := "the card is not free, or its kind is banned") X TT v_EL3 (by decide +kernel) (by decide +kernel) tv_E3 (by decide +kernel) dX3_sell_39 dX3_sell_42 dX3_sell_43 dX3_sell_45 dX3_sell_48 (by unfold x_X3_sell; rw [if_pos c_1, if_pos c_2, if_pos c_3, if_neg c_4]) rfl ⟨Nat.le_of_ble_eq_true rfl, Nat.le_of_ble_eq_true rfl, Nat.le_of_ble_eq_true rfl, Nat.le_of_ble_eq_true rfl⟩ (Nat.le_of_ble_eq_true rfl) (Nat.le_of_ble_eq_true rfl)

def r_X3_bid (S : St) (p1 p2 p3 : Int32) : Int32 :=
  (if (x_X3_needPlayer p1) = none then (if (x_X3_needKind p2) = none then (if (x_X3_needPrice p3) = none then (if (S 1 p1.toNatClampNeg) < p3 then 0 else (if (r_X0_has S p1 p2) = 0 then (if (r_X3_bannedToday S p2) = 0 then (if (r_X1_bestSale S p2 p1) = (-1) then (-1) else (if (S 8 (r_X1_bestSale S p2 p1).toNatClampNeg) ≤ p3 then (r_X1_bestSale S p2 p1) else (-1))) else 0) else 0)) else 0) else 0) else 0)
def s_X3_bid (S : St) (p1 p2 p3 : Int32) : St :=
  (if (x_X3_needPlayer p1) = none then (if (x_X3_needKind p2) = none then (if (x_X3_needPrice p3) = none then (if (S 1 p1.toNatClampNeg) < p3 then S else (if (r_X0_has S p1 p2) = 0 then (if (r_X3_bannedToday S p2) = 0 then (if (r_X1_bestSale S p2 p1) = (-1) then (sU (s_X0_put (sU S 1 p1.toNatClampNeg ((S 1 p1.toNatClampNeg) - p3)) p1 p2 p3 ((sU S 1 p1.toNatClampNeg ((S 1 p1.toNatClampNeg) - p3)) 0 6)) 0 6 (((s_X0_put (sU S 1 p1.toNatClampNeg ((S 1 p1.toNatClampNeg) - p3)) p1 p2 p3 ((sU S 1 p1.toNatClampNeg ((S 1 p1.toNatClampNeg) - p3)) 0 6)) 0 6) + 1)) else (if (S 8 (r_X1_bestSale S p2 p1).toNatClampNeg) ≤ p3 then (s_X3_giveTo (sU (sU (s_X1_takeSale S (r_X1_bestSale S p2 p1)) 1 p1.toNatClampNeg (((s_X1_takeSale S (r_X1_bestSale S p2 p1)) 1 p1.toNatClampNeg) - (r_X1_takeSale S (r_X1_bestSale S p2 p1)))) 1 ((sU (s_X1_takeSale S (r_X1_bestSale S p2 p1)) 1 p1.toNatClampNeg (((s_X1_takeSale S (r_X1_bestSale S p2 p1)) 1 p1.toNatClampNeg) - (r_X1_takeSale S (r_X1_bestSale S p2 p1)))) 6 (r_X1_bestSale S p2 p1).toNatClampNeg).toNatClampNeg (((sU (s_X1_takeSale S (r_X1_bestSale S p2 p1)) 1 p1.toNatClampNeg (((s_X1_takeSale S (r_X1_bestSale S p2 p1)) 1 p1.toNatClampNeg) - (r_X1_takeSale S (r_X1_bestSale S p2 p1)))) 1 ((sU (s_X1_takeSale S (r_X1_bestSale S p2 p1)) 1 p1.toNatClampNeg (((s_X1_takeSale S (r_X1_bestSale S p2 p1)) 1 p1.toNatClampNeg) - (r_X1_takeSale S (r_X1_bestSale S p2 p1)))) 6 (r_X1_bestSale S p2 p1).toNatClampNeg).toNatClampNeg) + (r_X1_takeSale S (r_X1_bestSale S p2 p1)))) (r_X1_bestSale S p2 p1) p1) else (sU (s_X0_put (sU S 1 p1.toNatClampNeg ((S 1 p1.toNatClampNeg) - p3)) p1 p2 p3 ((sU S 1 p1.toNatClampNeg ((S 1 p1.toNatClampNeg) - p3)) 0 6)) 0 6 (((s_X0_put (sU S 1 p1.toNatClampNeg ((S 1 p1.toNatClampNeg) - p3)) p1 p2 p3 ((sU S 1 p1.toNatClampNeg ((S 1 p1.toNatClampNeg) - p3)) 0 6)) 0 6) + 1)))) else S) else S)) else S) else S) else S)
def x_X3_bid (S : St) (p1 p2 p3 : Int32) : Option String :=
  (if (x_X3_needPlayer p1) = none then (if (x_X3_needKind p2) = none then (if (x_X3_needPrice p3) = none then (if (S 1 p1.toNatClampNeg) < p3 then some v_E3 else (if (r_X0_has S p1 p2) = 0 then (if (r_X3_bannedToday S p2) = 0 then (if (r_X1_bestSale S p2 p1) = (-1) then none else (if (S 8 (r_X1_bestSale S p2 p1).toNatClampNeg) ≤ p3 then none else none)) else some v_E3) else some v_E3)) else (x_X3_needPrice p3)) else (x_X3_needKind p2)) else (x_X3_needPlayer p1))
set_option maxHeartbeats 1000000 in
set_option maxRecDepth 100000 in
theorem c_X3_bid (l : Launch) (D : va_G) (cI cII cL : ClassId) (hlt : l.stackTraces = false) (h : Nat → Nat) (S : St) (p1 p2 p3 : Int32) (hcnt : cntC S) (hhis : hisC S) (hown : ∀ j, vp_in (S 6 j) 5) : v_Xi l D vwCl (tyl cI cII cL) yX3_bid wsX3_bid { frames := 7, cells := 4, slots := 24, locals := 102 } [.ref (h 0), .int p1, .int p2, .int p3] (wT h cI cII S) (x_X3_bid S p1 p2 p3) (r_X3_bid S p1 p2 p3) (wT h cI cII (s_X3_bid S p1 p2 p3)) := by
  refine v_ofXi (cc := cX3_bid) (maxL := 6) (ret := (some .int)) (own := RX3) (lv0 := [(0, .ref (h 0)), (1, .int p1), (2, .int p2), (3, .int p3)]) hlt (by decide) rfl rfl rfl (Nat.le_of_ble_eq_true rfl) ?_
  intro p e s m below meth c X TT hr
  have iX1 : ∀ w ∈ wsX10, w ∈ wsX3_bid := by decide +kernel
  have iX3 : ∀ w ∈ wsX30, w ∈ wsX3_bid := by decide +kernel
  have tv_E3 : ∀ w ∈ (vx_atS RX3 68 v_E3 v_nm).filter goodWord, w ∈ wsX3_bid := by decide +kernel
  refine v_iload_n X dX3_bid_0 rfl ?_
  refine v_xcallSv0 (As := [.int p1]) (rest := []) X TT.2.1 (c_X3_needPlayer l D cI cII cL hlt p1) (cwS 1 X.2.2.2.1 gX3_bid_X3_needPlayer rfl rfl rfl (by decide +kernel) ⟨Nat.le_of_ble_eq_true rfl, Nat.le_of_ble_eq_true rfl⟩) rfl rfl (Nat.le_of_ble_eq_true rfl) dX3_bid_1 ⟨Nat.le_of_ble_eq_true rfl, Nat.le_of_ble_eq_true rfl⟩ (fun E q9 hx => v_outG X TT ((by have c_1 : ¬ (x_X3_needPlayer p1) = none := (by rw [hx]; exact nofun); unfold x_X3_bid; rw [if_neg c_1] : (x_X3_bid S p1 p2 p3) = (x_X3_needPlayer p1)).trans hx) rfl (Nat.le_of_ble_eq_true rfl) (Nat.le_of_ble_eq_true rfl)) (fun c_1 => ?_)
  refine v_iload_n X dX3_bid_4 rfl ?_
  refine v_xcallSv0 (As := [.int p2]) (rest := []) X TT.2.1 (c_X3_needKind l D cI cII cL hlt p2) (cwS 1 X.2.2.2.1 gX3_bid_X3_needKind rfl rfl rfl (by decide +kernel) ⟨Nat.le_of_ble_eq_true rfl, Nat.le_of_ble_eq_true rfl⟩) rfl rfl (Nat.le_of_ble_eq_true rfl) dX3_bid_5 ⟨Nat.le_of_ble_eq_true rfl, Nat.le_of_ble_eq_true rfl⟩ (fun E q9 hx => v_outG X TT ((by have c_2 : ¬ (x_X3_needKind p2) = none := (by rw [hx]; exact nofun); unfold x_X3_bid; rw [if_pos c_1, if_neg c_2] : (x_X3_bid S p1 p2 p3) = (x_X3_needKind p2)).trans hx) rfl (Nat.le_of_ble_eq_true rfl) (Nat.le_of_ble_eq_true rfl)) (fun c_2 => ?_)
  refine v_iload_n X dX3_bid_8 rfl ?_
  refine v_xcallSv0 (As := [.int p3]) (rest := []) X TT.2.1 (c_X3_needPrice l D cI cII cL hlt p3) (cwS 1 X.2.2.2.1 gX3_bid_X3_needPrice rfl rfl rfl (by decide +kernel) ⟨Nat.le_of_ble_eq_true rfl, Nat.le_of_ble_eq_true rfl⟩) rfl rfl (Nat.le_of_ble_eq_true rfl) dX3_bid_9 ⟨Nat.le_of_ble_eq_true rfl, Nat.le_of_ble_eq_true rfl⟩ (fun E q9 hx => v_outG X TT ((by have c_3 : ¬ (x_X3_needPrice p3) = none := (by rw [hx]; exact nofun); unfold x_X3_bid; rw [if_pos c_1, if_pos c_2, if_neg c_3] : (x_X3_bid S p1 p2 p3) = (x_X3_needPrice p3)).trans hx) rfl (Nat.le_of_ble_eq_true rfl) (Nat.le_of_ble_eq_true rfl)) (fun c_3 => ?_)
  refine v_aload_n X dX3_bid_12 rfl ?_
  refine v_getfield (ref := "Trumpvault") (ci := 3) (index := 30) (v := .ref (h 1)) X iX3 0 wT_g0 rfl 3 (by decide) (by decide +kernel) (fun _ h9 => h9) rfl dX3_bid_13 ?_
  refine v_iload_n X dX3_bid_16 rfl ?_
  refine v_iald X 1 0 wT_g1 rfl (needPlayer_in c_1) dX3_bid_17 ?_
  refine v_iload_n X dX3_bid_18 rfl ?_
  refine v_icmp_lt (tgt := 42) X dX3_bid_19 (by decide) (fun c_4 => ?_) (fun c_4 => ?_)
  · exact v_throwG (is := 128) (text := "too few coins, a bid for the kind already, or a banned kind") X TT v_EL3 (by decide +kernel) (by decide +kernel) tv_E3 (by decide +kernel) dX3_bid_42 dX3_bid_45 dX3_bid_46 dX3_bid_48 dX3_bid_51 (by unfold x_X3_bid; rw [if_pos c_1, if_pos c_2, if_pos c_3, if_pos c_4]) rfl ⟨Nat.le_of_ble_eq_true rfl, Nat.le_of_ble_eq_true rfl, Nat.le_of_ble_eq_true rfl, Nat.le_of_ble_eq_true rfl⟩ (Nat.le_of_ble_eq_true rfl) (Nat.le_of_ble_eq_true rfl)
  · refine v_aload_n X dX3_bid_22 rfl ?_
    refine v_getfield (ref := "Trumpvault") (ci := 3) (index := 19) (v := .ref (h 13)) X iX3 0 wT_g0 rfl 1 (by decide) (by decide +kernel) (fun _ h9 => h9) rfl dX3_bid_23 ?_
    refine v_iload_n X dX3_bid_26 rfl ?_
    refine v_iload_n X dX3_bid_27 rfl ?_
    refine v_callVic (As := [.int p1, .int p2]) (rest := []) (w' := (wT h cI cII S)) X (c_X0_has l D cI cII cL h S p1 p2 (needPlayer_in c_1) (needKind_in c_2)) (cwV 2 X.2.2.2.1 gX3_bid_X0_has rfl rfl rfl (by decide +kernel) ⟨Nat.le_of_ble_eq_true rfl, Nat.le_of_ble_eq_true rfl⟩) isCB isRB pmB (cutB h cI cII (fun _ _ => rfl)) 0 0 rfl rfl wB_g13 rfl rfl (Nat.le_of_ble_eq_true rfl) dX3_bid_28 ⟨Nat.le_of_ble_eq_true rfl, Nat.le_of_ble_eq_true rfl⟩ ?_
    refine v_if_ne (tgt := 42) X dX3_bid_31 (by decide) (fun c_5 => ?_) (fun c_5 => ?_)
    · exact v_throwG (is := 128) (text := "too few coins, a bid for the kind already, or a banned kind") X TT v_EL3 (by decide +kernel) (by decide +kernel) tv_E3 (by decide +kernel) dX3_bid_42 dX3_bid_45 dX3_bid_46 dX3_bid_48 dX3_bid_51 (by unfold x_X3_bid; rw [if_pos c_1, if_pos c_2, if_pos c_3, if_neg c_4, if_neg c_5]) rfl ⟨Nat.le_of_ble_eq_true rfl, Nat.le_of_ble_eq_true rfl, Nat.le_of_ble_eq_true rfl, Nat.le_of_ble_eq_true rfl⟩ (Nat.le_of_ble_eq_true rfl) (Nat.le_of_ble_eq_true rfl)
    · refine v_aload_n X dX3_bid_34 rfl ?_
      refine v_iload_n X dX3_bid_35 rfl ?_
      refine v_callVi (As := [.int p2]) (rest := []) (w' := (wT h cI cII S)) X (c_X3_bannedToday l D cI cII cL h S p2 (needKind_in c_2)) (cwV 1 X.2.2.2.1 gX3_bid_X3_bannedToday rfl rfl rfl (by decide +kernel) ⟨Nat.le_of_ble_eq_true rfl, Nat.le_of_ble_eq_true rfl⟩) 0 3 rfl rfl wT_g0 rfl rfl (Nat.le_of_ble_eq_true rfl) dX3_bid_36 ⟨Nat.le_of_ble_eq_true rfl, Nat.le_of_ble_eq_true rfl⟩ ?_
      refine v_if_eq (tgt := 52) X dX3_bid_39 (by decide) (fun c_6 => ?_) (fun c_6 => ?_)
      · refine v_aload_n X dX3_bid_52 rfl ?_
        refine v_getfield (ref := "Trumpvault") (ci := 3) (index := 10) (v := .ref (h 4)) X iX3 0 wT_g0 rfl 0 (by decide) (by decide +kernel) (fun _ h9 => h9) rfl dX3_bid_53 ?_
        refine v_iload_n X dX3_bid_56 rfl ?_
        refine v_iload_n X dX3_bid_57 rfl ?_
        refine v_callVic (As := [.int p2, .int p1]) (rest := []) (w' := (wT h cI cII S)) X (c_X1_bestSale l D cI cII cL h S p2 p1 hcnt) (cwV 2 X.2.2.2.1 gX3_bid_X1_bestSale rfl rfl rfl (by decide +kernel) ⟨Nat.le_of_ble_eq_true rfl, Nat.le_of_ble_eq_true rfl⟩) isCC isRC pmC (cutC h cI cII (fun _ _ => rfl)) 0 1 rfl rfl wC_g4 rfl rfl (Nat.le_of_ble_eq_true rfl) dX3_bid_58 ⟨Nat.le_of_ble_eq_true rfl, Nat.le_of_ble_eq_true rfl⟩ ?_
        refine v_istore (lv' := [(4, .int (r_X1_bestSale S p2 p1)), (0, .ref (h 0)), (1, .int p1), (2, .int p2), (3, .int p3)]) X dX3_bid_61 (by decide) rfl ?_
        refine v_iload X dX3_bid_63 rfl ?_
        refine v_iconst (x := (-1)) X dX3_bid_65 rfl ?_
        refine v_icmp_eq (tgt := 83) X dX3_bid_66 (by decide) (fun c_7 => ?_) (fun c_7 => ?_)
        · refine v_aload_n X dX3_bid_83 rfl ?_
          refine v_getfield (ref := "Trumpvault") (ci := 3) (index := 30) (v := .ref (h 1)) X iX3 0 wT_g0 rfl 3 (by decide) (by decide +kernel) (fun _ h9 => h9) rfl dX3_bid_84 ?_
          refine v_iload_n X dX3_bid_87 rfl ?_
          refine v_dup2 X dX3_bid_88 rfl rfl ?_
          refine v_iald X 1 0 wT_g1 rfl (needPlayer_in c_1) dX3_bid_89 ?_
          refine v_iload_n X dX3_bid_90 rfl ?_
          refine v_isub X dX3_bid_91 ?_
          refine v_iast (w' := (wT h cI cII (sU S 1 p1.toNatClampNeg ((S 1 p1.toNatClampNeg) - p3)))) X 1 0 wT_g1 rfl (needPlayer_in c_1) dX3_bid_92 wT_s1 ?_
          refine v_aload_n X dX3_bid_93 rfl ?_
          refine v_getfield (ref := "Trumpvault") (ci := 3) (index := 19) (v := .ref (h 13)) X iX3 0 wT_g0 rfl 1 (by decide) (by decide +kernel) (fun _ h9 => h9) rfl dX3_bid_94 ?_
          refine v_iload_n X dX3_bid_97 rfl ?_
          refine v_iload_n X dX3_bid_98 rfl ?_
          refine v_iload_n X dX3_bid_99 rfl ?_
          refine v_aload_n X dX3_bid_100 rfl ?_
          refine v_getfield (ref := "Trumpvault") (ci := 3) (index := 46) (v := .int ((sU S 1 p1.toNatClampNeg ((S 1 p1.toNatClampNeg) - p3)) 0 6)) X iX3 0 wT_g0 rfl 6 (by decide) (by decide +kernel) (fun _ h9 => h9) rfl dX3_bid_101 ?_
          refine v_callVvc (As := [.int p1, .int p2, .int p3, .int ((sU S 1 p1.toNatClampNeg ((S 1 p1.toNatClampNeg) - p3)) 0 6)]) (rest := []) (w' := (wT h cI cII (s_X0_put (sU S 1 p1.toNatClampNeg ((S 1 p1.toNatClampNeg) - p3)) p1 p2 p3 ((sU S 1 p1.toNatClampNeg ((S 1 p1.toNatClampNeg) - p3)) 0 6)))) X (c_X0_put l D cI cII cL h (sU S 1 p1.toNatClampNeg ((S 1 p1.toNatClampNeg) - p3)) p1 p2 p3 ((sU S 1 p1.toNatClampNeg ((S 1 p1.toNatClampNeg) - p3)) 0 6) (needPlayer_in c_1) (needKind_in c_2)) (cwV 4 X.2.2.2.1 gX3_bid_X0_put rfl rfl rfl (by decide +kernel) ⟨Nat.le_of_ble_eq_true rfl, Nat.le_of_ble_eq_true rfl⟩) isCB isRB pmB (cutB h cI cII (fr_X0_put (sU S 1 p1.toNatClampNeg ((S 1 p1.toNatClampNeg) - p3)) p1 p2 p3 ((sU S 1 p1.toNatClampNeg ((S 1 p1.toNatClampNeg) - p3)) 0 6) (needPlayer_in c_1))) 0 0 rfl rfl wB_g13 rfl rfl (Nat.le_of_ble_eq_true rfl) dX3_bid_104 ⟨Nat.le_of_ble_eq_true rfl, Nat.le_of_ble_eq_true rfl⟩ ?_
          refine v_aload_n X dX3_bid_107 rfl ?_
          refine v_dup X dX3_bid_108 rfl ?_
          refine v_getfield (ref := "Trumpvault") (ci := 3) (index := 46) (v := .int ((s_X0_put (sU S 1 p1.toNatClampNeg ((S 1 p1.toNatClampNeg) - p3)) p1 p2 p3 ((sU S 1 p1.toNatClampNeg ((S 1 p1.toNatClampNeg) - p3)) 0 6)) 0 6)) X iX3 0 wT_g0 rfl 6 (by decide) (by decide +kernel) (fun _ h9 => h9) rfl dX3_bid_109 ?_
          refine v_iconst (x := 1) X dX3_bid_112 rfl ?_
          refine v_iadd X dX3_bid_113 ?_
          refine v_putfield (w' := (wT h cI cII (sU (s_X0_put (sU S 1 p1.toNatClampNeg ((S 1 p1.toNatClampNeg) - p3)) p1 p2 p3 ((sU S 1 p1.toNatClampNeg ((S 1 p1.toNatClampNeg) - p3)) 0 6)) 0 6 (((s_X0_put (sU S 1 p1.toNatClampNeg ((S 1 p1.toNatClampNeg) - p3)) p1 p2 p3 ((sU S 1 p1.toNatClampNeg ((S 1 p1.toNatClampNeg) - p3)) 0 6)) 0 6) + 1)))) (ref := "Trumpvault") (ci := 3) (index := 46) (ty := .int) X iX3 tyX3 tyX3_ok nmX3 0 wT_g0 rfl 6 (by decide) (by decide +kernel) (fun _ h9 => h9) rfl (by decide +kernel) rfl rfl (Nat.le_of_ble_eq_true rfl) dX3_bid_114 wT_f0_6 ?_
          refine v_iconst (x := (-1)) X dX3_bid_117 rfl ?_
          exact v_xreti X TT hr rfl (by unfold x_X3_bid; rw [if_pos c_1, if_pos c_2, if_pos c_3, if_neg c_4, if_pos c_5, if_pos c_6, if_pos c_7]) (by unfold r_X3_bid; rw [if_pos c_1, if_pos c_2, if_pos c_3, if_neg c_4, if_pos c_5, if_pos c_6, if_pos c_7]) (congrArg (fun z => (wT h cI cII z)) (by unfold s_X3_bid; rw [if_pos c_1, if_pos c_2, if_pos c_3, if_neg c_4, if_pos c_5, if_pos c_6, if_pos c_7])) (Nat.le_of_ble_eq_true rfl) (Nat.le_of_ble_eq_true rfl) dX3_bid_118
        · refine v_aload_n X dX3_bid_69 rfl ?_
          refine v_getfield (ref := "Trumpvault") (ci := 3) (index := 10) (v := .ref (h 4)) X iX3 0 wT_g0 rfl 0 (by decide) (by decide +kernel) (fun _ h9 => h9) rfl dX3_bid_70 ?_
          refine v_getfield (ref := "Trumpvault$Cards") (ci := 1) (index := 133) (v := .ref (h 8)) X iX1 4 wT_g4 rfl 3 (by decide) (by decide +kernel) (fun _ h9 => h9) rfl dX3_bid_73 ?_
          refine v_iload X dX3_bid_76 rfl ?_
          refine v_iald X 8 0 wT_g8 rfl ((rngr_X1_bestSale hcnt _ _).resolve_left c_7) dX3_bid_78 ?_
          refine v_iload_n X dX3_bid_79 rfl ?_
          refine v_icmp_le (tgt := 119) X dX3_bid_80 (by decide) (fun c_8 => ?_) (fun c_8 => ?_)
          · refine v_aload_n X dX3_bid_119 rfl ?_
            refine v_getfield (ref := "Trumpvault") (ci := 3) (index := 10) (v := .ref (h 4)) X iX3 0 wT_g0 rfl 0 (by decide) (by decide +kernel) (fun _ h9 => h9) rfl dX3_bid_120 ?_
            refine v_iload X dX3_bid_123 rfl ?_
            refine v_callVic (As := [.int (r_X1_bestSale S p2 p1)]) (rest := []) (w' := (wT h cI cII (s_X1_takeSale S (r_X1_bestSale S p2 p1)))) X (c_X1_takeSale l D cI cII cL h S (r_X1_bestSale S p2 p1) ((rngr_X1_bestSale hcnt _ _).resolve_left c_7)) (cwV 1 X.2.2.2.1 gX3_bid_X1_takeSale rfl rfl rfl (by decide +kernel) ⟨Nat.le_of_ble_eq_true rfl, Nat.le_of_ble_eq_true rfl⟩) isCC isRC pmC (cutC h cI cII (fr_X1_takeSale S (r_X1_bestSale S p2 p1))) 0 1 rfl rfl wC_g4 rfl rfl (Nat.le_of_ble_eq_true rfl) dX3_bid_125 ⟨Nat.le_of_ble_eq_true rfl, Nat.le_of_ble_eq_true rfl⟩ ?_
            refine v_istore (lv' := [(5, .int (r_X1_takeSale S (r_X1_bestSale S p2 p1))), (4, .int (r_X1_bestSale S p2 p1)), (0, .ref (h 0)), (1, .int p1), (2, .int p2), (3, .int p3)]) X dX3_bid_128 (by decide) rfl ?_
            refine v_aload_n X dX3_bid_130 rfl ?_
            refine v_getfield (ref := "Trumpvault") (ci := 3) (index := 30) (v := .ref (h 1)) X iX3 0 wT_g0 rfl 3 (by decide) (by decide +kernel) (fun _ h9 => h9) rfl dX3_bid_131 ?_
            refine v_iload_n X dX3_bid_134 rfl ?_
            refine v_dup2 X dX3_bid_135 rfl rfl ?_
            refine v_iald X 1 0 wT_g1 rfl (needPlayer_in c_1) dX3_bid_136 ?_
            refine v_iload X dX3_bid_137 rfl ?_
            refine v_isub X dX3_bid_139 ?_
            refine v_iast (w' := (wT h cI cII (sU (s_X1_takeSale S (r_X1_bestSale S p2 p1)) 1 p1.toNatClampNeg (((s_X1_takeSale S (r_X1_bestSale S p2 p1)) 1 p1.toNatClampNeg) - (r_X1_takeSale S (r_X1_bestSale S p2 p1)))))) X 1 0 wT_g1 rfl (needPlayer_in c_1) dX3_bid_140 wT_s1 ?_
            refine v_aload_n X dX3_bid_141 rfl ?_
            refine v_getfield (ref := "Trumpvault") (ci := 3) (index := 30) (v := .ref (h 1)) X iX3 0 wT_g0 rfl 3 (by decide) (by decide +kernel) (fun _ h9 => h9) rfl dX3_bid_142 ?_
            refine v_aload_n X dX3_bid_145 rfl ?_
            refine v_getfield (ref := "Trumpvault") (ci := 3) (index := 10) (v := .ref (h 4)) X iX3 0 wT_g0 rfl 0 (by decide) (by decide +kernel) (fun _ h9 => h9) rfl dX3_bid_146 ?_
            refine v_getfield (ref := "Trumpvault$Cards") (ci := 1) (index := 82) (v := .ref (h 6)) X iX1 4 wT_g4 rfl 1 (by decide) (by decide +kernel) (fun _ h9 => h9) rfl dX3_bid_149 ?_
            refine v_iload X dX3_bid_152 rfl ?_
            refine v_iald X 6 0 wT_g6 rfl ((rngr_X1_bestSale hcnt _ _).resolve_left c_7) dX3_bid_154 ?_
            refine v_dup2 X dX3_bid_155 rfl rfl ?_
            refine v_iald X 1 0 wT_g1 rfl (own_of ((sU_ne (by decide)).trans (show (s_X1_takeSale S (r_X1_bestSale S p2 p1)) 6 = S 6 from rfl)) hown _) dX3_bid_156 ?_
            refine v_iload X dX3_bid_157 rfl ?_
            refine v_iadd X dX3_bid_159 ?_
            refine v_iast (w' := (wT h cI cII (sU (sU (s_X1_takeSale S (r_X1_bestSale S p2 p1)) 1 p1.toNatClampNeg (((s_X1_takeSale S (r_X1_bestSale S p2 p1)) 1 p1.toNatClampNeg) - (r_X1_takeSale S (r_X1_bestSale S p2 p1)))) 1 ((sU (s_X1_takeSale S (r_X1_bestSale S p2 p1)) 1 p1.toNatClampNeg (((s_X1_takeSale S (r_X1_bestSale S p2 p1)) 1 p1.toNatClampNeg) - (r_X1_takeSale S (r_X1_bestSale S p2 p1)))) 6 (r_X1_bestSale S p2 p1).toNatClampNeg).toNatClampNeg (((sU (s_X1_takeSale S (r_X1_bestSale S p2 p1)) 1 p1.toNatClampNeg (((s_X1_takeSale S (r_X1_bestSale S p2 p1)) 1 p1.toNatClampNeg) - (r_X1_takeSale S (r_X1_bestSale S p2 p1)))) 1 ((sU (s_X1_takeSale S (r_X1_bestSale S p2 p1)) 1 p1.toNatClampNeg (((s_X1_takeSale S (r_X1_bestSale S p2 p1)) 1 p1.toNatClampNeg) - (r_X1_takeSale S (r_X1_bestSale S p2 p1)))) 6 (r_X1_bestSale S p2 p1).toNatClampNeg).toNatClampNeg) + (r_X1_takeSale S (r_X1_bestSale S p2 p1)))))) X 1 0 wT_g1 rfl (own_of ((sU_ne (by decide)).trans (show (s_X1_takeSale S (r_X1_bestSale S p2 p1)) 6 = S 6 from rfl)) hown _) dX3_bid_160 wT_s1 ?_
            refine v_aload_n X dX3_bid_161 rfl ?_
            refine v_iload X dX3_bid_162 rfl ?_
            refine v_iload_n X dX3_bid_164 rfl ?_
            refine v_callVv (As := [.int (r_X1_bestSale S p2 p1), .int p1]) (rest := []) (w' := (wT h cI cII (s_X3_giveTo (sU (sU (s_X1_takeSale S (r_X1_bestSale S p2 p1)) 1 p1.toNatClampNeg (((s_X1_takeSale S (r_X1_bestSale S p2 p1)) 1 p1.toNatClampNeg) - (r_X1_takeSale S (r_X1_bestSale S p2 p1)))) 1 ((sU (s_X1_takeSale S (r_X1_bestSale S p2 p1)) 1 p1.toNatClampNeg (((s_X1_takeSale S (r_X1_bestSale S p2 p1)) 1 p1.toNatClampNeg) - (r_X1_takeSale S (r_X1_bestSale S p2 p1)))) 6 (r_X1_bestSale S p2 p1).toNatClampNeg).toNatClampNeg (((sU (s_X1_takeSale S (r_X1_bestSale S p2 p1)) 1 p1.toNatClampNeg (((s_X1_takeSale S (r_X1_bestSale S p2 p1)) 1 p1.toNatClampNeg) - (r_X1_takeSale S (r_X1_bestSale S p2 p1)))) 1 ((sU (s_X1_takeSale S (r_X1_bestSale S p2 p1)) 1 p1.toNatClampNeg (((s_X1_takeSale S (r_X1_bestSale S p2 p1)) 1 p1.toNatClampNeg) - (r_X1_takeSale S (r_X1_bestSale S p2 p1)))) 6 (r_X1_bestSale S p2 p1).toNatClampNeg).toNatClampNeg) + (r_X1_takeSale S (r_X1_bestSale S p2 p1)))) (r_X1_bestSale S p2 p1) p1))) X (c_X3_giveTo l D cI cII cL h (sU (sU (s_X1_takeSale S (r_X1_bestSale S p2 p1)) 1 p1.toNatClampNeg (((s_X1_takeSale S (r_X1_bestSale S p2 p1)) 1 p1.toNatClampNeg) - (r_X1_takeSale S (r_X1_bestSale S p2 p1)))) 1 ((sU (s_X1_takeSale S (r_X1_bestSale S p2 p1)) 1 p1.toNatClampNeg (((s_X1_takeSale S (r_X1_bestSale S p2 p1)) 1 p1.toNatClampNeg) - (r_X1_takeSale S (r_X1_bestSale S p2 p1)))) 6 (r_X1_bestSale S p2 p1).toNatClampNeg).toNatClampNeg (((sU (s_X1_takeSale S (r_X1_bestSale S p2 p1)) 1 p1.toNatClampNeg (((s_X1_takeSale S (r_X1_bestSale S p2 p1)) 1 p1.toNatClampNeg) - (r_X1_takeSale S (r_X1_bestSale S p2 p1)))) 1 ((sU (s_X1_takeSale S (r_X1_bestSale S p2 p1)) 1 p1.toNatClampNeg (((s_X1_takeSale S (r_X1_bestSale S p2 p1)) 1 p1.toNatClampNeg) - (r_X1_takeSale S (r_X1_bestSale S p2 p1)))) 6 (r_X1_bestSale S p2 p1).toNatClampNeg).toNatClampNeg) + (r_X1_takeSale S (r_X1_bestSale S p2 p1)))) (r_X1_bestSale S p2 p1) p1 ((rngr_X1_bestSale hcnt _ _).resolve_left c_7) (his_of ((sU_ne (by decide)).trans ((sU_ne (by decide)).trans (show (s_X1_takeSale S (r_X1_bestSale S p2 p1)) 26 = S 26 from rfl))) hhis)) (cwV 2 X.2.2.2.1 gX3_bid_X3_giveTo rfl rfl rfl (by decide +kernel) ⟨Nat.le_of_ble_eq_true rfl, Nat.le_of_ble_eq_true rfl⟩) 0 3 rfl rfl wT_g0 rfl rfl (Nat.le_of_ble_eq_true rfl) dX3_bid_165 ⟨Nat.le_of_ble_eq_true rfl, Nat.le_of_ble_eq_true rfl⟩ ?_
            refine v_iload X dX3_bid_168 rfl ?_
            exact v_xreti X TT hr rfl (by unfold x_X3_bid; rw [if_pos c_1, if_pos c_2, if_pos c_3, if_neg c_4, if_pos c_5, if_pos c_6, if_neg c_7, if_pos c_8]) (by unfold r_X3_bid; rw [if_pos c_1, if_pos c_2, if_pos c_3, if_neg c_4, if_pos c_5, if_pos c_6, if_neg c_7, if_pos c_8]) (congrArg (fun z => (wT h cI cII z)) (by unfold s_X3_bid; rw [if_pos c_1, if_pos c_2, if_pos c_3, if_neg c_4, if_pos c_5, if_pos c_6, if_neg c_7, if_pos c_8])) (Nat.le_of_ble_eq_true rfl) (Nat.le_of_ble_eq_true rfl) dX3_bid_170
          · refine v_aload_n X dX3_bid_83 rfl ?_
            refine v_getfield (ref := "Trumpvault") (ci := 3) (index := 30) (v := .ref (h 1)) X iX3 0 wT_g0 rfl 3 (by decide) (by decide +kernel) (fun _ h9 => h9) rfl dX3_bid_84 ?_
            refine v_iload_n X dX3_bid_87 rfl ?_
            refine v_dup2 X dX3_bid_88 rfl rfl ?_
            refine v_iald X 1 0 wT_g1 rfl (needPlayer_in c_1) dX3_bid_89 ?_
            refine v_iload_n X dX3_bid_90 rfl ?_
            refine v_isub X dX3_bid_91 ?_
            refine v_iast (w' := (wT h cI cII (sU S 1 p1.toNatClampNeg ((S 1 p1.toNatClampNeg) - p3)))) X 1 0 wT_g1 rfl (needPlayer_in c_1) dX3_bid_92 wT_s1 ?_
            refine v_aload_n X dX3_bid_93 rfl ?_
            refine v_getfield (ref := "Trumpvault") (ci := 3) (index := 19) (v := .ref (h 13)) X iX3 0 wT_g0 rfl 1 (by decide) (by decide +kernel) (fun _ h9 => h9) rfl dX3_bid_94 ?_
            refine v_iload_n X dX3_bid_97 rfl ?_
            refine v_iload_n X dX3_bid_98 rfl ?_
            refine v_iload_n X dX3_bid_99 rfl ?_
            refine v_aload_n X dX3_bid_100 rfl ?_
            refine v_getfield (ref := "Trumpvault") (ci := 3) (index := 46) (v := .int ((sU S 1 p1.toNatClampNeg ((S 1 p1.toNatClampNeg) - p3)) 0 6)) X iX3 0 wT_g0 rfl 6 (by decide) (by decide +kernel) (fun _ h9 => h9) rfl dX3_bid_101 ?_
            refine v_callVvc (As := [.int p1, .int p2, .int p3, .int ((sU S 1 p1.toNatClampNeg ((S 1 p1.toNatClampNeg) - p3)) 0 6)]) (rest := []) (w' := (wT h cI cII (s_X0_put (sU S 1 p1.toNatClampNeg ((S 1 p1.toNatClampNeg) - p3)) p1 p2 p3 ((sU S 1 p1.toNatClampNeg ((S 1 p1.toNatClampNeg) - p3)) 0 6)))) X (c_X0_put l D cI cII cL h (sU S 1 p1.toNatClampNeg ((S 1 p1.toNatClampNeg) - p3)) p1 p2 p3 ((sU S 1 p1.toNatClampNeg ((S 1 p1.toNatClampNeg) - p3)) 0 6) (needPlayer_in c_1) (needKind_in c_2)) (cwV 4 X.2.2.2.1 gX3_bid_X0_put rfl rfl rfl (by decide +kernel) ⟨Nat.le_of_ble_eq_true rfl, Nat.le_of_ble_eq_true rfl⟩) isCB isRB pmB (cutB h cI cII (fr_X0_put (sU S 1 p1.toNatClampNeg ((S 1 p1.toNatClampNeg) - p3)) p1 p2 p3 ((sU S 1 p1.toNatClampNeg ((S 1 p1.toNatClampNeg) - p3)) 0 6) (needPlayer_in c_1))) 0 0 rfl rfl wB_g13 rfl rfl (Nat.le_of_ble_eq_true rfl) dX3_bid_104 ⟨Nat.le_of_ble_eq_true rfl, Nat.le_of_ble_eq_true rfl⟩ ?_
            refine v_aload_n X dX3_bid_107 rfl ?_
            refine v_dup X dX3_bid_108 rfl ?_
            refine v_getfield (ref := "Trumpvault") (ci := 3) (index := 46) (v := .int ((s_X0_put (sU S 1 p1.toNatClampNeg ((S 1 p1.toNatClampNeg) - p3)) p1 p2 p3 ((sU S 1 p1.toNatClampNeg ((S 1 p1.toNatClampNeg) - p3)) 0 6)) 0 6)) X iX3 0 wT_g0 rfl 6 (by decide) (by decide +kernel) (fun _ h9 => h9) rfl dX3_bid_109 ?_
            refine v_iconst (x := 1) X dX3_bid_112 rfl ?_
            refine v_iadd X dX3_bid_113 ?_
            refine v_putfield (w' := (wT h cI cII (sU (s_X0_put (sU S 1 p1.toNatClampNeg ((S 1 p1.toNatClampNeg) - p3)) p1 p2 p3 ((sU S 1 p1.toNatClampNeg ((S 1 p1.toNatClampNeg) - p3)) 0 6)) 0 6 (((s_X0_put (sU S 1 p1.toNatClampNeg ((S 1 p1.toNatClampNeg) - p3)) p1 p2 p3 ((sU S 1 p1.toNatClampNeg ((S 1 p1.toNatClampNeg) - p3)) 0 6)) 0 6) + 1)))) (ref := "Trumpvault") (ci := 3) (index := 46) (ty := .int) X iX3 tyX3 tyX3_ok nmX3 0 wT_g0 rfl 6 (by decide) (by decide +kernel) (fun _ h9 => h9) rfl (by decide +kernel) rfl rfl (Nat.le_of_ble_eq_true rfl) dX3_bid_114 wT_f0_6 ?_
            refine v_iconst (x := (-1)) X dX3_bid_117 rfl ?_
            exact v_xreti X TT hr rfl (by unfold x_X3_bid; rw [if_pos c_1, if_pos c_2, if_pos c_3, if_neg c_4, if_pos c_5, if_pos c_6, if_neg c_7, if_neg c_8]) (by unfold r_X3_bid; rw [if_pos c_1, if_pos c_2, if_pos c_3, if_neg c_4, if_pos c_5, if_pos c_6, if_neg c_7, if_neg c_8]) (congrArg (fun z => (wT h cI cII z)) (by unfold s_X3_bid; rw [if_pos c_1, if_pos c_2, if_pos c_3, if_neg c_4, if_pos c_5, if_pos c_6, if_neg c_7, if_neg c_8])) (Nat.le_of_ble_eq_true rfl) (Nat.le_of_ble_eq_true rfl) dX3_bid_118
      · exact v_throwG (is := 128) (text := "too few coins, a bid for the kind already, or a banned kind") X TT v_EL3 (by decide +kernel) (by decide +kernel) tv_E3 (by decide +kernel) dX3_bid_42 dX3_bid_45 dX3_bid_46 dX3_bid_48 dX3_bid_51 (by unfold x_X3_bid; rw [if_pos c_1, if_pos c_2, if_pos c_3, if_neg c_4, if_pos c_5, if_neg c_6]) rfl ⟨Nat.le_of_ble_eq_true rfl, Nat.le_of_ble_eq_true rfl, Nat.le_of_ble_eq_true rfl, Nat.le_of_ble_eq_true rfl⟩ (Nat.le_of_ble_eq_true rfl) (Nat.le_of_ble_eq_true rfl)

def r_X3_cancelSale (S : St) (p1 : Int32) : Int32 :=
  (if (x_X3_needCard S p1) = none then (if (S 7 p1.toNatClampNeg) = 1 then (r_X1_takeSale S p1) else 0) else 0)
def s_X3_cancelSale (S : St) (p1 : Int32) : St :=
  (if (x_X3_needCard S p1) = none then (if (S 7 p1.toNatClampNeg) = 1 then (s_X1_takeSale S p1) else S) else S)
def x_X3_cancelSale (S : St) (p1 : Int32) : Option String :=
  (if (x_X3_needCard S p1) = none then (if (S 7 p1.toNatClampNeg) = 1 then none else some v_E3) else (x_X3_needCard S p1))
set_option maxHeartbeats 1000000 in
set_option maxRecDepth 100000 in
theorem c_X3_cancelSale (l : Launch) (D : va_G) (cI cII cL : ClassId) (hlt : l.stackTraces = false) (h : Nat → Nat) (S : St) (p1 : Int32) (hcnt : cntC S) : v_Xi l D vwCl (tyl cI cII cL) yX3_cancelSale wsX3_cancelSale { frames := 7, cells := 2, slots := 12, locals := 103 } [.ref (h 0), .int p1] (wT h cI cII S) (x_X3_cancelSale S p1) (r_X3_cancelSale S p1) (wT h cI cII (s_X3_cancelSale S p1)) := by
  refine v_ofXi (cc := cX3_cancelSale) (maxL := 2) (ret := (some .int)) (own := RX3) (lv0 := [(0, .ref (h 0)), (1, .int p1)]) hlt (by decide) rfl rfl rfl (Nat.le_of_ble_eq_true rfl) ?_
  intro p e s m below meth c X TT hr
  have iX1 : ∀ w ∈ wsX10, w ∈ wsX3_cancelSale := by decide +kernel
  have iX3 : ∀ w ∈ wsX30, w ∈ wsX3_cancelSale := by decide +kernel
  have tv_E3 : ∀ w ∈ (vx_atS RX3 68 v_E3 v_nm).filter goodWord, w ∈ wsX3_cancelSale := by decide +kernel
  refine v_aload_n X dX3_cancelSale_0 rfl ?_
  refine v_iload_n X dX3_cancelSale_1 rfl ?_
  refine v_xcallVv (As := [.int p1]) (rest := []) (w' := (wT h cI cII S)) X TT.2.1 (c_X3_needCard l D cI cII cL hlt h S p1) (cwV 1 X.2.2.2.1 gX3_cancelSale_X3_needCard rfl rfl rfl (by decide +kernel) ⟨Nat.le_of_ble_eq_true rfl, Nat.le_of_ble_eq_true rfl⟩) 0 3 rfl rfl wT_g0 rfl rfl (Nat.le_of_ble_eq_true rfl) dX3_cancelSale_2 ⟨Nat.le_of_ble_eq_true rfl, Nat.le_of_ble_eq_true rfl⟩ (fun E q9 hx => v_outG X TT ((by have c_1 : ¬ (x_X3_needCard S p1) = none := (by rw [hx]; exact nofun); unfold x_X3_cancelSale; rw [if_neg c_1] : (x_X3_cancelSale S p1) = (x_X3_needCard S p1)).trans hx) rfl (Nat.le_of_ble_eq_true rfl) (Nat.le_of_ble_eq_true rfl)) (fun c_1 => ?_)
  refine v_aload_n X dX3_cancelSale_5 rfl ?_
  refine v_getfield (ref := "Trumpvault") (ci := 3) (index := 10) (v := .ref (h 4)) X iX3 0 wT_g0 rfl 0 (by decide) (by decide +kernel) (fun _ h9 => h9) rfl dX3_cancelSale_6 ?_
  refine v_getfield (ref := "Trumpvault$Cards") (ci := 1) (index := 92) (v := .ref (h 7)) X iX1 4 wT_g4 rfl 2 (by decide) (by decide +kernel) (fun _ h9 => h9) rfl dX3_cancelSale_9 ?_
  refine v_iload_n X dX3_cancelSale_12 rfl ?_
  refine v_iald X 7 0 wT_g7 rfl (needCard_in hcnt c_1) dX3_cancelSale_13 ?_
  refine v_iconst (x := 1) X dX3_cancelSale_14 rfl ?_
  refine v_icmp_eq (tgt := 28) X dX3_cancelSale_15 (by decide) (fun c_2 => ?_) (fun c_2 => ?_)
  · refine v_aload_n X dX3_cancelSale_28 rfl ?_
    refine v_getfield (ref := "Trumpvault") (ci := 3) (index := 10) (v := .ref (h 4)) X iX3 0 wT_g0 rfl 0 (by decide) (by decide +kernel) (fun _ h9 => h9) rfl dX3_cancelSale_29 ?_
    refine v_iload_n X dX3_cancelSale_32 rfl ?_
    refine v_callVic (As := [.int p1]) (rest := []) (w' := (wT h cI cII (s_X1_takeSale S p1))) X (c_X1_takeSale l D cI cII cL h S p1 (needCard_in hcnt c_1)) (cwV 1 X.2.2.2.1 gX3_cancelSale_X1_takeSale rfl rfl rfl (by decide +kernel) ⟨Nat.le_of_ble_eq_true rfl, Nat.le_of_ble_eq_true rfl⟩) isCC isRC pmC (cutC h cI cII (fr_X1_takeSale S p1)) 0 1 rfl rfl wC_g4 rfl rfl (Nat.le_of_ble_eq_true rfl) dX3_cancelSale_33 ⟨Nat.le_of_ble_eq_true rfl, Nat.le_of_ble_eq_true rfl⟩ ?_
    exact v_xreti X TT hr rfl (by unfold x_X3_cancelSale; rw [if_pos c_1, if_pos c_2]) (by unfold r_X3_cancelSale; rw [if_pos c_1, if_pos c_2]) (congrArg (fun z => (wT h cI cII z)) (by unfold s_X3_cancelSale; rw [if_pos c_1, if_pos c_2])) (Nat.le_of_ble_eq_true rfl) (Nat.le_of_ble_eq_true rfl) dX3_cancelSale_36
  · exact v_throwG (is := 143) (text := "the card is not for sale") X TT v_EL3 (by decide +kernel) (by decide +kernel) tv_E3 (by decide +kernel) dX3_cancelSale_18 dX3_cancelSale_21 dX3_cancelSale_22 dX3_cancelSale_24 dX3_cancelSale_27 (by unfold x_X3_cancelSale; rw [if_pos c_1, if_neg c_2]) rfl ⟨Nat.le_of_ble_eq_true rfl, Nat.le_of_ble_eq_true rfl, Nat.le_of_ble_eq_true rfl, Nat.le_of_ble_eq_true rfl⟩ (Nat.le_of_ble_eq_true rfl) (Nat.le_of_ble_eq_true rfl)

def r_X3_cancelBid (S : St) (p1 p2 : Int32) : Int32 :=
  (if (x_X3_needPlayer p1) = none then (if (x_X3_needKind p2) = none then (if (r_X0_has S p1 p2) = 0 then 0 else (r_X3_giveBidBack S p1 p2)) else 0) else 0)
def s_X3_cancelBid (S : St) (p1 p2 : Int32) : St :=
  (if (x_X3_needPlayer p1) = none then (if (x_X3_needKind p2) = none then (if (r_X0_has S p1 p2) = 0 then S else (s_X3_giveBidBack S p1 p2)) else S) else S)
def x_X3_cancelBid (S : St) (p1 p2 : Int32) : Option String :=
  (if (x_X3_needPlayer p1) = none then (if (x_X3_needKind p2) = none then (if (r_X0_has S p1 p2) = 0 then some v_E3 else none) else (x_X3_needKind p2)) else (x_X3_needPlayer p1))
set_option maxHeartbeats 1000000 in
set_option maxRecDepth 100000 in
theorem c_X3_cancelBid (l : Launch) (D : va_G) (cI cII cL : ClassId) (hlt : l.stackTraces = false) (h : Nat → Nat) (S : St) (p1 p2 : Int32) : v_Xi l D vwCl (tyl cI cII cL) yX3_cancelBid wsX3_cancelBid { frames := 7, cells := 3, slots := 18, locals := 102 } [.ref (h 0), .int p1, .int p2] (wT h cI cII S) (x_X3_cancelBid S p1 p2) (r_X3_cancelBid S p1 p2) (wT h cI cII (s_X3_cancelBid S p1 p2)) := by
  refine v_ofXi (cc := cX3_cancelBid) (maxL := 3) (ret := (some .int)) (own := RX3) (lv0 := [(0, .ref (h 0)), (1, .int p1), (2, .int p2)]) hlt (by decide) rfl rfl rfl (Nat.le_of_ble_eq_true rfl) ?_
  intro p e s m below meth c X TT hr
  have iX3 : ∀ w ∈ wsX30, w ∈ wsX3_cancelBid := by decide +kernel
  have tv_E3 : ∀ w ∈ (vx_atS RX3 68 v_E3 v_nm).filter goodWord, w ∈ wsX3_cancelBid := by decide +kernel
  refine v_iload_n X dX3_cancelBid_0 rfl ?_
  refine v_xcallSv0 (As := [.int p1]) (rest := []) X TT.2.1 (c_X3_needPlayer l D cI cII cL hlt p1) (cwS 1 X.2.2.2.1 gX3_cancelBid_X3_needPlayer rfl rfl rfl (by decide +kernel) ⟨Nat.le_of_ble_eq_true rfl, Nat.le_of_ble_eq_true rfl⟩) rfl rfl (Nat.le_of_ble_eq_true rfl) dX3_cancelBid_1 ⟨Nat.le_of_ble_eq_true rfl, Nat.le_of_ble_eq_true rfl⟩ (fun E q9 hx => v_outG X TT ((by have c_1 : ¬ (x_X3_needPlayer p1) = none := (by rw [hx]; exact nofun); unfold x_X3_cancelBid; rw [if_neg c_1] : (x_X3_cancelBid S p1 p2) = (x_X3_needPlayer p1)).trans hx) rfl (Nat.le_of_ble_eq_true rfl) (Nat.le_of_ble_eq_true rfl)) (fun c_1 => ?_)
  refine v_iload_n X dX3_cancelBid_4 rfl ?_
  refine v_xcallSv0 (As := [.int p2]) (rest := []) X TT.2.1 (c_X3_needKind l D cI cII cL hlt p2) (cwS 1 X.2.2.2.1 gX3_cancelBid_X3_needKind rfl rfl rfl (by decide +kernel) ⟨Nat.le_of_ble_eq_true rfl, Nat.le_of_ble_eq_true rfl⟩) rfl rfl (Nat.le_of_ble_eq_true rfl) dX3_cancelBid_5 ⟨Nat.le_of_ble_eq_true rfl, Nat.le_of_ble_eq_true rfl⟩ (fun E q9 hx => v_outG X TT ((by have c_2 : ¬ (x_X3_needKind p2) = none := (by rw [hx]; exact nofun); unfold x_X3_cancelBid; rw [if_pos c_1, if_neg c_2] : (x_X3_cancelBid S p1 p2) = (x_X3_needKind p2)).trans hx) rfl (Nat.le_of_ble_eq_true rfl) (Nat.le_of_ble_eq_true rfl)) (fun c_2 => ?_)
  refine v_aload_n X dX3_cancelBid_8 rfl ?_
  refine v_getfield (ref := "Trumpvault") (ci := 3) (index := 19) (v := .ref (h 13)) X iX3 0 wT_g0 rfl 1 (by decide) (by decide +kernel) (fun _ h9 => h9) rfl dX3_cancelBid_9 ?_
  refine v_iload_n X dX3_cancelBid_12 rfl ?_
  refine v_iload_n X dX3_cancelBid_13 rfl ?_
  refine v_callVic (As := [.int p1, .int p2]) (rest := []) (w' := (wT h cI cII S)) X (c_X0_has l D cI cII cL h S p1 p2 (needPlayer_in c_1) (needKind_in c_2)) (cwV 2 X.2.2.2.1 gX3_cancelBid_X0_has rfl rfl rfl (by decide +kernel) ⟨Nat.le_of_ble_eq_true rfl, Nat.le_of_ble_eq_true rfl⟩) isCB isRB pmB (cutB h cI cII (fun _ _ => rfl)) 0 0 rfl rfl wB_g13 rfl rfl (Nat.le_of_ble_eq_true rfl) dX3_cancelBid_14 ⟨Nat.le_of_ble_eq_true rfl, Nat.le_of_ble_eq_true rfl⟩ ?_
  refine v_if_ne (tgt := 30) X dX3_cancelBid_17 (by decide) (fun c_3 => ?_) (fun c_3 => ?_)
  · refine v_aload_n X dX3_cancelBid_30 rfl ?_
    refine v_iload_n X dX3_cancelBid_31 rfl ?_
    refine v_iload_n X dX3_cancelBid_32 rfl ?_
    refine v_callVi (As := [.int p1, .int p2]) (rest := []) (w' := (wT h cI cII (s_X3_giveBidBack S p1 p2))) X (c_X3_giveBidBack l D cI cII cL h S p1 p2 (needPlayer_in c_1) (needKind_in c_2)) (cwV 2 X.2.2.2.1 gX3_cancelBid_X3_giveBidBack rfl rfl rfl (by decide +kernel) ⟨Nat.le_of_ble_eq_true rfl, Nat.le_of_ble_eq_true rfl⟩) 0 3 rfl rfl wT_g0 rfl rfl (Nat.le_of_ble_eq_true rfl) dX3_cancelBid_33 ⟨Nat.le_of_ble_eq_true rfl, Nat.le_of_ble_eq_true rfl⟩ ?_
    exact v_xreti X TT hr rfl (by unfold x_X3_cancelBid; rw [if_pos c_1, if_pos c_2, if_neg c_3]) (by unfold r_X3_cancelBid; rw [if_pos c_1, if_pos c_2, if_neg c_3]) (congrArg (fun z => (wT h cI cII z)) (by unfold s_X3_cancelBid; rw [if_pos c_1, if_pos c_2, if_neg c_3])) (Nat.le_of_ble_eq_true rfl) (Nat.le_of_ble_eq_true rfl) dX3_cancelBid_36
  · exact v_throwG (is := 145) (text := "the player has no bid for the kind") X TT v_EL3 (by decide +kernel) (by decide +kernel) tv_E3 (by decide +kernel) dX3_cancelBid_20 dX3_cancelBid_23 dX3_cancelBid_24 dX3_cancelBid_26 dX3_cancelBid_29 (by unfold x_X3_cancelBid; rw [if_pos c_1, if_pos c_2, if_pos c_3]) rfl ⟨Nat.le_of_ble_eq_true rfl, Nat.le_of_ble_eq_true rfl, Nat.le_of_ble_eq_true rfl, Nat.le_of_ble_eq_true rfl⟩ (Nat.le_of_ble_eq_true rfl) (Nat.le_of_ble_eq_true rfl)

def r_X3_leastSale (S : St) (p1 : Int32) : Int32 :=
  (if (x_X3_needKind p1) = none then (if (r_X1_bestSale S p1 (-1)) = (-1) then (-1) else (S 8 (r_X1_bestSale S p1 (-1)).toNatClampNeg)) else 0)
def x_X3_leastSale (S : St) (p1 : Int32) : Option String :=
  (if (x_X3_needKind p1) = none then (if (r_X1_bestSale S p1 (-1)) = (-1) then none else none) else (x_X3_needKind p1))
set_option maxHeartbeats 1000000 in
set_option maxRecDepth 100000 in
theorem c_X3_leastSale (l : Launch) (D : va_G) (cI cII cL : ClassId) (hlt : l.stackTraces = false) (h : Nat → Nat) (S : St) (p1 : Int32) (hcnt : cntC S) : v_Xi l D vwCl (tyl cI cII cL) yX3_leastSale wsX3_leastSale { frames := 7, cells := 1, slots := 6, locals := 102 } [.ref (h 0), .int p1] (wT h cI cII S) (x_X3_leastSale S p1) (r_X3_leastSale S p1) (wT h cI cII S) := by
  refine v_ofXi (cc := cX3_leastSale) (maxL := 3) (ret := (some .int)) (own := RX3) (lv0 := [(0, .ref (h 0)), (1, .int p1)]) hlt (by decide) rfl rfl rfl (Nat.le_of_ble_eq_true rfl) ?_
  intro p e s m below meth c X TT hr
  have iX1 : ∀ w ∈ wsX10, w ∈ wsX3_leastSale := by decide +kernel
  have iX3 : ∀ w ∈ wsX30, w ∈ wsX3_leastSale := by decide +kernel
  refine v_iload_n X dX3_leastSale_0 rfl ?_
  refine v_xcallSv0 (As := [.int p1]) (rest := []) X TT.2.1 (c_X3_needKind l D cI cII cL hlt p1) (cwS 1 X.2.2.2.1 gX3_leastSale_X3_needKind rfl rfl rfl (by decide +kernel) ⟨Nat.le_of_ble_eq_true rfl, Nat.le_of_ble_eq_true rfl⟩) rfl rfl (Nat.le_of_ble_eq_true rfl) dX3_leastSale_1 ⟨Nat.le_of_ble_eq_true rfl, Nat.le_of_ble_eq_true rfl⟩ (fun E q9 hx => v_outG X TT ((by have c_1 : ¬ (x_X3_needKind p1) = none := (by rw [hx]; exact nofun); unfold x_X3_leastSale; rw [if_neg c_1] : (x_X3_leastSale S p1) = (x_X3_needKind p1)).trans hx) rfl (Nat.le_of_ble_eq_true rfl) (Nat.le_of_ble_eq_true rfl)) (fun c_1 => ?_)
  refine v_aload_n X dX3_leastSale_4 rfl ?_
  refine v_getfield (ref := "Trumpvault") (ci := 3) (index := 10) (v := .ref (h 4)) X iX3 0 wT_g0 rfl 0 (by decide) (by decide +kernel) (fun _ h9 => h9) rfl dX3_leastSale_5 ?_
  refine v_iload_n X dX3_leastSale_8 rfl ?_
  refine v_iconst (x := (-1)) X dX3_leastSale_9 rfl ?_
  refine v_callVic (As := [.int p1, .int (-1)]) (rest := []) (w' := (wT h cI cII S)) X (c_X1_bestSale l D cI cII cL h S p1 (-1) hcnt) (cwV 2 X.2.2.2.1 gX3_leastSale_X1_bestSale rfl rfl rfl (by decide +kernel) ⟨Nat.le_of_ble_eq_true rfl, Nat.le_of_ble_eq_true rfl⟩) isCC isRC pmC (cutC h cI cII (fun _ _ => rfl)) 0 1 rfl rfl wC_g4 rfl rfl (Nat.le_of_ble_eq_true rfl) dX3_leastSale_10 ⟨Nat.le_of_ble_eq_true rfl, Nat.le_of_ble_eq_true rfl⟩ ?_
  refine v_istore_n (lv' := [(2, .int (r_X1_bestSale S p1 (-1))), (0, .ref (h 0)), (1, .int p1)]) X dX3_leastSale_13 (by decide) rfl ?_
  refine v_iload_n X dX3_leastSale_14 rfl ?_
  refine v_iconst (x := (-1)) X dX3_leastSale_15 rfl ?_
  refine v_icmp_ne (tgt := 23) X dX3_leastSale_16 (by decide) (fun c_2 => ?_) (fun c_2 => ?_)
  · refine v_aload_n X dX3_leastSale_23 rfl ?_
    refine v_getfield (ref := "Trumpvault") (ci := 3) (index := 10) (v := .ref (h 4)) X iX3 0 wT_g0 rfl 0 (by decide) (by decide +kernel) (fun _ h9 => h9) rfl dX3_leastSale_24 ?_
    refine v_getfield (ref := "Trumpvault$Cards") (ci := 1) (index := 133) (v := .ref (h 8)) X iX1 4 wT_g4 rfl 3 (by decide) (by decide +kernel) (fun _ h9 => h9) rfl dX3_leastSale_27 ?_
    refine v_iload_n X dX3_leastSale_30 rfl ?_
    refine v_iald X 8 0 wT_g8 rfl ((rngr_X1_bestSale hcnt _ _).resolve_left c_2) dX3_leastSale_31 ?_
    exact v_xreti X TT hr rfl (by unfold x_X3_leastSale; rw [if_pos c_1, if_neg c_2]) (by unfold r_X3_leastSale; rw [if_pos c_1, if_neg c_2]) rfl (Nat.le_of_ble_eq_true rfl) (Nat.le_of_ble_eq_true rfl) dX3_leastSale_32
  · refine v_iconst (x := (-1)) X dX3_leastSale_19 rfl ?_
    refine v_goto (tgt := 32) X dX3_leastSale_20 (by decide) ?_
    exact v_xreti X TT hr rfl (by unfold x_X3_leastSale; rw [if_pos c_1, if_pos c_2]) (by unfold r_X3_leastSale; rw [if_pos c_1, if_pos c_2]) rfl (Nat.le_of_ble_eq_true rfl) (Nat.le_of_ble_eq_true rfl) dX3_leastSale_32

def r_X3_greatestBid (S : St) (p1 : Int32) : Int32 :=
  (if (x_X3_needKind p1) = none then (if (r_X0_bestBidder S p1 (-1)) = (-1) then (-1) else (S (15 + (r_X0_bestBidder S p1 (-1)).toNatClampNeg) p1.toNatClampNeg)) else 0)
def x_X3_greatestBid (S : St) (p1 : Int32) : Option String :=
  (if (x_X3_needKind p1) = none then (if (r_X0_bestBidder S p1 (-1)) = (-1) then none else none) else (x_X3_needKind p1))
set_option maxHeartbeats 1000000 in
set_option maxRecDepth 100000 in
theorem c_X3_greatestBid (l : Launch) (D : va_G) (cI cII cL : ClassId) (hlt : l.stackTraces = false) (h : Nat → Nat) (S : St) (p1 : Int32) : v_Xi l D vwCl (tyl cI cII cL) yX3_greatestBid wsX3_greatestBid { frames := 7, cells := 1, slots := 6, locals := 102 } [.ref (h 0), .int p1] (wT h cI cII S) (x_X3_greatestBid S p1) (r_X3_greatestBid S p1) (wT h cI cII S) := by
  refine v_ofXi (cc := cX3_greatestBid) (maxL := 3) (ret := (some .int)) (own := RX3) (lv0 := [(0, .ref (h 0)), (1, .int p1)]) hlt (by decide) rfl rfl rfl (Nat.le_of_ble_eq_true rfl) ?_
  intro p e s m below meth c X TT hr
  have iX0 : ∀ w ∈ wsX00, w ∈ wsX3_greatestBid := by decide +kernel
  have iX3 : ∀ w ∈ wsX30, w ∈ wsX3_greatestBid := by decide +kernel
  refine v_iload_n X dX3_greatestBid_0 rfl ?_
  refine v_xcallSv0 (As := [.int p1]) (rest := []) X TT.2.1 (c_X3_needKind l D cI cII cL hlt p1) (cwS 1 X.2.2.2.1 gX3_greatestBid_X3_needKind rfl rfl rfl (by decide +kernel) ⟨Nat.le_of_ble_eq_true rfl, Nat.le_of_ble_eq_true rfl⟩) rfl rfl (Nat.le_of_ble_eq_true rfl) dX3_greatestBid_1 ⟨Nat.le_of_ble_eq_true rfl, Nat.le_of_ble_eq_true rfl⟩ (fun E q9 hx => v_outG X TT ((by have c_1 : ¬ (x_X3_needKind p1) = none := (by rw [hx]; exact nofun); unfold x_X3_greatestBid; rw [if_neg c_1] : (x_X3_greatestBid S p1) = (x_X3_needKind p1)).trans hx) rfl (Nat.le_of_ble_eq_true rfl) (Nat.le_of_ble_eq_true rfl)) (fun c_1 => ?_)
  refine v_aload_n X dX3_greatestBid_4 rfl ?_
  refine v_getfield (ref := "Trumpvault") (ci := 3) (index := 19) (v := .ref (h 13)) X iX3 0 wT_g0 rfl 1 (by decide) (by decide +kernel) (fun _ h9 => h9) rfl dX3_greatestBid_5 ?_
  refine v_iload_n X dX3_greatestBid_8 rfl ?_
  refine v_iconst (x := (-1)) X dX3_greatestBid_9 rfl ?_
  refine v_callVic (As := [.int p1, .int (-1)]) (rest := []) (w' := (wT h cI cII S)) X (c_X0_bestBidder l D cI cII cL h S p1 (-1) (needKind_in c_1)) (cwV 2 X.2.2.2.1 gX3_greatestBid_X0_bestBidder rfl rfl rfl (by decide +kernel) ⟨Nat.le_of_ble_eq_true rfl, Nat.le_of_ble_eq_true rfl⟩) isCB isRB pmB (cutB h cI cII (fun _ _ => rfl)) 0 0 rfl rfl wB_g13 rfl rfl (Nat.le_of_ble_eq_true rfl) dX3_greatestBid_10 ⟨Nat.le_of_ble_eq_true rfl, Nat.le_of_ble_eq_true rfl⟩ ?_
  refine v_istore_n (lv' := [(2, .int (r_X0_bestBidder S p1 (-1))), (0, .ref (h 0)), (1, .int p1)]) X dX3_greatestBid_13 (by decide) rfl ?_
  refine v_iload_n X dX3_greatestBid_14 rfl ?_
  refine v_iconst (x := (-1)) X dX3_greatestBid_15 rfl ?_
  refine v_icmp_ne (tgt := 23) X dX3_greatestBid_16 (by decide) (fun c_2 => ?_) (fun c_2 => ?_)
  · refine v_aload_n X dX3_greatestBid_23 rfl ?_
    refine v_getfield (ref := "Trumpvault") (ci := 3) (index := 19) (v := .ref (h 13)) X iX3 0 wT_g0 rfl 1 (by decide) (by decide +kernel) (fun _ h9 => h9) rfl dX3_greatestBid_24 ?_
    refine v_getfield (ref := "Trumpvault$Bids") (ci := 0) (index := 110) (v := .ref (h 14)) X iX0 13 wT_g13 rfl 0 (by decide) (by decide +kernel) (fun _ h9 => h9) rfl dX3_greatestBid_27 ?_
    refine v_iload_n X dX3_greatestBid_30 rfl ?_
    refine v_aald (b := h (15 + (r_X0_bestBidder S p1 (-1)).toNatClampNeg)) X 14 1 wT_g14 rfl ((rngr_X0_bestBidder _ _ _).resolve_left c_2) (if_pos (vp_lt ((rngr_X0_bestBidder _ _ _).resolve_left c_2))) dX3_greatestBid_31 ?_
    refine v_iload_n X dX3_greatestBid_32 rfl ?_
    refine v_iald X (15 + (r_X0_bestBidder S p1 (-1)).toNatClampNeg) 0 (wT_row15 ((rngr_X0_bestBidder _ _ _).resolve_left c_2)) rfl (needKind_in c_1) dX3_greatestBid_33 ?_
    exact v_xreti X TT hr rfl (by unfold x_X3_greatestBid; rw [if_pos c_1, if_neg c_2]) (by unfold r_X3_greatestBid; rw [if_pos c_1, if_neg c_2]) rfl (Nat.le_of_ble_eq_true rfl) (Nat.le_of_ble_eq_true rfl) dX3_greatestBid_34
  · refine v_iconst (x := (-1)) X dX3_greatestBid_19 rfl ?_
    refine v_goto (tgt := 34) X dX3_greatestBid_20 (by decide) ?_
    exact v_xreti X TT hr rfl (by unfold x_X3_greatestBid; rw [if_pos c_1, if_pos c_2]) (by unfold r_X3_greatestBid; rw [if_pos c_1, if_pos c_2]) rfl (Nat.le_of_ble_eq_true rfl) (Nat.le_of_ble_eq_true rfl) dX3_greatestBid_34
