def k_L_mint (S : St) (p1 p2 : Int32) : Int32 :=
  (if (x_X3_mint S p1 p2) = none then 0 else if (x_X3_mint S p1 p2) = some v_E1 then 1 else 2)
def s_L_mint (S : St) (p1 p2 : Int32) : St :=
  (if (x_X3_mint S p1 p2) = none then (s_X3_mint S p1 p2) else S)
def f_L_mint (S : St) (p1 p2 : Int32) (F : Nat → Int64) : Nat → Int64 :=
  (if (x_X3_mint S p1 p2) = none then vp_updL F 0 (r_X3_mint S p1 p2).toInt64 else F)
set_option maxHeartbeats 1000000 in
set_option maxRecDepth 100000 in
theorem c_L_mint (l : Launch) (D : va_G) (cI cII cL : ClassId) (hlt : l.stackTraces = false) (h : Nat → Nat) (o : Nat) (S : St) (p1 p2 : Int32) (F : Nat → Int64) (hcnt : cntC S) (hhis : hisC S) : v_Li l D vwCl (tyl cI cII cL) yL_mint wsL_mint { frames := 8, cells := 3, slots := 18, locals := 125 } [.ref (h 0), .int p1, .int p2, .ref o] (wL h cI cII cL o S F) (k_L_mint S p1 p2) (wL h cI cII cL o (s_L_mint S p1 p2) (f_L_mint S p1 p2 F)) := by
  refine v_ofLi (cc := cL_mint) (maxL := 5) (ret := (some .int)) (own := RL) (lv0 := [(0, .ref (h 0)), (1, .int p1), (2, .int p2), (3, .ref o)]) (by decide) rfl rfl rfl (Nat.le_of_ble_eq_true rfl) ?_
  intro p e s m below meth c X hXW htab hr hk
  refine v_aload_n X dL_mint_0 rfl ?_
  refine v_iconst (x := 0) X dL_mint_1 rfl ?_
  refine v_aload_n X dL_mint_2 rfl ?_
  refine v_iload_n X dL_mint_3 rfl ?_
  refine v_iload_n X dL_mint_4 rfl ?_
  refine v_xcallVic (As := [.int p1, .int p2]) (rest := [.int 0, .ref o]) (w' := wL h cI cII cL o (s_X3_mint S p1 p2) F) X hXW (c_X3_mint l D cI cII cL hlt h S p1 p2 hcnt hhis) (cwV 2 X.2.2.2.1 gL_mint_X3_mint rfl rfl rfl (by decide +kernel) ⟨Nat.le_of_ble_eq_true rfl, Nat.le_of_ble_eq_true rfl⟩) isCL isRL pmL (cutL h cI cII cL o) (cutL h cI cII cL o) 0 3 rfl rfl wT_g0 rfl rfl (Nat.le_of_ble_eq_true rfl) dL_mint_5 ⟨Nat.le_of_ble_eq_true rfl, Nat.le_of_ble_eq_true rfl⟩ (fun E q9 hx => ?_) (fun c_1 => ?_)
  · have hn : ¬ (x_X3_mint S p1 p2) = none := by rw [hx]; exact nofun
    rcases xr_X3_mint S p1 p2 with hE | hE | hE
    · exact absurd hE hn
    · obtain rfl : v_E1 = E := Option.some.inj (hE.symm.trans hx)
      refine v_catch (E := v_E1) (name := v_E1) (pre := []) (z := ⟨0, 10, 13, 13⟩) (suf := [⟨0, 10, 17, 15⟩]) X htab (fun y hy => absurd hy List.not_mem_nil) rfl (by decide) (by decide +kernel) (hXW.2.2.2.1 v_E1 (by decide +kernel)) ?_
      refine v_astore (lv' := (4, .ref q9) :: [(0, .ref (h 0)), (1, .int p1), (2, .int p2), (3, .ref o)]) X dL_mint_13 (by decide) rfl ?_
      refine v_iconst (x := 1) X dL_mint_15 rfl ?_
      exact v_reti X hr hk rfl (by unfold k_L_mint; rw [if_neg hn, if_pos hE]) (by unfold s_L_mint f_L_mint; rw [if_neg hn, if_neg hn]) (Nat.le_of_ble_eq_true rfl) (Nat.le_of_ble_eq_true rfl) dL_mint_16
    · obtain rfl : v_E3 = E := Option.some.inj (hE.symm.trans hx)
      refine v_catch (E := v_E3) (name := v_E3) (pre := [⟨0, 10, 13, 13⟩]) (z := ⟨0, 10, 17, 15⟩) (suf := []) X htab (fun y hy => by rcases List.mem_singleton.mp hy with rfl; exact Or.inr ⟨by decide, v_E1, X.2.2.2.1 _ (by decide +kernel : Cond.classLink RL 13 v_E1 ∈ wsL_mint), hXW.2.2.2.2.2 (v_E3, v_E1) (by decide +kernel)⟩) rfl (by decide) (by decide +kernel) (hXW.2.2.2.1 v_E3 (by decide +kernel)) ?_
      refine v_astore (lv' := (4, .ref q9) :: [(0, .ref (h 0)), (1, .int p1), (2, .int p2), (3, .ref o)]) X dL_mint_17 (by decide) rfl ?_
      refine v_iconst (x := 2) X dL_mint_19 rfl ?_
      exact v_reti X hr hk rfl (by unfold k_L_mint; rw [if_neg hn, if_neg (show ¬ (x_X3_mint S p1 p2) = some v_E1 from by rw [hE]; decide)]) (by unfold s_L_mint f_L_mint; rw [if_neg hn, if_neg hn]) (Nat.le_of_ble_eq_true rfl) (Nat.le_of_ble_eq_true rfl) dL_mint_20
  · refine v_i2l X dL_mint_8 ?_
    refine v_last (w' := wL h cI cII cL o (s_X3_mint S p1 p2) (vp_updL F 0 (r_X3_mint S p1 p2).toInt64)) X 29 2 wL_go rfl (vp_in_nI (n := 0) (by decide) (by decide)) dL_mint_9 wL_so ?_
    refine v_goto (tgt := 21) X dL_mint_10 (by decide) ?_
    refine v_iconst (x := 0) X dL_mint_21 rfl ?_
    exact v_reti X hr hk rfl (by unfold k_L_mint; rw [if_pos c_1]) (by unfold s_L_mint f_L_mint; rw [if_pos c_1, if_pos c_1]) (Nat.le_of_ble_eq_true rfl) (Nat.le_of_ble_eq_true rfl) dL_mint_22
def k_L_owner (S : St) (p1 : Int32) : Int32 :=
  (if (x_X3_owner S p1) = none then 0 else 1)
def f_L_owner (S : St) (p1 : Int32) (F : Nat → Int64) : Nat → Int64 :=
  (if (x_X3_owner S p1) = none then vp_updL F 0 (r_X3_owner S p1).toInt64 else F)
set_option maxHeartbeats 1000000 in
set_option maxRecDepth 100000 in
theorem c_L_owner (l : Launch) (D : va_G) (cI cII cL : ClassId) (hlt : l.stackTraces = false) (h : Nat → Nat) (o : Nat) (S : St) (p1 : Int32) (F : Nat → Int64) (hcnt : cntC S) : v_Li l D vwCl (tyl cI cII cL) yL_owner wsL_owner { frames := 8, cells := 1, slots := 6, locals := 124 } [.ref (h 0), .int p1, .ref o] (wL h cI cII cL o S F) (k_L_owner S p1) (wL h cI cII cL o S (f_L_owner S p1 F)) := by
  refine v_ofLi (cc := cL_owner) (maxL := 4) (ret := (some .int)) (own := RL) (lv0 := [(0, .ref (h 0)), (1, .int p1), (2, .ref o)]) (by decide) rfl rfl rfl (Nat.le_of_ble_eq_true rfl) ?_
  intro p e s m below meth c X hXW htab hr hk
  refine v_aload_n X dL_owner_0 rfl ?_
  refine v_iconst (x := 0) X dL_owner_1 rfl ?_
  refine v_aload_n X dL_owner_2 rfl ?_
  refine v_iload_n X dL_owner_3 rfl ?_
  refine v_xcallVic (As := [.int p1]) (rest := [.int 0, .ref o]) (w' := wL h cI cII cL o S F) X hXW (c_X3_owner l D cI cII cL hlt h S p1 hcnt) (cwV 1 X.2.2.2.1 gL_owner_X3_owner rfl rfl rfl (by decide +kernel) ⟨Nat.le_of_ble_eq_true rfl, Nat.le_of_ble_eq_true rfl⟩) isCL isRL pmL (cutL h cI cII cL o) (cutL h cI cII cL o) 0 3 rfl rfl wT_g0 rfl rfl (Nat.le_of_ble_eq_true rfl) dL_owner_4 ⟨Nat.le_of_ble_eq_true rfl, Nat.le_of_ble_eq_true rfl⟩ (fun E q9 hx => ?_) (fun c_1 => ?_)
  · have hn : ¬ (x_X3_owner S p1) = none := by rw [hx]; exact nofun
    rcases xr_X3_owner S p1 with hE | hE
    · exact absurd hE hn
    · obtain rfl : v_E1 = E := Option.some.inj (hE.symm.trans hx)
      refine v_catch (E := v_E1) (name := v_E1) (pre := []) (z := ⟨0, 9, 12, 13⟩) (suf := []) X htab (fun y hy => absurd hy List.not_mem_nil) rfl (by decide) (by decide +kernel) (hXW.2.2.2.1 v_E1 (by decide +kernel)) ?_
      refine v_astore_n (lv' := (3, .ref q9) :: [(0, .ref (h 0)), (1, .int p1), (2, .ref o)]) X dL_owner_12 (by decide) rfl ?_
      refine v_iconst (x := 1) X dL_owner_13 rfl ?_
      exact v_reti X hr hk rfl (by unfold k_L_owner; rw [if_neg hn]) (by unfold f_L_owner; rw [if_neg hn]) (Nat.le_of_ble_eq_true rfl) (Nat.le_of_ble_eq_true rfl) dL_owner_14
  · refine v_i2l X dL_owner_7 ?_
    refine v_last (w' := wL h cI cII cL o S (vp_updL F 0 (r_X3_owner S p1).toInt64)) X 29 2 wL_go rfl (vp_in_nI (n := 0) (by decide) (by decide)) dL_owner_8 wL_so ?_
    refine v_goto (tgt := 15) X dL_owner_9 (by decide) ?_
    refine v_iconst (x := 0) X dL_owner_15 rfl ?_
    exact v_reti X hr hk rfl (by unfold k_L_owner; rw [if_pos c_1]) (by unfold f_L_owner; rw [if_pos c_1]) (Nat.le_of_ble_eq_true rfl) (Nat.le_of_ble_eq_true rfl) dL_owner_16
def k_L_ownerByHistory (S : St) (p1 : Int32) : Int32 :=
  (if (x_X3_ownerByHistory S p1) = none then 0 else 1)
def f_L_ownerByHistory (S : St) (p1 : Int32) (F : Nat → Int64) : Nat → Int64 :=
  (if (x_X3_ownerByHistory S p1) = none then vp_updL F 0 (r_X3_ownerByHistory S p1).toInt64 else F)
set_option maxHeartbeats 1000000 in
set_option maxRecDepth 100000 in
theorem c_L_ownerByHistory (l : Launch) (D : va_G) (cI cII cL : ClassId) (hlt : l.stackTraces = false) (h : Nat → Nat) (o : Nat) (S : St) (p1 : Int32) (F : Nat → Int64) (hcnt : cntC S) (hhis : hisC S) : v_Li l D vwCl (tyl cI cII cL) yL_ownerByHistory wsL_ownerByHistory { frames := 8, cells := 1, slots := 6, locals := 124 } [.ref (h 0), .int p1, .ref o] (wL h cI cII cL o S F) (k_L_ownerByHistory S p1) (wL h cI cII cL o S (f_L_ownerByHistory S p1 F)) := by
  refine v_ofLi (cc := cL_ownerByHistory) (maxL := 4) (ret := (some .int)) (own := RL) (lv0 := [(0, .ref (h 0)), (1, .int p1), (2, .ref o)]) (by decide) rfl rfl rfl (Nat.le_of_ble_eq_true rfl) ?_
  intro p e s m below meth c X hXW htab hr hk
  refine v_aload_n X dL_ownerByHistory_0 rfl ?_
  refine v_iconst (x := 0) X dL_ownerByHistory_1 rfl ?_
  refine v_aload_n X dL_ownerByHistory_2 rfl ?_
  refine v_iload_n X dL_ownerByHistory_3 rfl ?_
  refine v_xcallVic (As := [.int p1]) (rest := [.int 0, .ref o]) (w' := wL h cI cII cL o S F) X hXW (c_X3_ownerByHistory l D cI cII cL hlt h S p1 hcnt hhis) (cwV 1 X.2.2.2.1 gL_ownerByHistory_X3_ownerByHistory rfl rfl rfl (by decide +kernel) ⟨Nat.le_of_ble_eq_true rfl, Nat.le_of_ble_eq_true rfl⟩) isCL isRL pmL (cutL h cI cII cL o) (cutL h cI cII cL o) 0 3 rfl rfl wT_g0 rfl rfl (Nat.le_of_ble_eq_true rfl) dL_ownerByHistory_4 ⟨Nat.le_of_ble_eq_true rfl, Nat.le_of_ble_eq_true rfl⟩ (fun E q9 hx => ?_) (fun c_1 => ?_)
  · have hn : ¬ (x_X3_ownerByHistory S p1) = none := by rw [hx]; exact nofun
    rcases xr_X3_ownerByHistory S p1 with hE | hE
    · exact absurd hE hn
    · obtain rfl : v_E1 = E := Option.some.inj (hE.symm.trans hx)
      refine v_catch (E := v_E1) (name := v_E1) (pre := []) (z := ⟨0, 9, 12, 13⟩) (suf := []) X htab (fun y hy => absurd hy List.not_mem_nil) rfl (by decide) (by decide +kernel) (hXW.2.2.2.1 v_E1 (by decide +kernel)) ?_
      refine v_astore_n (lv' := (3, .ref q9) :: [(0, .ref (h 0)), (1, .int p1), (2, .ref o)]) X dL_ownerByHistory_12 (by decide) rfl ?_
      refine v_iconst (x := 1) X dL_ownerByHistory_13 rfl ?_
      exact v_reti X hr hk rfl (by unfold k_L_ownerByHistory; rw [if_neg hn]) (by unfold f_L_ownerByHistory; rw [if_neg hn]) (Nat.le_of_ble_eq_true rfl) (Nat.le_of_ble_eq_true rfl) dL_ownerByHistory_14
  · refine v_i2l X dL_ownerByHistory_7 ?_
    refine v_last (w' := wL h cI cII cL o S (vp_updL F 0 (r_X3_ownerByHistory S p1).toInt64)) X 29 2 wL_go rfl (vp_in_nI (n := 0) (by decide) (by decide)) dL_ownerByHistory_8 wL_so ?_
    refine v_goto (tgt := 15) X dL_ownerByHistory_9 (by decide) ?_
    refine v_iconst (x := 0) X dL_ownerByHistory_15 rfl ?_
    exact v_reti X hr hk rfl (by unfold k_L_ownerByHistory; rw [if_pos c_1]) (by unfold f_L_ownerByHistory; rw [if_pos c_1]) (Nat.le_of_ble_eq_true rfl) (Nat.le_of_ble_eq_true rfl) dL_ownerByHistory_16
def k_L_holder (S : St) (p1 : Int32) : Int32 :=
  (if (x_X3_holder S p1) = none then 0 else 1)
def f_L_holder (S : St) (p1 : Int32) (F : Nat → Int64) : Nat → Int64 :=
  (if (x_X3_holder S p1) = none then vp_updL F 0 (r_X3_holder S p1).toInt64 else F)
set_option maxHeartbeats 1000000 in
set_option maxRecDepth 100000 in
theorem c_L_holder (l : Launch) (D : va_G) (cI cII cL : ClassId) (hlt : l.stackTraces = false) (h : Nat → Nat) (o : Nat) (S : St) (p1 : Int32) (F : Nat → Int64) (hcnt : cntC S) : v_Li l D vwCl (tyl cI cII cL) yL_holder wsL_holder { frames := 8, cells := 1, slots := 6, locals := 124 } [.ref (h 0), .int p1, .ref o] (wL h cI cII cL o S F) (k_L_holder S p1) (wL h cI cII cL o S (f_L_holder S p1 F)) := by
  refine v_ofLi (cc := cL_holder) (maxL := 4) (ret := (some .int)) (own := RL) (lv0 := [(0, .ref (h 0)), (1, .int p1), (2, .ref o)]) (by decide) rfl rfl rfl (Nat.le_of_ble_eq_true rfl) ?_
  intro p e s m below meth c X hXW htab hr hk
  refine v_aload_n X dL_holder_0 rfl ?_
  refine v_iconst (x := 0) X dL_holder_1 rfl ?_
  refine v_aload_n X dL_holder_2 rfl ?_
  refine v_iload_n X dL_holder_3 rfl ?_
  refine v_xcallVic (As := [.int p1]) (rest := [.int 0, .ref o]) (w' := wL h cI cII cL o S F) X hXW (c_X3_holder l D cI cII cL hlt h S p1 hcnt) (cwV 1 X.2.2.2.1 gL_holder_X3_holder rfl rfl rfl (by decide +kernel) ⟨Nat.le_of_ble_eq_true rfl, Nat.le_of_ble_eq_true rfl⟩) isCL isRL pmL (cutL h cI cII cL o) (cutL h cI cII cL o) 0 3 rfl rfl wT_g0 rfl rfl (Nat.le_of_ble_eq_true rfl) dL_holder_4 ⟨Nat.le_of_ble_eq_true rfl, Nat.le_of_ble_eq_true rfl⟩ (fun E q9 hx => ?_) (fun c_1 => ?_)
  · have hn : ¬ (x_X3_holder S p1) = none := by rw [hx]; exact nofun
    rcases xr_X3_holder S p1 with hE | hE
    · exact absurd hE hn
    · obtain rfl : v_E1 = E := Option.some.inj (hE.symm.trans hx)
      refine v_catch (E := v_E1) (name := v_E1) (pre := []) (z := ⟨0, 9, 12, 13⟩) (suf := []) X htab (fun y hy => absurd hy List.not_mem_nil) rfl (by decide) (by decide +kernel) (hXW.2.2.2.1 v_E1 (by decide +kernel)) ?_
      refine v_astore_n (lv' := (3, .ref q9) :: [(0, .ref (h 0)), (1, .int p1), (2, .ref o)]) X dL_holder_12 (by decide) rfl ?_
      refine v_iconst (x := 1) X dL_holder_13 rfl ?_
      exact v_reti X hr hk rfl (by unfold k_L_holder; rw [if_neg hn]) (by unfold f_L_holder; rw [if_neg hn]) (Nat.le_of_ble_eq_true rfl) (Nat.le_of_ble_eq_true rfl) dL_holder_14
  · refine v_i2l X dL_holder_7 ?_
    refine v_last (w' := wL h cI cII cL o S (vp_updL F 0 (r_X3_holder S p1).toInt64)) X 29 2 wL_go rfl (vp_in_nI (n := 0) (by decide) (by decide)) dL_holder_8 wL_so ?_
    refine v_goto (tgt := 15) X dL_holder_9 (by decide) ?_
    refine v_iconst (x := 0) X dL_holder_15 rfl ?_
    exact v_reti X hr hk rfl (by unfold k_L_holder; rw [if_pos c_1]) (by unfold f_L_holder; rw [if_pos c_1]) (Nat.le_of_ble_eq_true rfl) (Nat.le_of_ble_eq_true rfl) dL_holder_16
def k_L_stateOf (S : St) (p1 : Int32) : Int32 :=
  (if (x_X3_stateOf S p1) = none then 0 else 1)
def f_L_stateOf (S : St) (p1 : Int32) (F : Nat → Int64) : Nat → Int64 :=
  (if (x_X3_stateOf S p1) = none then vp_updL F 0 (r_X3_stateOf S p1).toInt64 else F)
set_option maxHeartbeats 1000000 in
set_option maxRecDepth 100000 in
theorem c_L_stateOf (l : Launch) (D : va_G) (cI cII cL : ClassId) (hlt : l.stackTraces = false) (h : Nat → Nat) (o : Nat) (S : St) (p1 : Int32) (F : Nat → Int64) (hcnt : cntC S) : v_Li l D vwCl (tyl cI cII cL) yL_stateOf wsL_stateOf { frames := 8, cells := 1, slots := 6, locals := 124 } [.ref (h 0), .int p1, .ref o] (wL h cI cII cL o S F) (k_L_stateOf S p1) (wL h cI cII cL o S (f_L_stateOf S p1 F)) := by
  refine v_ofLi (cc := cL_stateOf) (maxL := 4) (ret := (some .int)) (own := RL) (lv0 := [(0, .ref (h 0)), (1, .int p1), (2, .ref o)]) (by decide) rfl rfl rfl (Nat.le_of_ble_eq_true rfl) ?_
  intro p e s m below meth c X hXW htab hr hk
  refine v_aload_n X dL_stateOf_0 rfl ?_
  refine v_iconst (x := 0) X dL_stateOf_1 rfl ?_
  refine v_aload_n X dL_stateOf_2 rfl ?_
  refine v_iload_n X dL_stateOf_3 rfl ?_
  refine v_xcallVic (As := [.int p1]) (rest := [.int 0, .ref o]) (w' := wL h cI cII cL o S F) X hXW (c_X3_stateOf l D cI cII cL hlt h S p1 hcnt) (cwV 1 X.2.2.2.1 gL_stateOf_X3_stateOf rfl rfl rfl (by decide +kernel) ⟨Nat.le_of_ble_eq_true rfl, Nat.le_of_ble_eq_true rfl⟩) isCL isRL pmL (cutL h cI cII cL o) (cutL h cI cII cL o) 0 3 rfl rfl wT_g0 rfl rfl (Nat.le_of_ble_eq_true rfl) dL_stateOf_4 ⟨Nat.le_of_ble_eq_true rfl, Nat.le_of_ble_eq_true rfl⟩ (fun E q9 hx => ?_) (fun c_1 => ?_)
  · have hn : ¬ (x_X3_stateOf S p1) = none := by rw [hx]; exact nofun
    rcases xr_X3_stateOf S p1 with hE | hE
    · exact absurd hE hn
    · obtain rfl : v_E1 = E := Option.some.inj (hE.symm.trans hx)
      refine v_catch (E := v_E1) (name := v_E1) (pre := []) (z := ⟨0, 9, 12, 13⟩) (suf := []) X htab (fun y hy => absurd hy List.not_mem_nil) rfl (by decide) (by decide +kernel) (hXW.2.2.2.1 v_E1 (by decide +kernel)) ?_
      refine v_astore_n (lv' := (3, .ref q9) :: [(0, .ref (h 0)), (1, .int p1), (2, .ref o)]) X dL_stateOf_12 (by decide) rfl ?_
      refine v_iconst (x := 1) X dL_stateOf_13 rfl ?_
      exact v_reti X hr hk rfl (by unfold k_L_stateOf; rw [if_neg hn]) (by unfold f_L_stateOf; rw [if_neg hn]) (Nat.le_of_ble_eq_true rfl) (Nat.le_of_ble_eq_true rfl) dL_stateOf_14
  · refine v_i2l X dL_stateOf_7 ?_
    refine v_last (w' := wL h cI cII cL o S (vp_updL F 0 (r_X3_stateOf S p1).toInt64)) X 29 2 wL_go rfl (vp_in_nI (n := 0) (by decide) (by decide)) dL_stateOf_8 wL_so ?_
    refine v_goto (tgt := 15) X dL_stateOf_9 (by decide) ?_
    refine v_iconst (x := 0) X dL_stateOf_15 rfl ?_
    exact v_reti X hr hk rfl (by unfold k_L_stateOf; rw [if_pos c_1]) (by unfold f_L_stateOf; rw [if_pos c_1]) (Nat.le_of_ble_eq_true rfl) (Nat.le_of_ble_eq_true rfl) dL_stateOf_16
def k_L_coins (S : St) (p1 : Int32) : Int32 :=
  (if (x_X3_coins S p1) = none then 0 else 1)
def f_L_coins (S : St) (p1 : Int32) (F : Nat → Int64) : Nat → Int64 :=
  (if (x_X3_coins S p1) = none then vp_updL F 0 (r_X3_coins S p1).toInt64 else F)
set_option maxHeartbeats 1000000 in
set_option maxRecDepth 100000 in
theorem c_L_coins (l : Launch) (D : va_G) (cI cII cL : ClassId) (hlt : l.stackTraces = false) (h : Nat → Nat) (o : Nat) (S : St) (p1 : Int32) (F : Nat → Int64) : v_Li l D vwCl (tyl cI cII cL) yL_coins wsL_coins { frames := 8, cells := 1, slots := 6, locals := 123 } [.ref (h 0), .int p1, .ref o] (wL h cI cII cL o S F) (k_L_coins S p1) (wL h cI cII cL o S (f_L_coins S p1 F)) := by
  refine v_ofLi (cc := cL_coins) (maxL := 4) (ret := (some .int)) (own := RL) (lv0 := [(0, .ref (h 0)), (1, .int p1), (2, .ref o)]) (by decide) rfl rfl rfl (Nat.le_of_ble_eq_true rfl) ?_
  intro p e s m below meth c X hXW htab hr hk
  refine v_aload_n X dL_coins_0 rfl ?_
  refine v_iconst (x := 0) X dL_coins_1 rfl ?_
  refine v_aload_n X dL_coins_2 rfl ?_
  refine v_iload_n X dL_coins_3 rfl ?_
  refine v_xcallVic (As := [.int p1]) (rest := [.int 0, .ref o]) (w' := wL h cI cII cL o S F) X hXW (c_X3_coins l D cI cII cL hlt h S p1 ) (cwV 1 X.2.2.2.1 gL_coins_X3_coins rfl rfl rfl (by decide +kernel) ⟨Nat.le_of_ble_eq_true rfl, Nat.le_of_ble_eq_true rfl⟩) isCL isRL pmL (cutL h cI cII cL o) (cutL h cI cII cL o) 0 3 rfl rfl wT_g0 rfl rfl (Nat.le_of_ble_eq_true rfl) dL_coins_4 ⟨Nat.le_of_ble_eq_true rfl, Nat.le_of_ble_eq_true rfl⟩ (fun E q9 hx => ?_) (fun c_1 => ?_)
  · have hn : ¬ (x_X3_coins S p1) = none := by rw [hx]; exact nofun
    rcases xr_X3_coins S p1 with hE | hE
    · exact absurd hE hn
    · obtain rfl : v_E1 = E := Option.some.inj (hE.symm.trans hx)
      refine v_catch (E := v_E1) (name := v_E1) (pre := []) (z := ⟨0, 9, 12, 13⟩) (suf := []) X htab (fun y hy => absurd hy List.not_mem_nil) rfl (by decide) (by decide +kernel) (hXW.2.2.2.1 v_E1 (by decide +kernel)) ?_
      refine v_astore_n (lv' := (3, .ref q9) :: [(0, .ref (h 0)), (1, .int p1), (2, .ref o)]) X dL_coins_12 (by decide) rfl ?_
      refine v_iconst (x := 1) X dL_coins_13 rfl ?_
      exact v_reti X hr hk rfl (by unfold k_L_coins; rw [if_neg hn]) (by unfold f_L_coins; rw [if_neg hn]) (Nat.le_of_ble_eq_true rfl) (Nat.le_of_ble_eq_true rfl) dL_coins_14
  · refine v_i2l X dL_coins_7 ?_
    refine v_last (w' := wL h cI cII cL o S (vp_updL F 0 (r_X3_coins S p1).toInt64)) X 29 2 wL_go rfl (vp_in_nI (n := 0) (by decide) (by decide)) dL_coins_8 wL_so ?_
    refine v_goto (tgt := 15) X dL_coins_9 (by decide) ?_
    refine v_iconst (x := 0) X dL_coins_15 rfl ?_
    exact v_reti X hr hk rfl (by unfold k_L_coins; rw [if_pos c_1]) (by unfold f_L_coins; rw [if_pos c_1]) (Nat.le_of_ble_eq_true rfl) (Nat.le_of_ble_eq_true rfl) dL_coins_16
def k_L_sell (S : St) (p1 p2 : Int32) : Int32 :=
  (if (x_X3_sell S p1 p2) = none then 0 else if (x_X3_sell S p1 p2) = some v_E1 then 1 else if (x_X3_sell S p1 p2) = some v_E2 then 2 else 3)
def s_L_sell (S : St) (p1 p2 : Int32) : St :=
  (if (x_X3_sell S p1 p2) = none then (s_X3_sell S p1 p2) else S)
def f_L_sell (S : St) (p1 p2 : Int32) (F : Nat → Int64) : Nat → Int64 :=
  (if (x_X3_sell S p1 p2) = none then vp_updL F 0 (r_X3_sell S p1 p2).toInt64 else F)
set_option maxHeartbeats 1000000 in
set_option maxRecDepth 100000 in
theorem c_L_sell (l : Launch) (D : va_G) (cI cII cL : ClassId) (hlt : l.stackTraces = false) (h : Nat → Nat) (o : Nat) (S : St) (p1 p2 : Int32) (F : Nat → Int64) (hcnt : cntC S) (hhis : hisC S) (hkin : ∀ j, vp_in (S 5 j) 8) (hown : ∀ j, vp_in (S 6 j) 5) : v_Li l D vwCl (tyl cI cII cL) yL_sell wsL_sell { frames := 8, cells := 3, slots := 18, locals := 128 } [.ref (h 0), .int p1, .int p2, .ref o] (wL h cI cII cL o S F) (k_L_sell S p1 p2) (wL h cI cII cL o (s_L_sell S p1 p2) (f_L_sell S p1 p2 F)) := by
  refine v_ofLi (cc := cL_sell) (maxL := 5) (ret := (some .int)) (own := RL) (lv0 := [(0, .ref (h 0)), (1, .int p1), (2, .int p2), (3, .ref o)]) (by decide) rfl rfl rfl (Nat.le_of_ble_eq_true rfl) ?_
  intro p e s m below meth c X hXW htab hr hk
  refine v_aload_n X dL_sell_0 rfl ?_
  refine v_iconst (x := 0) X dL_sell_1 rfl ?_
  refine v_aload_n X dL_sell_2 rfl ?_
  refine v_iload_n X dL_sell_3 rfl ?_
  refine v_iload_n X dL_sell_4 rfl ?_
  refine v_xcallVic (As := [.int p1, .int p2]) (rest := [.int 0, .ref o]) (w' := wL h cI cII cL o (s_X3_sell S p1 p2) F) X hXW (c_X3_sell l D cI cII cL hlt h S p1 p2 hcnt hhis hkin hown) (cwV 2 X.2.2.2.1 gL_sell_X3_sell rfl rfl rfl (by decide +kernel) ⟨Nat.le_of_ble_eq_true rfl, Nat.le_of_ble_eq_true rfl⟩) isCL isRL pmL (cutL h cI cII cL o) (cutL h cI cII cL o) 0 3 rfl rfl wT_g0 rfl rfl (Nat.le_of_ble_eq_true rfl) dL_sell_5 ⟨Nat.le_of_ble_eq_true rfl, Nat.le_of_ble_eq_true rfl⟩ (fun E q9 hx => ?_) (fun c_1 => ?_)
  · have hn : ¬ (x_X3_sell S p1 p2) = none := by rw [hx]; exact nofun
    rcases xr_X3_sell S p1 p2 with hE | hE | hE | hE
    · exact absurd hE hn
    · obtain rfl : v_E1 = E := Option.some.inj (hE.symm.trans hx)
      refine v_catch (E := v_E1) (name := v_E1) (pre := []) (z := ⟨0, 10, 13, 13⟩) (suf := [⟨0, 10, 17, 36⟩, ⟨0, 10, 21, 15⟩]) X htab (fun y hy => absurd hy List.not_mem_nil) rfl (by decide) (by decide +kernel) (hXW.2.2.2.1 v_E1 (by decide +kernel)) ?_
      refine v_astore (lv' := (4, .ref q9) :: [(0, .ref (h 0)), (1, .int p1), (2, .int p2), (3, .ref o)]) X dL_sell_13 (by decide) rfl ?_
      refine v_iconst (x := 1) X dL_sell_15 rfl ?_
      exact v_reti X hr hk rfl (by unfold k_L_sell; rw [if_neg hn, if_pos hE]) (by unfold s_L_sell f_L_sell; rw [if_neg hn, if_neg hn]) (Nat.le_of_ble_eq_true rfl) (Nat.le_of_ble_eq_true rfl) dL_sell_16
    · obtain rfl : v_E2 = E := Option.some.inj (hE.symm.trans hx)
      refine v_catch (E := v_E2) (name := v_E2) (pre := [⟨0, 10, 13, 13⟩]) (z := ⟨0, 10, 17, 36⟩) (suf := [⟨0, 10, 21, 15⟩]) X htab (fun y hy => by rcases List.mem_singleton.mp hy with rfl; exact Or.inr ⟨by decide, v_E1, X.2.2.2.1 _ (by decide +kernel : Cond.classLink RL 13 v_E1 ∈ wsL_sell), hXW.2.2.2.2.2 (v_E2, v_E1) (by decide +kernel)⟩) rfl (by decide) (by decide +kernel) (hXW.2.2.2.1 v_E2 (by decide +kernel)) ?_
      refine v_astore (lv' := (4, .ref q9) :: [(0, .ref (h 0)), (1, .int p1), (2, .int p2), (3, .ref o)]) X dL_sell_17 (by decide) rfl ?_
      refine v_iconst (x := 2) X dL_sell_19 rfl ?_
      exact v_reti X hr hk rfl (by unfold k_L_sell; rw [if_neg hn, if_neg (show ¬ (x_X3_sell S p1 p2) = some v_E1 from by rw [hE]; decide), if_pos hE]) (by unfold s_L_sell f_L_sell; rw [if_neg hn, if_neg hn]) (Nat.le_of_ble_eq_true rfl) (Nat.le_of_ble_eq_true rfl) dL_sell_20
    · obtain rfl : v_E3 = E := Option.some.inj (hE.symm.trans hx)
      refine v_catch (E := v_E3) (name := v_E3) (pre := [⟨0, 10, 13, 13⟩, ⟨0, 10, 17, 36⟩]) (z := ⟨0, 10, 21, 15⟩) (suf := []) X htab (fun y hy => by rcases List.mem_cons.mp hy with rfl | hy; exact Or.inr ⟨by decide, v_E1, X.2.2.2.1 _ (by decide +kernel : Cond.classLink RL 13 v_E1 ∈ wsL_sell), hXW.2.2.2.2.2 (v_E3, v_E1) (by decide +kernel)⟩; rcases List.mem_singleton.mp hy with rfl; exact Or.inr ⟨by decide, v_E2, X.2.2.2.1 _ (by decide +kernel : Cond.classLink RL 36 v_E2 ∈ wsL_sell), hXW.2.2.2.2.2 (v_E3, v_E2) (by decide +kernel)⟩) rfl (by decide) (by decide +kernel) (hXW.2.2.2.1 v_E3 (by decide +kernel)) ?_
      refine v_astore (lv' := (4, .ref q9) :: [(0, .ref (h 0)), (1, .int p1), (2, .int p2), (3, .ref o)]) X dL_sell_21 (by decide) rfl ?_
      refine v_iconst (x := 3) X dL_sell_23 rfl ?_
      exact v_reti X hr hk rfl (by unfold k_L_sell; rw [if_neg hn, if_neg (show ¬ (x_X3_sell S p1 p2) = some v_E1 from by rw [hE]; decide), if_neg (show ¬ (x_X3_sell S p1 p2) = some v_E2 from by rw [hE]; decide)]) (by unfold s_L_sell f_L_sell; rw [if_neg hn, if_neg hn]) (Nat.le_of_ble_eq_true rfl) (Nat.le_of_ble_eq_true rfl) dL_sell_24
  · refine v_i2l X dL_sell_8 ?_
    refine v_last (w' := wL h cI cII cL o (s_X3_sell S p1 p2) (vp_updL F 0 (r_X3_sell S p1 p2).toInt64)) X 29 2 wL_go rfl (vp_in_nI (n := 0) (by decide) (by decide)) dL_sell_9 wL_so ?_
    refine v_goto (tgt := 25) X dL_sell_10 (by decide) ?_
    refine v_iconst (x := 0) X dL_sell_25 rfl ?_
    exact v_reti X hr hk rfl (by unfold k_L_sell; rw [if_pos c_1]) (by unfold s_L_sell f_L_sell; rw [if_pos c_1, if_pos c_1]) (Nat.le_of_ble_eq_true rfl) (Nat.le_of_ble_eq_true rfl) dL_sell_26
def k_L_bid (S : St) (p1 p2 p3 : Int32) : Int32 :=
  (if (x_X3_bid S p1 p2 p3) = none then 0 else if (x_X3_bid S p1 p2 p3) = some v_E1 then 1 else if (x_X3_bid S p1 p2 p3) = some v_E2 then 2 else 3)
def s_L_bid (S : St) (p1 p2 p3 : Int32) : St :=
  (if (x_X3_bid S p1 p2 p3) = none then (s_X3_bid S p1 p2 p3) else S)
def f_L_bid (S : St) (p1 p2 p3 : Int32) (F : Nat → Int64) : Nat → Int64 :=
  (if (x_X3_bid S p1 p2 p3) = none then vp_updL F 0 (r_X3_bid S p1 p2 p3).toInt64 else F)
set_option maxHeartbeats 1000000 in
set_option maxRecDepth 100000 in
theorem c_L_bid (l : Launch) (D : va_G) (cI cII cL : ClassId) (hlt : l.stackTraces = false) (h : Nat → Nat) (o : Nat) (S : St) (p1 p2 p3 : Int32) (F : Nat → Int64) (hcnt : cntC S) (hhis : hisC S) (hown : ∀ j, vp_in (S 6 j) 5) : v_Li l D vwCl (tyl cI cII cL) yL_bid wsL_bid { frames := 8, cells := 4, slots := 24, locals := 127 } [.ref (h 0), .int p1, .int p2, .int p3, .ref o] (wL h cI cII cL o S F) (k_L_bid S p1 p2 p3) (wL h cI cII cL o (s_L_bid S p1 p2 p3) (f_L_bid S p1 p2 p3 F)) := by
  refine v_ofLi (cc := cL_bid) (maxL := 6) (ret := (some .int)) (own := RL) (lv0 := [(0, .ref (h 0)), (1, .int p1), (2, .int p2), (3, .int p3), (4, .ref o)]) (by decide) rfl rfl rfl (Nat.le_of_ble_eq_true rfl) ?_
  intro p e s m below meth c X hXW htab hr hk
  refine v_aload X dL_bid_0 rfl ?_
  refine v_iconst (x := 0) X dL_bid_2 rfl ?_
  refine v_aload_n X dL_bid_3 rfl ?_
  refine v_iload_n X dL_bid_4 rfl ?_
  refine v_iload_n X dL_bid_5 rfl ?_
  refine v_iload_n X dL_bid_6 rfl ?_
  refine v_xcallVic (As := [.int p1, .int p2, .int p3]) (rest := [.int 0, .ref o]) (w' := wL h cI cII cL o (s_X3_bid S p1 p2 p3) F) X hXW (c_X3_bid l D cI cII cL hlt h S p1 p2 p3 hcnt hhis hown) (cwV 3 X.2.2.2.1 gL_bid_X3_bid rfl rfl rfl (by decide +kernel) ⟨Nat.le_of_ble_eq_true rfl, Nat.le_of_ble_eq_true rfl⟩) isCL isRL pmL (cutL h cI cII cL o) (cutL h cI cII cL o) 0 3 rfl rfl wT_g0 rfl rfl (Nat.le_of_ble_eq_true rfl) dL_bid_7 ⟨Nat.le_of_ble_eq_true rfl, Nat.le_of_ble_eq_true rfl⟩ (fun E q9 hx => ?_) (fun c_1 => ?_)
  · have hn : ¬ (x_X3_bid S p1 p2 p3) = none := by rw [hx]; exact nofun
    rcases xr_X3_bid S p1 p2 p3 with hE | hE | hE | hE
    · exact absurd hE hn
    · obtain rfl : v_E1 = E := Option.some.inj (hE.symm.trans hx)
      refine v_catch (E := v_E1) (name := v_E1) (pre := []) (z := ⟨0, 12, 15, 13⟩) (suf := [⟨0, 12, 19, 36⟩, ⟨0, 12, 23, 15⟩]) X htab (fun y hy => absurd hy List.not_mem_nil) rfl (by decide) (by decide +kernel) (hXW.2.2.2.1 v_E1 (by decide +kernel)) ?_
      refine v_astore (lv' := (5, .ref q9) :: [(0, .ref (h 0)), (1, .int p1), (2, .int p2), (3, .int p3), (4, .ref o)]) X dL_bid_15 (by decide) rfl ?_
      refine v_iconst (x := 1) X dL_bid_17 rfl ?_
      exact v_reti X hr hk rfl (by unfold k_L_bid; rw [if_neg hn, if_pos hE]) (by unfold s_L_bid f_L_bid; rw [if_neg hn, if_neg hn]) (Nat.le_of_ble_eq_true rfl) (Nat.le_of_ble_eq_true rfl) dL_bid_18
    · obtain rfl : v_E2 = E := Option.some.inj (hE.symm.trans hx)
      refine v_catch (E := v_E2) (name := v_E2) (pre := [⟨0, 12, 15, 13⟩]) (z := ⟨0, 12, 19, 36⟩) (suf := [⟨0, 12, 23, 15⟩]) X htab (fun y hy => by rcases List.mem_singleton.mp hy with rfl; exact Or.inr ⟨by decide, v_E1, X.2.2.2.1 _ (by decide +kernel : Cond.classLink RL 13 v_E1 ∈ wsL_bid), hXW.2.2.2.2.2 (v_E2, v_E1) (by decide +kernel)⟩) rfl (by decide) (by decide +kernel) (hXW.2.2.2.1 v_E2 (by decide +kernel)) ?_
      refine v_astore (lv' := (5, .ref q9) :: [(0, .ref (h 0)), (1, .int p1), (2, .int p2), (3, .int p3), (4, .ref o)]) X dL_bid_19 (by decide) rfl ?_
      refine v_iconst (x := 2) X dL_bid_21 rfl ?_
      exact v_reti X hr hk rfl (by unfold k_L_bid; rw [if_neg hn, if_neg (show ¬ (x_X3_bid S p1 p2 p3) = some v_E1 from by rw [hE]; decide), if_pos hE]) (by unfold s_L_bid f_L_bid; rw [if_neg hn, if_neg hn]) (Nat.le_of_ble_eq_true rfl) (Nat.le_of_ble_eq_true rfl) dL_bid_22
    · obtain rfl : v_E3 = E := Option.some.inj (hE.symm.trans hx)
      refine v_catch (E := v_E3) (name := v_E3) (pre := [⟨0, 12, 15, 13⟩, ⟨0, 12, 19, 36⟩]) (z := ⟨0, 12, 23, 15⟩) (suf := []) X htab (fun y hy => by rcases List.mem_cons.mp hy with rfl | hy; exact Or.inr ⟨by decide, v_E1, X.2.2.2.1 _ (by decide +kernel : Cond.classLink RL 13 v_E1 ∈ wsL_bid), hXW.2.2.2.2.2 (v_E3, v_E1) (by decide +kernel)⟩; rcases List.mem_singleton.mp hy with rfl; exact Or.inr ⟨by decide, v_E2, X.2.2.2.1 _ (by decide +kernel : Cond.classLink RL 36 v_E2 ∈ wsL_bid), hXW.2.2.2.2.2 (v_E3, v_E2) (by decide +kernel)⟩) rfl (by decide) (by decide +kernel) (hXW.2.2.2.1 v_E3 (by decide +kernel)) ?_
      refine v_astore (lv' := (5, .ref q9) :: [(0, .ref (h 0)), (1, .int p1), (2, .int p2), (3, .int p3), (4, .ref o)]) X dL_bid_23 (by decide) rfl ?_
      refine v_iconst (x := 3) X dL_bid_25 rfl ?_
      exact v_reti X hr hk rfl (by unfold k_L_bid; rw [if_neg hn, if_neg (show ¬ (x_X3_bid S p1 p2 p3) = some v_E1 from by rw [hE]; decide), if_neg (show ¬ (x_X3_bid S p1 p2 p3) = some v_E2 from by rw [hE]; decide)]) (by unfold s_L_bid f_L_bid; rw [if_neg hn, if_neg hn]) (Nat.le_of_ble_eq_true rfl) (Nat.le_of_ble_eq_true rfl) dL_bid_26
  · refine v_i2l X dL_bid_10 ?_
    refine v_last (w' := wL h cI cII cL o (s_X3_bid S p1 p2 p3) (vp_updL F 0 (r_X3_bid S p1 p2 p3).toInt64)) X 29 2 wL_go rfl (vp_in_nI (n := 0) (by decide) (by decide)) dL_bid_11 wL_so ?_
    refine v_goto (tgt := 27) X dL_bid_12 (by decide) ?_
    refine v_iconst (x := 0) X dL_bid_27 rfl ?_
    exact v_reti X hr hk rfl (by unfold k_L_bid; rw [if_pos c_1]) (by unfold s_L_bid f_L_bid; rw [if_pos c_1, if_pos c_1]) (Nat.le_of_ble_eq_true rfl) (Nat.le_of_ble_eq_true rfl) dL_bid_28
def k_L_cancelSale (S : St) (p1 : Int32) : Int32 :=
  (if (x_X3_cancelSale S p1) = none then 0 else if (x_X3_cancelSale S p1) = some v_E1 then 1 else 2)
def s_L_cancelSale (S : St) (p1 : Int32) : St :=
  (if (x_X3_cancelSale S p1) = none then (s_X3_cancelSale S p1) else S)
def f_L_cancelSale (S : St) (p1 : Int32) (F : Nat → Int64) : Nat → Int64 :=
  (if (x_X3_cancelSale S p1) = none then vp_updL F 0 (r_X3_cancelSale S p1).toInt64 else F)
set_option maxHeartbeats 1000000 in
set_option maxRecDepth 100000 in
theorem c_L_cancelSale (l : Launch) (D : va_G) (cI cII cL : ClassId) (hlt : l.stackTraces = false) (h : Nat → Nat) (o : Nat) (S : St) (p1 : Int32) (F : Nat → Int64) (hcnt : cntC S) : v_Li l D vwCl (tyl cI cII cL) yL_cancelSale wsL_cancelSale { frames := 8, cells := 2, slots := 12, locals := 124 } [.ref (h 0), .int p1, .ref o] (wL h cI cII cL o S F) (k_L_cancelSale S p1) (wL h cI cII cL o (s_L_cancelSale S p1) (f_L_cancelSale S p1 F)) := by
  refine v_ofLi (cc := cL_cancelSale) (maxL := 4) (ret := (some .int)) (own := RL) (lv0 := [(0, .ref (h 0)), (1, .int p1), (2, .ref o)]) (by decide) rfl rfl rfl (Nat.le_of_ble_eq_true rfl) ?_
  intro p e s m below meth c X hXW htab hr hk
  refine v_aload_n X dL_cancelSale_0 rfl ?_
  refine v_iconst (x := 0) X dL_cancelSale_1 rfl ?_
  refine v_aload_n X dL_cancelSale_2 rfl ?_
  refine v_iload_n X dL_cancelSale_3 rfl ?_
  refine v_xcallVic (As := [.int p1]) (rest := [.int 0, .ref o]) (w' := wL h cI cII cL o (s_X3_cancelSale S p1) F) X hXW (c_X3_cancelSale l D cI cII cL hlt h S p1 hcnt) (cwV 1 X.2.2.2.1 gL_cancelSale_X3_cancelSale rfl rfl rfl (by decide +kernel) ⟨Nat.le_of_ble_eq_true rfl, Nat.le_of_ble_eq_true rfl⟩) isCL isRL pmL (cutL h cI cII cL o) (cutL h cI cII cL o) 0 3 rfl rfl wT_g0 rfl rfl (Nat.le_of_ble_eq_true rfl) dL_cancelSale_4 ⟨Nat.le_of_ble_eq_true rfl, Nat.le_of_ble_eq_true rfl⟩ (fun E q9 hx => ?_) (fun c_1 => ?_)
  · have hn : ¬ (x_X3_cancelSale S p1) = none := by rw [hx]; exact nofun
    rcases xr_X3_cancelSale S p1 with hE | hE | hE
    · exact absurd hE hn
    · obtain rfl : v_E1 = E := Option.some.inj (hE.symm.trans hx)
      refine v_catch (E := v_E1) (name := v_E1) (pre := []) (z := ⟨0, 9, 12, 13⟩) (suf := [⟨0, 9, 15, 15⟩]) X htab (fun y hy => absurd hy List.not_mem_nil) rfl (by decide) (by decide +kernel) (hXW.2.2.2.1 v_E1 (by decide +kernel)) ?_
      refine v_astore_n (lv' := (3, .ref q9) :: [(0, .ref (h 0)), (1, .int p1), (2, .ref o)]) X dL_cancelSale_12 (by decide) rfl ?_
      refine v_iconst (x := 1) X dL_cancelSale_13 rfl ?_
      exact v_reti X hr hk rfl (by unfold k_L_cancelSale; rw [if_neg hn, if_pos hE]) (by unfold s_L_cancelSale f_L_cancelSale; rw [if_neg hn, if_neg hn]) (Nat.le_of_ble_eq_true rfl) (Nat.le_of_ble_eq_true rfl) dL_cancelSale_14
    · obtain rfl : v_E3 = E := Option.some.inj (hE.symm.trans hx)
      refine v_catch (E := v_E3) (name := v_E3) (pre := [⟨0, 9, 12, 13⟩]) (z := ⟨0, 9, 15, 15⟩) (suf := []) X htab (fun y hy => by rcases List.mem_singleton.mp hy with rfl; exact Or.inr ⟨by decide, v_E1, X.2.2.2.1 _ (by decide +kernel : Cond.classLink RL 13 v_E1 ∈ wsL_cancelSale), hXW.2.2.2.2.2 (v_E3, v_E1) (by decide +kernel)⟩) rfl (by decide) (by decide +kernel) (hXW.2.2.2.1 v_E3 (by decide +kernel)) ?_
      refine v_astore_n (lv' := (3, .ref q9) :: [(0, .ref (h 0)), (1, .int p1), (2, .ref o)]) X dL_cancelSale_15 (by decide) rfl ?_
      refine v_iconst (x := 2) X dL_cancelSale_16 rfl ?_
      exact v_reti X hr hk rfl (by unfold k_L_cancelSale; rw [if_neg hn, if_neg (show ¬ (x_X3_cancelSale S p1) = some v_E1 from by rw [hE]; decide)]) (by unfold s_L_cancelSale f_L_cancelSale; rw [if_neg hn, if_neg hn]) (Nat.le_of_ble_eq_true rfl) (Nat.le_of_ble_eq_true rfl) dL_cancelSale_17
  · refine v_i2l X dL_cancelSale_7 ?_
    refine v_last (w' := wL h cI cII cL o (s_X3_cancelSale S p1) (vp_updL F 0 (r_X3_cancelSale S p1).toInt64)) X 29 2 wL_go rfl (vp_in_nI (n := 0) (by decide) (by decide)) dL_cancelSale_8 wL_so ?_
    refine v_goto (tgt := 18) X dL_cancelSale_9 (by decide) ?_
    refine v_iconst (x := 0) X dL_cancelSale_18 rfl ?_
    exact v_reti X hr hk rfl (by unfold k_L_cancelSale; rw [if_pos c_1]) (by unfold s_L_cancelSale f_L_cancelSale; rw [if_pos c_1, if_pos c_1]) (Nat.le_of_ble_eq_true rfl) (Nat.le_of_ble_eq_true rfl) dL_cancelSale_19
def k_L_cancelBid (S : St) (p1 p2 : Int32) : Int32 :=
  (if (x_X3_cancelBid S p1 p2) = none then 0 else if (x_X3_cancelBid S p1 p2) = some v_E1 then 1 else 2)
def s_L_cancelBid (S : St) (p1 p2 : Int32) : St :=
  (if (x_X3_cancelBid S p1 p2) = none then (s_X3_cancelBid S p1 p2) else S)
def f_L_cancelBid (S : St) (p1 p2 : Int32) (F : Nat → Int64) : Nat → Int64 :=
  (if (x_X3_cancelBid S p1 p2) = none then vp_updL F 0 (r_X3_cancelBid S p1 p2).toInt64 else F)
set_option maxHeartbeats 1000000 in
set_option maxRecDepth 100000 in
theorem c_L_cancelBid (l : Launch) (D : va_G) (cI cII cL : ClassId) (hlt : l.stackTraces = false) (h : Nat → Nat) (o : Nat) (S : St) (p1 p2 : Int32) (F : Nat → Int64) : v_Li l D vwCl (tyl cI cII cL) yL_cancelBid wsL_cancelBid { frames := 8, cells := 3, slots := 18, locals := 124 } [.ref (h 0), .int p1, .int p2, .ref o] (wL h cI cII cL o S F) (k_L_cancelBid S p1 p2) (wL h cI cII cL o (s_L_cancelBid S p1 p2) (f_L_cancelBid S p1 p2 F)) := by
  refine v_ofLi (cc := cL_cancelBid) (maxL := 5) (ret := (some .int)) (own := RL) (lv0 := [(0, .ref (h 0)), (1, .int p1), (2, .int p2), (3, .ref o)]) (by decide) rfl rfl rfl (Nat.le_of_ble_eq_true rfl) ?_
  intro p e s m below meth c X hXW htab hr hk
  refine v_aload_n X dL_cancelBid_0 rfl ?_
  refine v_iconst (x := 0) X dL_cancelBid_1 rfl ?_
  refine v_aload_n X dL_cancelBid_2 rfl ?_
  refine v_iload_n X dL_cancelBid_3 rfl ?_
  refine v_iload_n X dL_cancelBid_4 rfl ?_
  refine v_xcallVic (As := [.int p1, .int p2]) (rest := [.int 0, .ref o]) (w' := wL h cI cII cL o (s_X3_cancelBid S p1 p2) F) X hXW (c_X3_cancelBid l D cI cII cL hlt h S p1 p2 ) (cwV 2 X.2.2.2.1 gL_cancelBid_X3_cancelBid rfl rfl rfl (by decide +kernel) ⟨Nat.le_of_ble_eq_true rfl, Nat.le_of_ble_eq_true rfl⟩) isCL isRL pmL (cutL h cI cII cL o) (cutL h cI cII cL o) 0 3 rfl rfl wT_g0 rfl rfl (Nat.le_of_ble_eq_true rfl) dL_cancelBid_5 ⟨Nat.le_of_ble_eq_true rfl, Nat.le_of_ble_eq_true rfl⟩ (fun E q9 hx => ?_) (fun c_1 => ?_)
  · have hn : ¬ (x_X3_cancelBid S p1 p2) = none := by rw [hx]; exact nofun
    rcases xr_X3_cancelBid S p1 p2 with hE | hE | hE
    · exact absurd hE hn
    · obtain rfl : v_E1 = E := Option.some.inj (hE.symm.trans hx)
      refine v_catch (E := v_E1) (name := v_E1) (pre := []) (z := ⟨0, 10, 13, 13⟩) (suf := [⟨0, 10, 17, 15⟩]) X htab (fun y hy => absurd hy List.not_mem_nil) rfl (by decide) (by decide +kernel) (hXW.2.2.2.1 v_E1 (by decide +kernel)) ?_
      refine v_astore (lv' := (4, .ref q9) :: [(0, .ref (h 0)), (1, .int p1), (2, .int p2), (3, .ref o)]) X dL_cancelBid_13 (by decide) rfl ?_
      refine v_iconst (x := 1) X dL_cancelBid_15 rfl ?_
      exact v_reti X hr hk rfl (by unfold k_L_cancelBid; rw [if_neg hn, if_pos hE]) (by unfold s_L_cancelBid f_L_cancelBid; rw [if_neg hn, if_neg hn]) (Nat.le_of_ble_eq_true rfl) (Nat.le_of_ble_eq_true rfl) dL_cancelBid_16
    · obtain rfl : v_E3 = E := Option.some.inj (hE.symm.trans hx)
      refine v_catch (E := v_E3) (name := v_E3) (pre := [⟨0, 10, 13, 13⟩]) (z := ⟨0, 10, 17, 15⟩) (suf := []) X htab (fun y hy => by rcases List.mem_singleton.mp hy with rfl; exact Or.inr ⟨by decide, v_E1, X.2.2.2.1 _ (by decide +kernel : Cond.classLink RL 13 v_E1 ∈ wsL_cancelBid), hXW.2.2.2.2.2 (v_E3, v_E1) (by decide +kernel)⟩) rfl (by decide) (by decide +kernel) (hXW.2.2.2.1 v_E3 (by decide +kernel)) ?_
      refine v_astore (lv' := (4, .ref q9) :: [(0, .ref (h 0)), (1, .int p1), (2, .int p2), (3, .ref o)]) X dL_cancelBid_17 (by decide) rfl ?_
      refine v_iconst (x := 2) X dL_cancelBid_19 rfl ?_
      exact v_reti X hr hk rfl (by unfold k_L_cancelBid; rw [if_neg hn, if_neg (show ¬ (x_X3_cancelBid S p1 p2) = some v_E1 from by rw [hE]; decide)]) (by unfold s_L_cancelBid f_L_cancelBid; rw [if_neg hn, if_neg hn]) (Nat.le_of_ble_eq_true rfl) (Nat.le_of_ble_eq_true rfl) dL_cancelBid_20
  · refine v_i2l X dL_cancelBid_8 ?_
    refine v_last (w' := wL h cI cII cL o (s_X3_cancelBid S p1 p2) (vp_updL F 0 (r_X3_cancelBid S p1 p2).toInt64)) X 29 2 wL_go rfl (vp_in_nI (n := 0) (by decide) (by decide)) dL_cancelBid_9 wL_so ?_
    refine v_goto (tgt := 21) X dL_cancelBid_10 (by decide) ?_
    refine v_iconst (x := 0) X dL_cancelBid_21 rfl ?_
    exact v_reti X hr hk rfl (by unfold k_L_cancelBid; rw [if_pos c_1]) (by unfold s_L_cancelBid f_L_cancelBid; rw [if_pos c_1, if_pos c_1]) (Nat.le_of_ble_eq_true rfl) (Nat.le_of_ble_eq_true rfl) dL_cancelBid_22
def k_L_leastSale (S : St) (p1 : Int32) : Int32 :=
  (if (x_X3_leastSale S p1) = none then 0 else 1)
def f_L_leastSale (S : St) (p1 : Int32) (F : Nat → Int64) : Nat → Int64 :=
  (if (x_X3_leastSale S p1) = none then vp_updL F 0 (r_X3_leastSale S p1).toInt64 else F)
set_option maxHeartbeats 1000000 in
set_option maxRecDepth 100000 in
theorem c_L_leastSale (l : Launch) (D : va_G) (cI cII cL : ClassId) (hlt : l.stackTraces = false) (h : Nat → Nat) (o : Nat) (S : St) (p1 : Int32) (F : Nat → Int64) (hcnt : cntC S) : v_Li l D vwCl (tyl cI cII cL) yL_leastSale wsL_leastSale { frames := 8, cells := 1, slots := 6, locals := 124 } [.ref (h 0), .int p1, .ref o] (wL h cI cII cL o S F) (k_L_leastSale S p1) (wL h cI cII cL o S (f_L_leastSale S p1 F)) := by
  refine v_ofLi (cc := cL_leastSale) (maxL := 4) (ret := (some .int)) (own := RL) (lv0 := [(0, .ref (h 0)), (1, .int p1), (2, .ref o)]) (by decide) rfl rfl rfl (Nat.le_of_ble_eq_true rfl) ?_
  intro p e s m below meth c X hXW htab hr hk
  refine v_aload_n X dL_leastSale_0 rfl ?_
  refine v_iconst (x := 0) X dL_leastSale_1 rfl ?_
  refine v_aload_n X dL_leastSale_2 rfl ?_
  refine v_iload_n X dL_leastSale_3 rfl ?_
  refine v_xcallVic (As := [.int p1]) (rest := [.int 0, .ref o]) (w' := wL h cI cII cL o S F) X hXW (c_X3_leastSale l D cI cII cL hlt h S p1 hcnt) (cwV 1 X.2.2.2.1 gL_leastSale_X3_leastSale rfl rfl rfl (by decide +kernel) ⟨Nat.le_of_ble_eq_true rfl, Nat.le_of_ble_eq_true rfl⟩) isCL isRL pmL (cutL h cI cII cL o) (cutL h cI cII cL o) 0 3 rfl rfl wT_g0 rfl rfl (Nat.le_of_ble_eq_true rfl) dL_leastSale_4 ⟨Nat.le_of_ble_eq_true rfl, Nat.le_of_ble_eq_true rfl⟩ (fun E q9 hx => ?_) (fun c_1 => ?_)
  · have hn : ¬ (x_X3_leastSale S p1) = none := by rw [hx]; exact nofun
    rcases xr_X3_leastSale S p1 with hE | hE
    · exact absurd hE hn
    · obtain rfl : v_E1 = E := Option.some.inj (hE.symm.trans hx)
      refine v_catch (E := v_E1) (name := v_E1) (pre := []) (z := ⟨0, 9, 12, 13⟩) (suf := []) X htab (fun y hy => absurd hy List.not_mem_nil) rfl (by decide) (by decide +kernel) (hXW.2.2.2.1 v_E1 (by decide +kernel)) ?_
      refine v_astore_n (lv' := (3, .ref q9) :: [(0, .ref (h 0)), (1, .int p1), (2, .ref o)]) X dL_leastSale_12 (by decide) rfl ?_
      refine v_iconst (x := 1) X dL_leastSale_13 rfl ?_
      exact v_reti X hr hk rfl (by unfold k_L_leastSale; rw [if_neg hn]) (by unfold f_L_leastSale; rw [if_neg hn]) (Nat.le_of_ble_eq_true rfl) (Nat.le_of_ble_eq_true rfl) dL_leastSale_14
  · refine v_i2l X dL_leastSale_7 ?_
    refine v_last (w' := wL h cI cII cL o S (vp_updL F 0 (r_X3_leastSale S p1).toInt64)) X 29 2 wL_go rfl (vp_in_nI (n := 0) (by decide) (by decide)) dL_leastSale_8 wL_so ?_
    refine v_goto (tgt := 15) X dL_leastSale_9 (by decide) ?_
    refine v_iconst (x := 0) X dL_leastSale_15 rfl ?_
    exact v_reti X hr hk rfl (by unfold k_L_leastSale; rw [if_pos c_1]) (by unfold f_L_leastSale; rw [if_pos c_1]) (Nat.le_of_ble_eq_true rfl) (Nat.le_of_ble_eq_true rfl) dL_leastSale_16
def k_L_greatestBid (S : St) (p1 : Int32) : Int32 :=
  (if (x_X3_greatestBid S p1) = none then 0 else 1)
def f_L_greatestBid (S : St) (p1 : Int32) (F : Nat → Int64) : Nat → Int64 :=
  (if (x_X3_greatestBid S p1) = none then vp_updL F 0 (r_X3_greatestBid S p1).toInt64 else F)
set_option maxHeartbeats 1000000 in
set_option maxRecDepth 100000 in
theorem c_L_greatestBid (l : Launch) (D : va_G) (cI cII cL : ClassId) (hlt : l.stackTraces = false) (h : Nat → Nat) (o : Nat) (S : St) (p1 : Int32) (F : Nat → Int64) : v_Li l D vwCl (tyl cI cII cL) yL_greatestBid wsL_greatestBid { frames := 8, cells := 1, slots := 6, locals := 124 } [.ref (h 0), .int p1, .ref o] (wL h cI cII cL o S F) (k_L_greatestBid S p1) (wL h cI cII cL o S (f_L_greatestBid S p1 F)) := by
  refine v_ofLi (cc := cL_greatestBid) (maxL := 4) (ret := (some .int)) (own := RL) (lv0 := [(0, .ref (h 0)), (1, .int p1), (2, .ref o)]) (by decide) rfl rfl rfl (Nat.le_of_ble_eq_true rfl) ?_
  intro p e s m below meth c X hXW htab hr hk
  refine v_aload_n X dL_greatestBid_0 rfl ?_
  refine v_iconst (x := 0) X dL_greatestBid_1 rfl ?_
  refine v_aload_n X dL_greatestBid_2 rfl ?_
  refine v_iload_n X dL_greatestBid_3 rfl ?_
  refine v_xcallVic (As := [.int p1]) (rest := [.int 0, .ref o]) (w' := wL h cI cII cL o S F) X hXW (c_X3_greatestBid l D cI cII cL hlt h S p1 ) (cwV 1 X.2.2.2.1 gL_greatestBid_X3_greatestBid rfl rfl rfl (by decide +kernel) ⟨Nat.le_of_ble_eq_true rfl, Nat.le_of_ble_eq_true rfl⟩) isCL isRL pmL (cutL h cI cII cL o) (cutL h cI cII cL o) 0 3 rfl rfl wT_g0 rfl rfl (Nat.le_of_ble_eq_true rfl) dL_greatestBid_4 ⟨Nat.le_of_ble_eq_true rfl, Nat.le_of_ble_eq_true rfl⟩ (fun E q9 hx => ?_) (fun c_1 => ?_)
  · have hn : ¬ (x_X3_greatestBid S p1) = none := by rw [hx]; exact nofun
    rcases xr_X3_greatestBid S p1 with hE | hE
    · exact absurd hE hn
    · obtain rfl : v_E1 = E := Option.some.inj (hE.symm.trans hx)
      refine v_catch (E := v_E1) (name := v_E1) (pre := []) (z := ⟨0, 9, 12, 13⟩) (suf := []) X htab (fun y hy => absurd hy List.not_mem_nil) rfl (by decide) (by decide +kernel) (hXW.2.2.2.1 v_E1 (by decide +kernel)) ?_
      refine v_astore_n (lv' := (3, .ref q9) :: [(0, .ref (h 0)), (1, .int p1), (2, .ref o)]) X dL_greatestBid_12 (by decide) rfl ?_
      refine v_iconst (x := 1) X dL_greatestBid_13 rfl ?_
      exact v_reti X hr hk rfl (by unfold k_L_greatestBid; rw [if_neg hn]) (by unfold f_L_greatestBid; rw [if_neg hn]) (Nat.le_of_ble_eq_true rfl) (Nat.le_of_ble_eq_true rfl) dL_greatestBid_14
  · refine v_i2l X dL_greatestBid_7 ?_
    refine v_last (w' := wL h cI cII cL o S (vp_updL F 0 (r_X3_greatestBid S p1).toInt64)) X 29 2 wL_go rfl (vp_in_nI (n := 0) (by decide) (by decide)) dL_greatestBid_8 wL_so ?_
    refine v_goto (tgt := 15) X dL_greatestBid_9 (by decide) ?_
    refine v_iconst (x := 0) X dL_greatestBid_15 rfl ?_
    exact v_reti X hr hk rfl (by unfold k_L_greatestBid; rw [if_pos c_1]) (by unfold f_L_greatestBid; rw [if_pos c_1]) (Nat.le_of_ble_eq_true rfl) (Nat.le_of_ble_eq_true rfl) dL_greatestBid_16
