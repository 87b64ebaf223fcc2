def k_L_swap (S : St) (p1 p2 : Int32) : Int32 :=
  (if (x_X3_swap S p1 p2) = none then 0 else if (x_X3_swap S p1 p2) = some v_E1 then 1 else if (x_X3_swap S p1 p2) = some v_E2 then 2 else 3)
def s_L_swap (S : St) (p1 p2 : Int32) : St :=
  (if (x_X3_swap S p1 p2) = none then (s_X3_swap S p1 p2) else S)
set_option maxHeartbeats 1000000 in
set_option maxRecDepth 100000 in
theorem c_L_swap (l : Launch) (D : va_G) (cI cII cL : ClassId) (hlt : l.stackTraces = false) (h : Nat → Nat) (S : St) (p1 p2 : Int32) (hcnt : cntC S) : v_Li l D vwCl (tyl cI cII cL) yL_swap wsL_swap { frames := 8, cells := 3, slots := 18, locals := 125 } [.ref (h 0), .int p1, .int p2] (wT h cI cII S) (k_L_swap S p1 p2) (wT h cI cII (s_L_swap S p1 p2)) := by
  refine v_ofLi (cc := cL_swap) (maxL := 4) (ret := (some .int)) (own := RL) (lv0 := [(0, .ref (h 0)), (1, .int p1), (2, .int p2)]) (by decide) rfl rfl rfl (Nat.le_of_ble_eq_true rfl) ?_
  intro p e s m below meth c X hXW htab hr hk
  refine v_aload_n X dL_swap_0 rfl ?_
  refine v_iload_n X dL_swap_1 rfl ?_
  refine v_iload_n X dL_swap_2 rfl ?_
  refine v_xcallVv (As := [.int p1, .int p2]) (rest := []) (w' := wT h cI cII (s_X3_swap S p1 p2)) X hXW (c_X3_swap l D cI cII cL hlt h S p1 p2 hcnt) (cwV 2 X.2.2.2.1 gL_swap_X3_swap rfl rfl rfl (by decide +kernel) ⟨Nat.le_of_ble_eq_true rfl, Nat.le_of_ble_eq_true rfl⟩) 0 3 rfl rfl wT_g0 rfl rfl (Nat.le_of_ble_eq_true rfl) dL_swap_3 ⟨Nat.le_of_ble_eq_true rfl, Nat.le_of_ble_eq_true rfl⟩ (fun E q9 hx => ?_) (fun c_1 => ?_)
  · have hn : ¬ (x_X3_swap S p1 p2) = none := by rw [hx]; exact nofun
    rcases xr_X3_swap S p1 p2 with hE | hE | hE | hE
    · exact absurd hE hn
    · obtain rfl : v_E1 = E := Option.some.inj (hE.symm.trans hx)
      refine v_catch (E := v_E1) (name := v_E1) (pre := []) (z := ⟨0, 6, 9, 13⟩) (suf := [⟨0, 6, 12, 36⟩, ⟨0, 6, 15, 15⟩]) X htab (fun y hy => absurd hy List.not_mem_nil) rfl (by decide) (by decide +kernel) (hXW.2.2.2.1 v_E1 (by decide +kernel)) ?_
      refine v_astore_n (lv' := (3, .ref q9) :: [(0, .ref (h 0)), (1, .int p1), (2, .int p2)]) X dL_swap_9 (by decide) rfl ?_
      refine v_iconst (x := 1) X dL_swap_10 rfl ?_
      exact v_reti X hr hk rfl (by unfold k_L_swap; rw [if_neg hn, if_pos hE]) (by unfold s_L_swap; rw [if_neg hn]) (Nat.le_of_ble_eq_true rfl) (Nat.le_of_ble_eq_true rfl) dL_swap_11
    · obtain rfl : v_E2 = E := Option.some.inj (hE.symm.trans hx)
      refine v_catch (E := v_E2) (name := v_E2) (pre := [⟨0, 6, 9, 13⟩]) (z := ⟨0, 6, 12, 36⟩) (suf := [⟨0, 6, 15, 15⟩]) X htab (fun y hy => by rcases List.mem_singleton.mp hy with rfl; exact Or.inr ⟨by decide, v_E1, X.2.2.2.1 _ (by decide +kernel : Cond.classLink RL 13 v_E1 ∈ wsL_swap), hXW.2.2.2.2.2 (v_E2, v_E1) (by decide +kernel)⟩) rfl (by decide) (by decide +kernel) (hXW.2.2.2.1 v_E2 (by decide +kernel)) ?_
      refine v_astore_n (lv' := (3, .ref q9) :: [(0, .ref (h 0)), (1, .int p1), (2, .int p2)]) X dL_swap_12 (by decide) rfl ?_
      refine v_iconst (x := 2) X dL_swap_13 rfl ?_
      exact v_reti X hr hk rfl (by unfold k_L_swap; rw [if_neg hn, if_neg (show ¬ (x_X3_swap S p1 p2) = some v_E1 from by rw [hE]; decide), if_pos hE]) (by unfold s_L_swap; rw [if_neg hn]) (Nat.le_of_ble_eq_true rfl) (Nat.le_of_ble_eq_true rfl) dL_swap_14
    · obtain rfl : v_E3 = E := Option.some.inj (hE.symm.trans hx)
      refine v_catch (E := v_E3) (name := v_E3) (pre := [⟨0, 6, 9, 13⟩, ⟨0, 6, 12, 36⟩]) (z := ⟨0, 6, 15, 15⟩) (suf := []) X htab (fun y hy => by rcases List.mem_cons.mp hy with rfl | hy; exact Or.inr ⟨by decide, v_E1, X.2.2.2.1 _ (by decide +kernel : Cond.classLink RL 13 v_E1 ∈ wsL_swap), hXW.2.2.2.2.2 (v_E3, v_E1) (by decide +kernel)⟩; rcases List.mem_singleton.mp hy with rfl; exact Or.inr ⟨by decide, v_E2, X.2.2.2.1 _ (by decide +kernel : Cond.classLink RL 36 v_E2 ∈ wsL_swap), hXW.2.2.2.2.2 (v_E3, v_E2) (by decide +kernel)⟩) rfl (by decide) (by decide +kernel) (hXW.2.2.2.1 v_E3 (by decide +kernel)) ?_
      refine v_astore_n (lv' := (3, .ref q9) :: [(0, .ref (h 0)), (1, .int p1), (2, .int p2)]) X dL_swap_15 (by decide) rfl ?_
      refine v_iconst (x := 3) X dL_swap_16 rfl ?_
      exact v_reti X hr hk rfl (by unfold k_L_swap; rw [if_neg hn, if_neg (show ¬ (x_X3_swap S p1 p2) = some v_E1 from by rw [hE]; decide), if_neg (show ¬ (x_X3_swap S p1 p2) = some v_E2 from by rw [hE]; decide)]) (by unfold s_L_swap; rw [if_neg hn]) (Nat.le_of_ble_eq_true rfl) (Nat.le_of_ble_eq_true rfl) dL_swap_17
  · refine v_goto (tgt := 18) X dL_swap_6 (by decide) ?_
    refine v_iconst (x := 0) X dL_swap_18 rfl ?_
    exact v_reti X hr hk rfl (by unfold k_L_swap; rw [if_pos c_1]) (by unfold s_L_swap; rw [if_pos c_1]) (Nat.le_of_ble_eq_true rfl) (Nat.le_of_ble_eq_true rfl) dL_swap_19
def k_L_agree (S : St) (p1 : Int32) : Int32 :=
  (if (x_X3_agree S p1) = none then 0 else if (x_X3_agree S p1) = some v_E1 then 1 else 2)
def s_L_agree (S : St) (p1 : Int32) : St :=
  (if (x_X3_agree S p1) = none then (s_X3_agree S p1) else S)
def f_L_agree (S : St) (p1 : Int32) (F : Nat → Int64) : Nat → Int64 :=
  (if (x_X3_agree S p1) = none then vp_updL F 0 (r_X3_agree S p1).toInt64 else F)
set_option maxHeartbeats 1000000 in
set_option maxRecDepth 100000 in
theorem c_L_agree (l : Launch) (D : va_G) (cI cII cL : ClassId) (hlt : l.stackTraces = false) (h : Nat → Nat) (o : Nat) (S : St) (p1 : Int32) (F : Nat → Int64) (hcnt : cntC S) (hhis : hisC S) : v_Li l D vwCl (tyl cI cII cL) yL_agree wsL_agree { frames := 8, cells := 2, slots := 12, locals := 126 } [.ref (h 0), .int p1, .ref o] (wL h cI cII cL o S F) (k_L_agree S p1) (wL h cI cII cL o (s_L_agree S p1) (f_L_agree S p1 F)) := by
  refine v_ofLi (cc := cL_agree) (maxL := 4) (ret := (some .int)) (own := RL) (lv0 := [(0, .ref (h 0)), (1, .int p1), (2, .ref o)]) (by decide) rfl rfl rfl (Nat.le_of_ble_eq_true rfl) ?_
  intro p e s m below meth c X hXW htab hr hk
  refine v_aload_n X dL_agree_0 rfl ?_
  refine v_iconst (x := 0) X dL_agree_1 rfl ?_
  refine v_aload_n X dL_agree_2 rfl ?_
  refine v_iload_n X dL_agree_3 rfl ?_
  refine v_xcallVic (As := [.int p1]) (rest := [.int 0, .ref o]) (w' := wL h cI cII cL o (s_X3_agree S p1) F) X hXW (c_X3_agree l D cI cII cL hlt h S p1 hcnt hhis) (cwV 1 X.2.2.2.1 gL_agree_X3_agree rfl rfl rfl (by decide +kernel) ⟨Nat.le_of_ble_eq_true rfl, Nat.le_of_ble_eq_true rfl⟩) isCL isRL pmL (cutL h cI cII cL o) (cutL h cI cII cL o) 0 3 rfl rfl wT_g0 rfl rfl (Nat.le_of_ble_eq_true rfl) dL_agree_4 ⟨Nat.le_of_ble_eq_true rfl, Nat.le_of_ble_eq_true rfl⟩ (fun E q9 hx => ?_) (fun c_1 => ?_)
  · have hn : ¬ (x_X3_agree S p1) = none := by rw [hx]; exact nofun
    rcases xr_X3_agree S p1 with hE | hE | hE
    · exact absurd hE hn
    · obtain rfl : v_E1 = E := Option.some.inj (hE.symm.trans hx)
      refine v_catch (E := v_E1) (name := v_E1) (pre := []) (z := ⟨0, 9, 12, 13⟩) (suf := [⟨0, 9, 15, 15⟩]) X htab (fun y hy => absurd hy List.not_mem_nil) rfl (by decide) (by decide +kernel) (hXW.2.2.2.1 v_E1 (by decide +kernel)) ?_
      refine v_astore_n (lv' := (3, .ref q9) :: [(0, .ref (h 0)), (1, .int p1), (2, .ref o)]) X dL_agree_12 (by decide) rfl ?_
      refine v_iconst (x := 1) X dL_agree_13 rfl ?_
      exact v_reti X hr hk rfl (by unfold k_L_agree; rw [if_neg hn, if_pos hE]) (by unfold s_L_agree f_L_agree; rw [if_neg hn, if_neg hn]) (Nat.le_of_ble_eq_true rfl) (Nat.le_of_ble_eq_true rfl) dL_agree_14
    · obtain rfl : v_E3 = E := Option.some.inj (hE.symm.trans hx)
      refine v_catch (E := v_E3) (name := v_E3) (pre := [⟨0, 9, 12, 13⟩]) (z := ⟨0, 9, 15, 15⟩) (suf := []) X htab (fun y hy => by rcases List.mem_singleton.mp hy with rfl; exact Or.inr ⟨by decide, v_E1, X.2.2.2.1 _ (by decide +kernel : Cond.classLink RL 13 v_E1 ∈ wsL_agree), hXW.2.2.2.2.2 (v_E3, v_E1) (by decide +kernel)⟩) rfl (by decide) (by decide +kernel) (hXW.2.2.2.1 v_E3 (by decide +kernel)) ?_
      refine v_astore_n (lv' := (3, .ref q9) :: [(0, .ref (h 0)), (1, .int p1), (2, .ref o)]) X dL_agree_15 (by decide) rfl ?_
      refine v_iconst (x := 2) X dL_agree_16 rfl ?_
      exact v_reti X hr hk rfl (by unfold k_L_agree; rw [if_neg hn, if_neg (show ¬ (x_X3_agree S p1) = some v_E1 from by rw [hE]; decide)]) (by unfold s_L_agree f_L_agree; rw [if_neg hn, if_neg hn]) (Nat.le_of_ble_eq_true rfl) (Nat.le_of_ble_eq_true rfl) dL_agree_17
  · refine v_i2l X dL_agree_7 ?_
    refine v_last (w' := wL h cI cII cL o (s_X3_agree S p1) (vp_updL F 0 (r_X3_agree S p1).toInt64)) X 29 2 wL_go rfl (vp_in_nI (n := 0) (by decide) (by decide)) dL_agree_8 wL_so ?_
    refine v_goto (tgt := 18) X dL_agree_9 (by decide) ?_
    refine v_iconst (x := 0) X dL_agree_18 rfl ?_
    exact v_reti X hr hk rfl (by unfold k_L_agree; rw [if_pos c_1]) (by unfold s_L_agree f_L_agree; rw [if_pos c_1, if_pos c_1]) (Nat.le_of_ble_eq_true rfl) (Nat.le_of_ble_eq_true rfl) dL_agree_19
def k_L_cancelSwap (S : St) (p1 : Int32) : Int32 :=
  (if (x_X3_cancelSwap S p1) = none then 0 else if (x_X3_cancelSwap S p1) = some v_E1 then 1 else 2)
def s_L_cancelSwap (S : St) (p1 : Int32) : St :=
  (if (x_X3_cancelSwap S p1) = none then (s_X3_cancelSwap S p1) else S)
set_option maxHeartbeats 1000000 in
set_option maxRecDepth 100000 in
theorem c_L_cancelSwap (l : Launch) (D : va_G) (cI cII cL : ClassId) (hlt : l.stackTraces = false) (h : Nat → Nat) (S : St) (p1 : Int32) (hcnt : cntC S) : v_Li l D vwCl (tyl cI cII cL) yL_cancelSwap wsL_cancelSwap { frames := 8, cells := 2, slots := 12, locals := 124 } [.ref (h 0), .int p1] (wT h cI cII S) (k_L_cancelSwap S p1) (wT h cI cII (s_L_cancelSwap S p1)) := by
  refine v_ofLi (cc := cL_cancelSwap) (maxL := 3) (ret := (some .int)) (own := RL) (lv0 := [(0, .ref (h 0)), (1, .int p1)]) (by decide) rfl rfl rfl (Nat.le_of_ble_eq_true rfl) ?_
  intro p e s m below meth c X hXW htab hr hk
  refine v_aload_n X dL_cancelSwap_0 rfl ?_
  refine v_iload_n X dL_cancelSwap_1 rfl ?_
  refine v_xcallVv (As := [.int p1]) (rest := []) (w' := wT h cI cII (s_X3_cancelSwap S p1)) X hXW (c_X3_cancelSwap l D cI cII cL hlt h S p1 hcnt) (cwV 1 X.2.2.2.1 gL_cancelSwap_X3_cancelSwap rfl rfl rfl (by decide +kernel) ⟨Nat.le_of_ble_eq_true rfl, Nat.le_of_ble_eq_true rfl⟩) 0 3 rfl rfl wT_g0 rfl rfl (Nat.le_of_ble_eq_true rfl) dL_cancelSwap_2 ⟨Nat.le_of_ble_eq_true rfl, Nat.le_of_ble_eq_true rfl⟩ (fun E q9 hx => ?_) (fun c_1 => ?_)
  · have hn : ¬ (x_X3_cancelSwap S p1) = none := by rw [hx]; exact nofun
    rcases xr_X3_cancelSwap S p1 with hE | hE | hE
    · exact absurd hE hn
    · obtain rfl : v_E1 = E := Option.some.inj (hE.symm.trans hx)
      refine v_catch (E := v_E1) (name := v_E1) (pre := []) (z := ⟨0, 5, 8, 13⟩) (suf := [⟨0, 5, 11, 15⟩]) X htab (fun y hy => absurd hy List.not_mem_nil) rfl (by decide) (by decide +kernel) (hXW.2.2.2.1 v_E1 (by decide +kernel)) ?_
      refine v_astore_n (lv' := (2, .ref q9) :: [(0, .ref (h 0)), (1, .int p1)]) X dL_cancelSwap_8 (by decide) rfl ?_
      refine v_iconst (x := 1) X dL_cancelSwap_9 rfl ?_
      exact v_reti X hr hk rfl (by unfold k_L_cancelSwap; rw [if_neg hn, if_pos hE]) (by unfold s_L_cancelSwap; rw [if_neg hn]) (Nat.le_of_ble_eq_true rfl) (Nat.le_of_ble_eq_true rfl) dL_cancelSwap_10
    · obtain rfl : v_E3 = E := Option.some.inj (hE.symm.trans hx)
      refine v_catch (E := v_E3) (name := v_E3) (pre := [⟨0, 5, 8, 13⟩]) (z := ⟨0, 5, 11, 15⟩) (suf := []) X htab (fun y hy => by rcases List.mem_singleton.mp hy with rfl; exact Or.inr ⟨by decide, v_E1, X.2.2.2.1 _ (by decide +kernel : Cond.classLink RL 13 v_E1 ∈ wsL_cancelSwap), hXW.2.2.2.2.2 (v_E3, v_E1) (by decide +kernel)⟩) rfl (by decide) (by decide +kernel) (hXW.2.2.2.1 v_E3 (by decide +kernel)) ?_
      refine v_astore_n (lv' := (2, .ref q9) :: [(0, .ref (h 0)), (1, .int p1)]) X dL_cancelSwap_11 (by decide) rfl ?_
      refine v_iconst (x := 2) X dL_cancelSwap_12 rfl ?_
      exact v_reti X hr hk rfl (by unfold k_L_cancelSwap; rw [if_neg hn, if_neg (show ¬ (x_X3_cancelSwap S p1) = some v_E1 from by rw [hE]; decide)]) (by unfold s_L_cancelSwap; rw [if_neg hn]) (Nat.le_of_ble_eq_true rfl) (Nat.le_of_ble_eq_true rfl) dL_cancelSwap_13
  · refine v_goto (tgt := 14) X dL_cancelSwap_5 (by decide) ?_
    refine v_iconst (x := 0) X dL_cancelSwap_14 rfl ?_
    exact v_reti X hr hk rfl (by unfold k_L_cancelSwap; rw [if_pos c_1]) (by unfold s_L_cancelSwap; rw [if_pos c_1]) (Nat.le_of_ble_eq_true rfl) (Nat.le_of_ble_eq_true rfl) dL_cancelSwap_15
def k_L_lend (S : St) (p1 p2 p3 : Int32) : Int32 :=
  (if (x_X3_lend S p1 p2 p3) = none then 0 else if (x_X3_lend S p1 p2 p3) = some v_E1 then 1 else if (x_X3_lend S p1 p2 p3) = some v_E2 then 2 else 3)
def s_L_lend (S : St) (p1 p2 p3 : Int32) : St :=
  (if (x_X3_lend S p1 p2 p3) = none then (s_X3_lend S p1 p2 p3) else S)
def f_L_lend (S : St) (p1 p2 p3 : Int32) (F : Nat → Int64) : Nat → Int64 :=
  (if (x_X3_lend S p1 p2 p3) = none then vp_updL F 0 (r_X3_lend S p1 p2 p3).toInt64 else F)
set_option maxHeartbeats 1000000 in
set_option maxRecDepth 100000 in
theorem c_L_lend (l : Launch) (D : va_G) (cI cII cL : ClassId) (hlt : l.stackTraces = false) (h : Nat → Nat) (o : Nat) (S : St) (p1 p2 p3 : Int32) (F : Nat → Int64) (hcnt : cntC S) : v_Li l D vwCl (tyl cI cII cL) yL_lend wsL_lend { frames := 8, cells := 3, slots := 18, locals := 127 } [.ref (h 0), .int p1, .int p2, .int p3, .ref o] (wL h cI cII cL o S F) (k_L_lend S p1 p2 p3) (wL h cI cII cL o (s_L_lend S p1 p2 p3) (f_L_lend S p1 p2 p3 F)) := by
  refine v_ofLi (cc := cL_lend) (maxL := 6) (ret := (some .int)) (own := RL) (lv0 := [(0, .ref (h 0)), (1, .int p1), (2, .int p2), (3, .int p3), (4, .ref o)]) (by decide) rfl rfl rfl (Nat.le_of_ble_eq_true rfl) ?_
  intro p e s m below meth c X hXW htab hr hk
  refine v_aload X dL_lend_0 rfl ?_
  refine v_iconst (x := 0) X dL_lend_2 rfl ?_
  refine v_aload_n X dL_lend_3 rfl ?_
  refine v_iload_n X dL_lend_4 rfl ?_
  refine v_iload_n X dL_lend_5 rfl ?_
  refine v_iload_n X dL_lend_6 rfl ?_
  refine v_xcallVic (As := [.int p1, .int p2, .int p3]) (rest := [.int 0, .ref o]) (w' := wL h cI cII cL o (s_X3_lend S p1 p2 p3) F) X hXW (c_X3_lend l D cI cII cL hlt h S p1 p2 p3 hcnt) (cwV 3 X.2.2.2.1 gL_lend_X3_lend rfl rfl rfl (by decide +kernel) ⟨Nat.le_of_ble_eq_true rfl, Nat.le_of_ble_eq_true rfl⟩) isCL isRL pmL (cutL h cI cII cL o) (cutL h cI cII cL o) 0 3 rfl rfl wT_g0 rfl rfl (Nat.le_of_ble_eq_true rfl) dL_lend_7 ⟨Nat.le_of_ble_eq_true rfl, Nat.le_of_ble_eq_true rfl⟩ (fun E q9 hx => ?_) (fun c_1 => ?_)
  · have hn : ¬ (x_X3_lend S p1 p2 p3) = none := by rw [hx]; exact nofun
    rcases xr_X3_lend S p1 p2 p3 with hE | hE | hE | hE
    · exact absurd hE hn
    · obtain rfl : v_E1 = E := Option.some.inj (hE.symm.trans hx)
      refine v_catch (E := v_E1) (name := v_E1) (pre := []) (z := ⟨0, 12, 15, 13⟩) (suf := [⟨0, 12, 19, 36⟩, ⟨0, 12, 23, 15⟩]) X htab (fun y hy => absurd hy List.not_mem_nil) rfl (by decide) (by decide +kernel) (hXW.2.2.2.1 v_E1 (by decide +kernel)) ?_
      refine v_astore (lv' := (5, .ref q9) :: [(0, .ref (h 0)), (1, .int p1), (2, .int p2), (3, .int p3), (4, .ref o)]) X dL_lend_15 (by decide) rfl ?_
      refine v_iconst (x := 1) X dL_lend_17 rfl ?_
      exact v_reti X hr hk rfl (by unfold k_L_lend; rw [if_neg hn, if_pos hE]) (by unfold s_L_lend f_L_lend; rw [if_neg hn, if_neg hn]) (Nat.le_of_ble_eq_true rfl) (Nat.le_of_ble_eq_true rfl) dL_lend_18
    · obtain rfl : v_E2 = E := Option.some.inj (hE.symm.trans hx)
      refine v_catch (E := v_E2) (name := v_E2) (pre := [⟨0, 12, 15, 13⟩]) (z := ⟨0, 12, 19, 36⟩) (suf := [⟨0, 12, 23, 15⟩]) X htab (fun y hy => by rcases List.mem_singleton.mp hy with rfl; exact Or.inr ⟨by decide, v_E1, X.2.2.2.1 _ (by decide +kernel : Cond.classLink RL 13 v_E1 ∈ wsL_lend), hXW.2.2.2.2.2 (v_E2, v_E1) (by decide +kernel)⟩) rfl (by decide) (by decide +kernel) (hXW.2.2.2.1 v_E2 (by decide +kernel)) ?_
      refine v_astore (lv' := (5, .ref q9) :: [(0, .ref (h 0)), (1, .int p1), (2, .int p2), (3, .int p3), (4, .ref o)]) X dL_lend_19 (by decide) rfl ?_
      refine v_iconst (x := 2) X dL_lend_21 rfl ?_
      exact v_reti X hr hk rfl (by unfold k_L_lend; rw [if_neg hn, if_neg (show ¬ (x_X3_lend S p1 p2 p3) = some v_E1 from by rw [hE]; decide), if_pos hE]) (by unfold s_L_lend f_L_lend; rw [if_neg hn, if_neg hn]) (Nat.le_of_ble_eq_true rfl) (Nat.le_of_ble_eq_true rfl) dL_lend_22
    · obtain rfl : v_E3 = E := Option.some.inj (hE.symm.trans hx)
      refine v_catch (E := v_E3) (name := v_E3) (pre := [⟨0, 12, 15, 13⟩, ⟨0, 12, 19, 36⟩]) (z := ⟨0, 12, 23, 15⟩) (suf := []) X htab (fun y hy => by rcases List.mem_cons.mp hy with rfl | hy; exact Or.inr ⟨by decide, v_E1, X.2.2.2.1 _ (by decide +kernel : Cond.classLink RL 13 v_E1 ∈ wsL_lend), hXW.2.2.2.2.2 (v_E3, v_E1) (by decide +kernel)⟩; rcases List.mem_singleton.mp hy with rfl; exact Or.inr ⟨by decide, v_E2, X.2.2.2.1 _ (by decide +kernel : Cond.classLink RL 36 v_E2 ∈ wsL_lend), hXW.2.2.2.2.2 (v_E3, v_E2) (by decide +kernel)⟩) rfl (by decide) (by decide +kernel) (hXW.2.2.2.1 v_E3 (by decide +kernel)) ?_
      refine v_astore (lv' := (5, .ref q9) :: [(0, .ref (h 0)), (1, .int p1), (2, .int p2), (3, .int p3), (4, .ref o)]) X dL_lend_23 (by decide) rfl ?_
      refine v_iconst (x := 3) X dL_lend_25 rfl ?_
      exact v_reti X hr hk rfl (by unfold k_L_lend; rw [if_neg hn, if_neg (show ¬ (x_X3_lend S p1 p2 p3) = some v_E1 from by rw [hE]; decide), if_neg (show ¬ (x_X3_lend S p1 p2 p3) = some v_E2 from by rw [hE]; decide)]) (by unfold s_L_lend f_L_lend; rw [if_neg hn, if_neg hn]) (Nat.le_of_ble_eq_true rfl) (Nat.le_of_ble_eq_true rfl) dL_lend_26
  · refine v_i2l X dL_lend_10 ?_
    refine v_last (w' := wL h cI cII cL o (s_X3_lend S p1 p2 p3) (vp_updL F 0 (r_X3_lend S p1 p2 p3).toInt64)) X 29 2 wL_go rfl (vp_in_nI (n := 0) (by decide) (by decide)) dL_lend_11 wL_so ?_
    refine v_goto (tgt := 27) X dL_lend_12 (by decide) ?_
    refine v_iconst (x := 0) X dL_lend_27 rfl ?_
    exact v_reti X hr hk rfl (by unfold k_L_lend; rw [if_pos c_1]) (by unfold s_L_lend f_L_lend; rw [if_pos c_1, if_pos c_1]) (Nat.le_of_ble_eq_true rfl) (Nat.le_of_ble_eq_true rfl) dL_lend_28
def k_L_ban (S : St) (p1 p2 : Int32) : Int32 :=
  (if (x_X3_ban S p1 p2) = none then 0 else if (x_X3_ban S p1 p2) = some v_E1 then 1 else 2)
def s_L_ban (S : St) (p1 p2 : Int32) : St :=
  (if (x_X3_ban S p1 p2) = none then (s_X3_ban S p1 p2) else S)
def f_L_ban (S : St) (p1 p2 : Int32) (F : Nat → Int64) : Nat → Int64 :=
  (if (x_X3_ban S p1 p2) = none then vp_updL F 0 (r_X3_ban S p1 p2).toInt64 else F)
set_option maxHeartbeats 1000000 in
set_option maxRecDepth 100000 in
theorem c_L_ban (l : Launch) (D : va_G) (cI cII cL : ClassId) (hlt : l.stackTraces = false) (h : Nat → Nat) (o : Nat) (S : St) (p1 p2 : Int32) (F : Nat → Int64) (hcnt : cntC S) : v_Li l D vwCl (tyl cI cII cL) yL_ban wsL_ban { frames := 8, cells := 2, slots := 12, locals := 124 } [.ref (h 0), .int p1, .int p2, .ref o] (wL h cI cII cL o S F) (k_L_ban S p1 p2) (wL h cI cII cL o (s_L_ban S p1 p2) (f_L_ban S p1 p2 F)) := by
  refine v_ofLi (cc := cL_ban) (maxL := 5) (ret := (some .int)) (own := RL) (lv0 := [(0, .ref (h 0)), (1, .int p1), (2, .int p2), (3, .ref o)]) (by decide) rfl rfl rfl (Nat.le_of_ble_eq_true rfl) ?_
  intro p e s m below meth c X hXW htab hr hk
  refine v_aload_n X dL_ban_0 rfl ?_
  refine v_iconst (x := 0) X dL_ban_1 rfl ?_
  refine v_aload_n X dL_ban_2 rfl ?_
  refine v_iload_n X dL_ban_3 rfl ?_
  refine v_iload_n X dL_ban_4 rfl ?_
  refine v_xcallVic (As := [.int p1, .int p2]) (rest := [.int 0, .ref o]) (w' := wL h cI cII cL o (s_X3_ban S p1 p2) F) X hXW (c_X3_ban l D cI cII cL hlt h S p1 p2 hcnt) (cwV 2 X.2.2.2.1 gL_ban_X3_ban rfl rfl rfl (by decide +kernel) ⟨Nat.le_of_ble_eq_true rfl, Nat.le_of_ble_eq_true rfl⟩) isCL isRL pmL (cutL h cI cII cL o) (cutL h cI cII cL o) 0 3 rfl rfl wT_g0 rfl rfl (Nat.le_of_ble_eq_true rfl) dL_ban_5 ⟨Nat.le_of_ble_eq_true rfl, Nat.le_of_ble_eq_true rfl⟩ (fun E q9 hx => ?_) (fun c_1 => ?_)
  · have hn : ¬ (x_X3_ban S p1 p2) = none := by rw [hx]; exact nofun
    rcases xr_X3_ban S p1 p2 with hE | hE | hE
    · exact absurd hE hn
    · obtain rfl : v_E1 = E := Option.some.inj (hE.symm.trans hx)
      refine v_catch (E := v_E1) (name := v_E1) (pre := []) (z := ⟨0, 10, 13, 13⟩) (suf := [⟨0, 10, 17, 36⟩]) X htab (fun y hy => absurd hy List.not_mem_nil) rfl (by decide) (by decide +kernel) (hXW.2.2.2.1 v_E1 (by decide +kernel)) ?_
      refine v_astore (lv' := (4, .ref q9) :: [(0, .ref (h 0)), (1, .int p1), (2, .int p2), (3, .ref o)]) X dL_ban_13 (by decide) rfl ?_
      refine v_iconst (x := 1) X dL_ban_15 rfl ?_
      exact v_reti X hr hk rfl (by unfold k_L_ban; rw [if_neg hn, if_pos hE]) (by unfold s_L_ban f_L_ban; rw [if_neg hn, if_neg hn]) (Nat.le_of_ble_eq_true rfl) (Nat.le_of_ble_eq_true rfl) dL_ban_16
    · obtain rfl : v_E2 = E := Option.some.inj (hE.symm.trans hx)
      refine v_catch (E := v_E2) (name := v_E2) (pre := [⟨0, 10, 13, 13⟩]) (z := ⟨0, 10, 17, 36⟩) (suf := []) X htab (fun y hy => by rcases List.mem_singleton.mp hy with rfl; exact Or.inr ⟨by decide, v_E1, X.2.2.2.1 _ (by decide +kernel : Cond.classLink RL 13 v_E1 ∈ wsL_ban), hXW.2.2.2.2.2 (v_E2, v_E1) (by decide +kernel)⟩) rfl (by decide) (by decide +kernel) (hXW.2.2.2.1 v_E2 (by decide +kernel)) ?_
      refine v_astore (lv' := (4, .ref q9) :: [(0, .ref (h 0)), (1, .int p1), (2, .int p2), (3, .ref o)]) X dL_ban_17 (by decide) rfl ?_
      refine v_iconst (x := 2) X dL_ban_19 rfl ?_
      exact v_reti X hr hk rfl (by unfold k_L_ban; rw [if_neg hn, if_neg (show ¬ (x_X3_ban S p1 p2) = some v_E1 from by rw [hE]; decide)]) (by unfold s_L_ban f_L_ban; rw [if_neg hn, if_neg hn]) (Nat.le_of_ble_eq_true rfl) (Nat.le_of_ble_eq_true rfl) dL_ban_20
  · refine v_i2l X dL_ban_8 ?_
    refine v_last (w' := wL h cI cII cL o (s_X3_ban S p1 p2) (vp_updL F 0 (r_X3_ban S p1 p2).toInt64)) X 29 2 wL_go rfl (vp_in_nI (n := 0) (by decide) (by decide)) dL_ban_9 wL_so ?_
    refine v_goto (tgt := 21) X dL_ban_10 (by decide) ?_
    refine v_iconst (x := 0) X dL_ban_21 rfl ?_
    exact v_reti X hr hk rfl (by unfold k_L_ban; rw [if_pos c_1]) (by unfold s_L_ban f_L_ban; rw [if_pos c_1, if_pos c_1]) (Nat.le_of_ble_eq_true rfl) (Nat.le_of_ble_eq_true rfl) dL_ban_22
def k_L_lift (S : St) (p1 : Int32) : Int32 :=
  (if (x_X3_lift S p1) = none then 0 else 1)
def s_L_lift (S : St) (p1 : Int32) : St :=
  (if (x_X3_lift S p1) = none then (s_X3_lift S p1) else S)
def f_L_lift (S : St) (p1 : Int32) (F : Nat → Int64) : Nat → Int64 :=
  (if (x_X3_lift S p1) = none then vp_updL F 0 (if r_X3_lift S p1 = 0 then 0 else 1) else F)
set_option maxHeartbeats 1000000 in
set_option maxRecDepth 100000 in
theorem c_L_lift (l : Launch) (D : va_G) (cI cII cL : ClassId) (hlt : l.stackTraces = false) (h : Nat → Nat) (o : Nat) (S : St) (p1 : Int32) (F : Nat → Int64) : v_Li l D vwCl (tyl cI cII cL) yL_lift wsL_lift { frames := 8, cells := 1, slots := 6, locals := 124 } [.ref (h 0), .int p1, .ref o] (wL h cI cII cL o S F) (k_L_lift S p1) (wL h cI cII cL o (s_L_lift S p1) (f_L_lift S p1 F)) := by
  refine v_ofLi (cc := cL_lift) (maxL := 4) (ret := (some .int)) (own := RL) (lv0 := [(0, .ref (h 0)), (1, .int p1), (2, .ref o)]) (by decide) rfl rfl rfl (Nat.le_of_ble_eq_true rfl) ?_
  intro p e s m below meth c X hXW htab hr hk
  refine v_aload_n X dL_lift_0 rfl ?_
  refine v_iconst (x := 0) X dL_lift_1 rfl ?_
  refine v_aload_n X dL_lift_2 rfl ?_
  refine v_iload_n X dL_lift_3 rfl ?_
  refine v_xcallVic (As := [.int p1]) (rest := [.int 0, .ref o]) (w' := wL h cI cII cL o (s_X3_lift S p1) F) X hXW (c_X3_lift l D cI cII cL hlt h S p1 ) (cwV 1 X.2.2.2.1 gL_lift_X3_lift rfl rfl rfl (by decide +kernel) ⟨Nat.le_of_ble_eq_true rfl, Nat.le_of_ble_eq_true rfl⟩) isCL isRL pmL (cutL h cI cII cL o) (cutL h cI cII cL o) 0 3 rfl rfl wT_g0 rfl rfl (Nat.le_of_ble_eq_true rfl) dL_lift_4 ⟨Nat.le_of_ble_eq_true rfl, Nat.le_of_ble_eq_true rfl⟩ (fun E q9 hx => ?_) (fun c_1 => ?_)
  · have hn : ¬ (x_X3_lift S p1) = none := by rw [hx]; exact nofun
    rcases xr_X3_lift S p1 with hE | hE
    · exact absurd hE hn
    · obtain rfl : v_E1 = E := Option.some.inj (hE.symm.trans hx)
      refine v_catch (E := v_E1) (name := v_E1) (pre := []) (z := ⟨0, 16, 19, 13⟩) (suf := []) X htab (fun y hy => absurd hy List.not_mem_nil) rfl (by decide) (by decide +kernel) (hXW.2.2.2.1 v_E1 (by decide +kernel)) ?_
      refine v_astore_n (lv' := (3, .ref q9) :: [(0, .ref (h 0)), (1, .int p1), (2, .ref o)]) X dL_lift_19 (by decide) rfl ?_
      refine v_iconst (x := 1) X dL_lift_20 rfl ?_
      exact v_reti X hr hk rfl (by unfold k_L_lift; rw [if_neg hn]) (by unfold s_L_lift f_L_lift; rw [if_neg hn, if_neg hn]) (Nat.le_of_ble_eq_true rfl) (Nat.le_of_ble_eq_true rfl) dL_lift_21
  · refine v_if_eq (tgt := 14) X dL_lift_7 (by decide) (fun c_2 => ?_) (fun c_2 => ?_)
    · refine v_lconst (v := 0) X dL_lift_14 rfl ?_
      refine v_last (w' := wL h cI cII cL o (s_X3_lift S p1) (vp_updL F 0 0)) X 29 2 wL_go rfl (vp_in_nI (n := 0) (by decide) (by decide)) dL_lift_15 wL_so ?_
      refine v_goto (tgt := 22) X dL_lift_16 (by decide) ?_
      refine v_iconst (x := 0) X dL_lift_22 rfl ?_
      exact v_reti X hr hk rfl (by unfold k_L_lift; rw [if_pos c_1]) (by unfold s_L_lift f_L_lift; rw [if_pos c_1, if_pos c_1, if_pos c_2]) (Nat.le_of_ble_eq_true rfl) (Nat.le_of_ble_eq_true rfl) dL_lift_23
    · refine v_lconst (v := 1) X dL_lift_10 rfl ?_
      refine v_goto (tgt := 15) X dL_lift_11 (by decide) ?_
      refine v_last (w' := wL h cI cII cL o (s_X3_lift S p1) (vp_updL F 0 1)) X 29 2 wL_go rfl (vp_in_nI (n := 0) (by decide) (by decide)) dL_lift_15 wL_so ?_
      refine v_goto (tgt := 22) X dL_lift_16 (by decide) ?_
      refine v_iconst (x := 0) X dL_lift_22 rfl ?_
      exact v_reti X hr hk rfl (by unfold k_L_lift; rw [if_pos c_1]) (by unfold s_L_lift f_L_lift; rw [if_pos c_1, if_pos c_1, if_neg c_2]) (Nat.le_of_ble_eq_true rfl) (Nat.le_of_ble_eq_true rfl) dL_lift_23
def k_L_isBanned (S : St) (p1 : Int32) : Int32 :=
  (if (x_X3_isBanned S p1) = none then 0 else 1)
def f_L_isBanned (S : St) (p1 : Int32) (F : Nat → Int64) : Nat → Int64 :=
  (if (x_X3_isBanned S p1) = none then vp_updL F 0 (if r_X3_isBanned S p1 = 0 then 0 else 1) else F)
set_option maxHeartbeats 1000000 in
set_option maxRecDepth 100000 in
theorem c_L_isBanned (l : Launch) (D : va_G) (cI cII cL : ClassId) (hlt : l.stackTraces = false) (h : Nat → Nat) (o : Nat) (S : St) (p1 : Int32) (F : Nat → Int64) : v_Li l D vwCl (tyl cI cII cL) yL_isBanned wsL_isBanned { frames := 8, cells := 1, slots := 6, locals := 123 } [.ref (h 0), .int p1, .ref o] (wL h cI cII cL o S F) (k_L_isBanned S p1) (wL h cI cII cL o S (f_L_isBanned S p1 F)) := by
  refine v_ofLi (cc := cL_isBanned) (maxL := 4) (ret := (some .int)) (own := RL) (lv0 := [(0, .ref (h 0)), (1, .int p1), (2, .ref o)]) (by decide) rfl rfl rfl (Nat.le_of_ble_eq_true rfl) ?_
  intro p e s m below meth c X hXW htab hr hk
  refine v_aload_n X dL_isBanned_0 rfl ?_
  refine v_iconst (x := 0) X dL_isBanned_1 rfl ?_
  refine v_aload_n X dL_isBanned_2 rfl ?_
  refine v_iload_n X dL_isBanned_3 rfl ?_
  refine v_xcallVic (As := [.int p1]) (rest := [.int 0, .ref o]) (w' := wL h cI cII cL o S F) X hXW (c_X3_isBanned l D cI cII cL hlt h S p1 ) (cwV 1 X.2.2.2.1 gL_isBanned_X3_isBanned rfl rfl rfl (by decide +kernel) ⟨Nat.le_of_ble_eq_true rfl, Nat.le_of_ble_eq_true rfl⟩) isCL isRL pmL (cutL h cI cII cL o) (cutL h cI cII cL o) 0 3 rfl rfl wT_g0 rfl rfl (Nat.le_of_ble_eq_true rfl) dL_isBanned_4 ⟨Nat.le_of_ble_eq_true rfl, Nat.le_of_ble_eq_true rfl⟩ (fun E q9 hx => ?_) (fun c_1 => ?_)
  · have hn : ¬ (x_X3_isBanned S p1) = none := by rw [hx]; exact nofun
    rcases xr_X3_isBanned S p1 with hE | hE
    · exact absurd hE hn
    · obtain rfl : v_E1 = E := Option.some.inj (hE.symm.trans hx)
      refine v_catch (E := v_E1) (name := v_E1) (pre := []) (z := ⟨0, 16, 19, 13⟩) (suf := []) X htab (fun y hy => absurd hy List.not_mem_nil) rfl (by decide) (by decide +kernel) (hXW.2.2.2.1 v_E1 (by decide +kernel)) ?_
      refine v_astore_n (lv' := (3, .ref q9) :: [(0, .ref (h 0)), (1, .int p1), (2, .ref o)]) X dL_isBanned_19 (by decide) rfl ?_
      refine v_iconst (x := 1) X dL_isBanned_20 rfl ?_
      exact v_reti X hr hk rfl (by unfold k_L_isBanned; rw [if_neg hn]) (by unfold f_L_isBanned; rw [if_neg hn]) (Nat.le_of_ble_eq_true rfl) (Nat.le_of_ble_eq_true rfl) dL_isBanned_21
  · refine v_if_eq (tgt := 14) X dL_isBanned_7 (by decide) (fun c_2 => ?_) (fun c_2 => ?_)
    · refine v_lconst (v := 0) X dL_isBanned_14 rfl ?_
      refine v_last (w' := wL h cI cII cL o S (vp_updL F 0 0)) X 29 2 wL_go rfl (vp_in_nI (n := 0) (by decide) (by decide)) dL_isBanned_15 wL_so ?_
      refine v_goto (tgt := 22) X dL_isBanned_16 (by decide) ?_
      refine v_iconst (x := 0) X dL_isBanned_22 rfl ?_
      exact v_reti X hr hk rfl (by unfold k_L_isBanned; rw [if_pos c_1]) (by unfold f_L_isBanned; rw [if_pos c_1, if_pos c_2]) (Nat.le_of_ble_eq_true rfl) (Nat.le_of_ble_eq_true rfl) dL_isBanned_23
    · refine v_lconst (v := 1) X dL_isBanned_10 rfl ?_
      refine v_goto (tgt := 15) X dL_isBanned_11 (by decide) ?_
      refine v_last (w' := wL h cI cII cL o S (vp_updL F 0 1)) X 29 2 wL_go rfl (vp_in_nI (n := 0) (by decide) (by decide)) dL_isBanned_15 wL_so ?_
      refine v_goto (tgt := 22) X dL_isBanned_16 (by decide) ?_
      refine v_iconst (x := 0) X dL_isBanned_22 rfl ?_
      exact v_reti X hr hk rfl (by unfold k_L_isBanned; rw [if_pos c_1]) (by unfold f_L_isBanned; rw [if_pos c_1, if_neg c_2]) (Nat.le_of_ble_eq_true rfl) (Nat.le_of_ble_eq_true rfl) dL_isBanned_23
def k_L_pass (S : St) (p1 : Int32) : Int32 :=
  (if (x_X3_pass S p1) = none then 0 else 1)
def s_L_pass (S : St) (p1 : Int32) : St :=
  (if (x_X3_pass S p1) = none then (s_X3_pass S p1) else S)
def f_L_pass (S : St) (p1 : Int32) (F : Nat → Int64) : Nat → Int64 :=
  (if (x_X3_pass S p1) = none then vp_updL F 0 (r_X3_pass S p1).toInt64 else F)
set_option maxHeartbeats 1000000 in
set_option maxRecDepth 100000 in
theorem c_L_pass (l : Launch) (D : va_G) (cI cII cL : ClassId) (hlt : l.stackTraces = false) (h : Nat → Nat) (o : Nat) (S : St) (p1 : Int32) (F : Nat → Int64) (hcnt : cntC S) : v_Li l D vwCl (tyl cI cII cL) yL_pass wsL_pass { frames := 7, cells := 1, slots := 6, locals := 104 } [.ref (h 0), .int p1, .ref o] (wL h cI cII cL o S F) (k_L_pass S p1) (wL h cI cII cL o (s_L_pass S p1) (f_L_pass S p1 F)) := by
  refine v_ofLi (cc := cL_pass) (maxL := 4) (ret := (some .int)) (own := RL) (lv0 := [(0, .ref (h 0)), (1, .int p1), (2, .ref o)]) (by decide) rfl rfl rfl (Nat.le_of_ble_eq_true rfl) ?_
  intro p e s m below meth c X hXW htab hr hk
  refine v_aload_n X dL_pass_0 rfl ?_
  refine v_iconst (x := 0) X dL_pass_1 rfl ?_
  refine v_aload_n X dL_pass_2 rfl ?_
  refine v_iload_n X dL_pass_3 rfl ?_
  refine v_xcallVic (As := [.int p1]) (rest := [.int 0, .ref o]) (w' := wL h cI cII cL o (s_X3_pass S p1) F) X hXW (c_X3_pass l D cI cII cL hlt h S p1 hcnt) (cwV 1 X.2.2.2.1 gL_pass_X3_pass rfl rfl rfl (by decide +kernel) ⟨Nat.le_of_ble_eq_true rfl, Nat.le_of_ble_eq_true rfl⟩) isCL isRL pmL (cutL h cI cII cL o) (cutL h cI cII cL o) 0 3 rfl rfl wT_g0 rfl rfl (Nat.le_of_ble_eq_true rfl) dL_pass_4 ⟨Nat.le_of_ble_eq_true rfl, Nat.le_of_ble_eq_true rfl⟩ (fun E q9 hx => ?_) (fun c_1 => ?_)
  · have hn : ¬ (x_X3_pass S p1) = none := by rw [hx]; exact nofun
    rcases xr_X3_pass S p1 with hE | hE
    · exact absurd hE hn
    · obtain rfl : v_E2 = E := Option.some.inj (hE.symm.trans hx)
      refine v_catch (E := v_E2) (name := v_E2) (pre := []) (z := ⟨0, 9, 12, 36⟩) (suf := []) X htab (fun y hy => absurd hy List.not_mem_nil) rfl (by decide) (by decide +kernel) (hXW.2.2.2.1 v_E2 (by decide +kernel)) ?_
      refine v_astore_n (lv' := (3, .ref q9) :: [(0, .ref (h 0)), (1, .int p1), (2, .ref o)]) X dL_pass_12 (by decide) rfl ?_
      refine v_iconst (x := 1) X dL_pass_13 rfl ?_
      exact v_reti X hr hk rfl (by unfold k_L_pass; rw [if_neg hn]) (by unfold s_L_pass f_L_pass; rw [if_neg hn, if_neg hn]) (Nat.le_of_ble_eq_true rfl) (Nat.le_of_ble_eq_true rfl) dL_pass_14
  · refine v_i2l X dL_pass_7 ?_
    refine v_last (w' := wL h cI cII cL o (s_X3_pass S p1) (vp_updL F 0 (r_X3_pass S p1).toInt64)) X 29 2 wL_go rfl (vp_in_nI (n := 0) (by decide) (by decide)) dL_pass_8 wL_so ?_
    refine v_goto (tgt := 15) X dL_pass_9 (by decide) ?_
    refine v_iconst (x := 0) X dL_pass_15 rfl ?_
    exact v_reti X hr hk rfl (by unfold k_L_pass; rw [if_pos c_1]) (by unfold s_L_pass f_L_pass; rw [if_pos c_1, if_pos c_1]) (Nat.le_of_ble_eq_true rfl) (Nat.le_of_ble_eq_true rfl) dL_pass_16
def k_L_toggleDeck (S : St) (p1 p2 : Int32) : Int32 :=
  (if (x_X3_toggleDeck S p1 p2) = none then 0 else 1)
def s_L_toggleDeck (S : St) (p1 p2 : Int32) : St :=
  (if (x_X3_toggleDeck S p1 p2) = none then (s_X3_toggleDeck S p1 p2) else S)
def f_L_toggleDeck (S : St) (p1 p2 : Int32) (F : Nat → Int64) : Nat → Int64 :=
  (if (x_X3_toggleDeck S p1 p2) = none then vp_updL F 0 (r_X3_toggleDeck S p1 p2).toInt64 else F)
set_option maxHeartbeats 1000000 in
set_option maxRecDepth 100000 in
theorem c_L_toggleDeck (l : Launch) (D : va_G) (cI cII cL : ClassId) (hlt : l.stackTraces = false) (h : Nat → Nat) (o : Nat) (S : St) (p1 p2 : Int32) (F : Nat → Int64) (hcnt : cntC S) : v_Li l D vwCl (tyl cI cII cL) yL_toggleDeck wsL_toggleDeck { frames := 8, cells := 2, slots := 12, locals := 125 } [.ref (h 0), .int p1, .int p2, .ref o] (wL h cI cII cL o S F) (k_L_toggleDeck S p1 p2) (wL h cI cII cL o (s_L_toggleDeck S p1 p2) (f_L_toggleDeck S p1 p2 F)) := by
  refine v_ofLi (cc := cL_toggleDeck) (maxL := 5) (ret := (some .int)) (own := RL) (lv0 := [(0, .ref (h 0)), (1, .int p1), (2, .int p2), (3, .ref o)]) (by decide) rfl rfl rfl (Nat.le_of_ble_eq_true rfl) ?_
  intro p e s m below meth c X hXW htab hr hk
  refine v_aload_n X dL_toggleDeck_0 rfl ?_
  refine v_iconst (x := 0) X dL_toggleDeck_1 rfl ?_
  refine v_aload_n X dL_toggleDeck_2 rfl ?_
  refine v_iload_n X dL_toggleDeck_3 rfl ?_
  refine v_iload_n X dL_toggleDeck_4 rfl ?_
  refine v_xcallVic (As := [.int p1, .int p2]) (rest := [.int 0, .ref o]) (w' := wL h cI cII cL o (s_X3_toggleDeck S p1 p2) F) X hXW (c_X3_toggleDeck l D cI cII cL hlt h S p1 p2 hcnt) (cwV 2 X.2.2.2.1 gL_toggleDeck_X3_toggleDeck rfl rfl rfl (by decide +kernel) ⟨Nat.le_of_ble_eq_true rfl, Nat.le_of_ble_eq_true rfl⟩) isCL isRL pmL (cutL h cI cII cL o) (cutL h cI cII cL o) 0 3 rfl rfl wT_g0 rfl rfl (Nat.le_of_ble_eq_true rfl) dL_toggleDeck_5 ⟨Nat.le_of_ble_eq_true rfl, Nat.le_of_ble_eq_true rfl⟩ (fun E q9 hx => ?_) (fun c_1 => ?_)
  · have hn : ¬ (x_X3_toggleDeck S p1 p2) = none := by rw [hx]; exact nofun
    rcases xr_X3_toggleDeck S p1 p2 with hE | hE
    · exact absurd hE hn
    · obtain rfl : v_E1 = E := Option.some.inj (hE.symm.trans hx)
      refine v_catch (E := v_E1) (name := v_E1) (pre := []) (z := ⟨0, 10, 13, 13⟩) (suf := []) X htab (fun y hy => absurd hy List.not_mem_nil) rfl (by decide) (by decide +kernel) (hXW.2.2.2.1 v_E1 (by decide +kernel)) ?_
      refine v_astore (lv' := (4, .ref q9) :: [(0, .ref (h 0)), (1, .int p1), (2, .int p2), (3, .ref o)]) X dL_toggleDeck_13 (by decide) rfl ?_
      refine v_iconst (x := 1) X dL_toggleDeck_15 rfl ?_
      exact v_reti X hr hk rfl (by unfold k_L_toggleDeck; rw [if_neg hn]) (by unfold s_L_toggleDeck f_L_toggleDeck; rw [if_neg hn, if_neg hn]) (Nat.le_of_ble_eq_true rfl) (Nat.le_of_ble_eq_true rfl) dL_toggleDeck_16
  · refine v_i2l X dL_toggleDeck_8 ?_
    refine v_last (w' := wL h cI cII cL o (s_X3_toggleDeck S p1 p2) (vp_updL F 0 (r_X3_toggleDeck S p1 p2).toInt64)) X 29 2 wL_go rfl (vp_in_nI (n := 0) (by decide) (by decide)) dL_toggleDeck_9 wL_so ?_
    refine v_goto (tgt := 17) X dL_toggleDeck_10 (by decide) ?_
    refine v_iconst (x := 0) X dL_toggleDeck_17 rfl ?_
    exact v_reti X hr hk rfl (by unfold k_L_toggleDeck; rw [if_pos c_1]) (by unfold s_L_toggleDeck f_L_toggleDeck; rw [if_pos c_1, if_pos c_1]) (Nat.le_of_ble_eq_true rfl) (Nat.le_of_ble_eq_true rfl) dL_toggleDeck_18
def k_L_isRight (S : St) (p1 : Int32) : Int32 :=
  (if (x_X3_isRight S p1) = none then 0 else 1)
def f_L_isRight (S : St) (p1 : Int32) (F : Nat → Int64) : Nat → Int64 :=
  (if (x_X3_isRight S p1) = none then vp_updL F 0 (if r_X3_isRight S p1 = 0 then 0 else 1) else F)
set_option maxHeartbeats 1000000 in
set_option maxRecDepth 100000 in
theorem c_L_isRight (l : Launch) (D : va_G) (cI cII cL : ClassId) (hlt : l.stackTraces = false) (h : Nat → Nat) (o : Nat) (S : St) (p1 : Int32) (F : Nat → Int64) (hcnt : cntC S) (hkin : ∀ j, vp_in (S 5 j) 8) : v_Li l D vwCl (tyl cI cII cL) yL_isRight wsL_isRight { frames := 8, cells := 1, slots := 6, locals := 123 } [.ref (h 0), .int p1, .ref o] (wL h cI cII cL o S F) (k_L_isRight S p1) (wL h cI cII cL o S (f_L_isRight S p1 F)) := by
  refine v_ofLi (cc := cL_isRight) (maxL := 4) (ret := (some .int)) (own := RL) (lv0 := [(0, .ref (h 0)), (1, .int p1), (2, .ref o)]) (by decide) rfl rfl rfl (Nat.le_of_ble_eq_true rfl) ?_
  intro p e s m below meth c X hXW htab hr hk
  refine v_aload_n X dL_isRight_0 rfl ?_
  refine v_iconst (x := 0) X dL_isRight_1 rfl ?_
  refine v_aload_n X dL_isRight_2 rfl ?_
  refine v_iload_n X dL_isRight_3 rfl ?_
  refine v_xcallVic (As := [.int p1]) (rest := [.int 0, .ref o]) (w' := wL h cI cII cL o S F) X hXW (c_X3_isRight l D cI cII cL hlt h S p1 hcnt hkin) (cwV 1 X.2.2.2.1 gL_isRight_X3_isRight rfl rfl rfl (by decide +kernel) ⟨Nat.le_of_ble_eq_true rfl, Nat.le_of_ble_eq_true rfl⟩) isCL isRL pmL (cutL h cI cII cL o) (cutL h cI cII cL o) 0 3 rfl rfl wT_g0 rfl rfl (Nat.le_of_ble_eq_true rfl) dL_isRight_4 ⟨Nat.le_of_ble_eq_true rfl, Nat.le_of_ble_eq_true rfl⟩ (fun E q9 hx => ?_) (fun c_1 => ?_)
  · have hn : ¬ (x_X3_isRight S p1) = none := by rw [hx]; exact nofun
    rcases xr_X3_isRight S p1 with hE | hE
    · exact absurd hE hn
    · obtain rfl : v_E1 = E := Option.some.inj (hE.symm.trans hx)
      refine v_catch (E := v_E1) (name := v_E1) (pre := []) (z := ⟨0, 16, 19, 13⟩) (suf := []) X htab (fun y hy => absurd hy List.not_mem_nil) rfl (by decide) (by decide +kernel) (hXW.2.2.2.1 v_E1 (by decide +kernel)) ?_
      refine v_astore_n (lv' := (3, .ref q9) :: [(0, .ref (h 0)), (1, .int p1), (2, .ref o)]) X dL_isRight_19 (by decide) rfl ?_
      refine v_iconst (x := 1) X dL_isRight_20 rfl ?_
      exact v_reti X hr hk rfl (by unfold k_L_isRight; rw [if_neg hn]) (by unfold f_L_isRight; rw [if_neg hn]) (Nat.le_of_ble_eq_true rfl) (Nat.le_of_ble_eq_true rfl) dL_isRight_21
  · refine v_if_eq (tgt := 14) X dL_isRight_7 (by decide) (fun c_2 => ?_) (fun c_2 => ?_)
    · refine v_lconst (v := 0) X dL_isRight_14 rfl ?_
      refine v_last (w' := wL h cI cII cL o S (vp_updL F 0 0)) X 29 2 wL_go rfl (vp_in_nI (n := 0) (by decide) (by decide)) dL_isRight_15 wL_so ?_
      refine v_goto (tgt := 22) X dL_isRight_16 (by decide) ?_
      refine v_iconst (x := 0) X dL_isRight_22 rfl ?_
      exact v_reti X hr hk rfl (by unfold k_L_isRight; rw [if_pos c_1]) (by unfold f_L_isRight; rw [if_pos c_1, if_pos c_2]) (Nat.le_of_ble_eq_true rfl) (Nat.le_of_ble_eq_true rfl) dL_isRight_23
    · refine v_lconst (v := 1) X dL_isRight_10 rfl ?_
      refine v_goto (tgt := 15) X dL_isRight_11 (by decide) ?_
      refine v_last (w' := wL h cI cII cL o S (vp_updL F 0 1)) X 29 2 wL_go rfl (vp_in_nI (n := 0) (by decide) (by decide)) dL_isRight_15 wL_so ?_
      refine v_goto (tgt := 22) X dL_isRight_16 (by decide) ?_
      refine v_iconst (x := 0) X dL_isRight_22 rfl ?_
      exact v_reti X hr hk rfl (by unfold k_L_isRight; rw [if_pos c_1]) (by unfold f_L_isRight; rw [if_pos c_1, if_neg c_2]) (Nat.le_of_ble_eq_true rfl) (Nat.le_of_ble_eq_true rfl) dL_isRight_23
def k_L_strength (S : St) (p1 : Int32) : Int32 :=
  (if (x_X3_strength S p1) = none then 0 else 1)
def f_L_strength (S : St) (p1 : Int32) (F : Nat → Int64) : Nat → Int64 :=
  (if (x_X3_strength S p1) = none then vp_updL F 0 (r_X3_strength S p1).toInt64 else F)
set_option maxHeartbeats 1000000 in
set_option maxRecDepth 100000 in
theorem c_L_strength (l : Launch) (D : va_G) (cI cII cL : ClassId) (hlt : l.stackTraces = false) (h : Nat → Nat) (o : Nat) (S : St) (p1 : Int32) (F : Nat → Int64) (hcnt : cntC S) : v_Li l D vwCl (tyl cI cII cL) yL_strength wsL_strength { frames := 8, cells := 1, slots := 6, locals := 123 } [.ref (h 0), .int p1, .ref o] (wL h cI cII cL o S F) (k_L_strength S p1) (wL h cI cII cL o S (f_L_strength S p1 F)) := by
  refine v_ofLi (cc := cL_strength) (maxL := 4) (ret := (some .int)) (own := RL) (lv0 := [(0, .ref (h 0)), (1, .int p1), (2, .ref o)]) (by decide) rfl rfl rfl (Nat.le_of_ble_eq_true rfl) ?_
  intro p e s m below meth c X hXW htab hr hk
  refine v_aload_n X dL_strength_0 rfl ?_
  refine v_iconst (x := 0) X dL_strength_1 rfl ?_
  refine v_aload_n X dL_strength_2 rfl ?_
  refine v_iload_n X dL_strength_3 rfl ?_
  refine v_xcallVic (As := [.int p1]) (rest := [.int 0, .ref o]) (w' := wL h cI cII cL o S F) X hXW (c_X3_strength l D cI cII cL hlt h S p1 hcnt) (cwV 1 X.2.2.2.1 gL_strength_X3_strength rfl rfl rfl (by decide +kernel) ⟨Nat.le_of_ble_eq_true rfl, Nat.le_of_ble_eq_true rfl⟩) isCL isRL pmL (cutL h cI cII cL o) (cutL h cI cII cL o) 0 3 rfl rfl wT_g0 rfl rfl (Nat.le_of_ble_eq_true rfl) dL_strength_4 ⟨Nat.le_of_ble_eq_true rfl, Nat.le_of_ble_eq_true rfl⟩ (fun E q9 hx => ?_) (fun c_1 => ?_)
  · have hn : ¬ (x_X3_strength S p1) = none := by rw [hx]; exact nofun
    rcases xr_X3_strength S p1 with hE | hE
    · exact absurd hE hn
    · obtain rfl : v_E1 = E := Option.some.inj (hE.symm.trans hx)
      refine v_catch (E := v_E1) (name := v_E1) (pre := []) (z := ⟨0, 9, 12, 13⟩) (suf := []) X htab (fun y hy => absurd hy List.not_mem_nil) rfl (by decide) (by decide +kernel) (hXW.2.2.2.1 v_E1 (by decide +kernel)) ?_
      refine v_astore_n (lv' := (3, .ref q9) :: [(0, .ref (h 0)), (1, .int p1), (2, .ref o)]) X dL_strength_12 (by decide) rfl ?_
      refine v_iconst (x := 1) X dL_strength_13 rfl ?_
      exact v_reti X hr hk rfl (by unfold k_L_strength; rw [if_neg hn]) (by unfold f_L_strength; rw [if_neg hn]) (Nat.le_of_ble_eq_true rfl) (Nat.le_of_ble_eq_true rfl) dL_strength_14
  · refine v_i2l X dL_strength_7 ?_
    refine v_last (w' := wL h cI cII cL o S (vp_updL F 0 (r_X3_strength S p1).toInt64)) X 29 2 wL_go rfl (vp_in_nI (n := 0) (by decide) (by decide)) dL_strength_8 wL_so ?_
    refine v_goto (tgt := 15) X dL_strength_9 (by decide) ?_
    refine v_iconst (x := 0) X dL_strength_15 rfl ?_
    exact v_reti X hr hk rfl (by unfold k_L_strength; rw [if_pos c_1]) (by unfold f_L_strength; rw [if_pos c_1]) (Nat.le_of_ble_eq_true rfl) (Nat.le_of_ble_eq_true rfl) dL_strength_16
def k_L_play (S : St) (p1 p2 : Int32) : Int32 :=
  (if (x_X3_play S p1 p2) = none then 0 else if (x_X3_play S p1 p2) = some v_E1 then 1 else if (x_X3_play S p1 p2) = some v_E2 then 2 else 3)
def s_L_play (S : St) (p1 p2 : Int32) : St :=
  (if (x_X3_play S p1 p2) = none then (s_X3_play S p1 p2) else S)
def f_L_play (S : St) (p1 p2 : Int32) (F : Nat → Int64) : Nat → Int64 :=
  (if (x_X3_play S p1 p2) = none then vp_updL F 0 (r_X3_play S p1 p2).toInt64 else F)
set_option maxHeartbeats 1000000 in
set_option maxRecDepth 100000 in
theorem c_L_play (l : Launch) (D : va_G) (cI cII cL : ClassId) (hlt : l.stackTraces = false) (h : Nat → Nat) (o : Nat) (S : St) (p1 p2 : Int32) (F : Nat → Int64) (hcnt : cntC S) (hkin : ∀ j, vp_in (S 5 j) 8) : v_Li l D vwCl (tyl cI cII cL) yL_play wsL_play { frames := 8, cells := 3, slots := 18, locals := 125 } [.ref (h 0), .int p1, .int p2, .ref o] (wL h cI cII cL o S F) (k_L_play S p1 p2) (wL h cI cII cL o (s_L_play S p1 p2) (f_L_play S p1 p2 F)) := by
  refine v_ofLi (cc := cL_play) (maxL := 5) (ret := (some .int)) (own := RL) (lv0 := [(0, .ref (h 0)), (1, .int p1), (2, .int p2), (3, .ref o)]) (by decide) rfl rfl rfl (Nat.le_of_ble_eq_true rfl) ?_
  intro p e s m below meth c X hXW htab hr hk
  refine v_aload_n X dL_play_0 rfl ?_
  refine v_iconst (x := 0) X dL_play_1 rfl ?_
  refine v_aload_n X dL_play_2 rfl ?_
  refine v_iload_n X dL_play_3 rfl ?_
  refine v_iload_n X dL_play_4 rfl ?_
  refine v_xcallVic (As := [.int p1, .int p2]) (rest := [.int 0, .ref o]) (w' := wL h cI cII cL o (s_X3_play S p1 p2) F) X hXW (c_X3_play l D cI cII cL hlt h S p1 p2 hcnt hkin) (cwV 2 X.2.2.2.1 gL_play_X3_play rfl rfl rfl (by decide +kernel) ⟨Nat.le_of_ble_eq_true rfl, Nat.le_of_ble_eq_true rfl⟩) isCL isRL pmL (cutL h cI cII cL o) (cutL h cI cII cL o) 0 3 rfl rfl wT_g0 rfl rfl (Nat.le_of_ble_eq_true rfl) dL_play_5 ⟨Nat.le_of_ble_eq_true rfl, Nat.le_of_ble_eq_true rfl⟩ (fun E q9 hx => ?_) (fun c_1 => ?_)
  · have hn : ¬ (x_X3_play S p1 p2) = none := by rw [hx]; exact nofun
    rcases xr_X3_play S p1 p2 with hE | hE | hE | hE
    · exact absurd hE hn
    · obtain rfl : v_E1 = E := Option.some.inj (hE.symm.trans hx)
      refine v_catch (E := v_E1) (name := v_E1) (pre := []) (z := ⟨0, 10, 13, 13⟩) (suf := [⟨0, 10, 17, 36⟩, ⟨0, 10, 21, 15⟩]) X htab (fun y hy => absurd hy List.not_mem_nil) rfl (by decide) (by decide +kernel) (hXW.2.2.2.1 v_E1 (by decide +kernel)) ?_
      refine v_astore (lv' := (4, .ref q9) :: [(0, .ref (h 0)), (1, .int p1), (2, .int p2), (3, .ref o)]) X dL_play_13 (by decide) rfl ?_
      refine v_iconst (x := 1) X dL_play_15 rfl ?_
      exact v_reti X hr hk rfl (by unfold k_L_play; rw [if_neg hn, if_pos hE]) (by unfold s_L_play f_L_play; rw [if_neg hn, if_neg hn]) (Nat.le_of_ble_eq_true rfl) (Nat.le_of_ble_eq_true rfl) dL_play_16
    · obtain rfl : v_E2 = E := Option.some.inj (hE.symm.trans hx)
      refine v_catch (E := v_E2) (name := v_E2) (pre := [⟨0, 10, 13, 13⟩]) (z := ⟨0, 10, 17, 36⟩) (suf := [⟨0, 10, 21, 15⟩]) X htab (fun y hy => by rcases List.mem_singleton.mp hy with rfl; exact Or.inr ⟨by decide, v_E1, X.2.2.2.1 _ (by decide +kernel : Cond.classLink RL 13 v_E1 ∈ wsL_play), hXW.2.2.2.2.2 (v_E2, v_E1) (by decide +kernel)⟩) rfl (by decide) (by decide +kernel) (hXW.2.2.2.1 v_E2 (by decide +kernel)) ?_
      refine v_astore (lv' := (4, .ref q9) :: [(0, .ref (h 0)), (1, .int p1), (2, .int p2), (3, .ref o)]) X dL_play_17 (by decide) rfl ?_
      refine v_iconst (x := 2) X dL_play_19 rfl ?_
      exact v_reti X hr hk rfl (by unfold k_L_play; rw [if_neg hn, if_neg (show ¬ (x_X3_play S p1 p2) = some v_E1 from by rw [hE]; decide), if_pos hE]) (by unfold s_L_play f_L_play; rw [if_neg hn, if_neg hn]) (Nat.le_of_ble_eq_true rfl) (Nat.le_of_ble_eq_true rfl) dL_play_20
    · obtain rfl : v_E3 = E := Option.some.inj (hE.symm.trans hx)
      refine v_catch (E := v_E3) (name := v_E3) (pre := [⟨0, 10, 13, 13⟩, ⟨0, 10, 17, 36⟩]) (z := ⟨0, 10, 21, 15⟩) (suf := []) X htab (fun y hy => by rcases List.mem_cons.mp hy with rfl | hy; exact Or.inr ⟨by decide, v_E1, X.2.2.2.1 _ (by decide +kernel : Cond.classLink RL 13 v_E1 ∈ wsL_play), hXW.2.2.2.2.2 (v_E3, v_E1) (by decide +kernel)⟩; rcases List.mem_singleton.mp hy with rfl; exact Or.inr ⟨by decide, v_E2, X.2.2.2.1 _ (by decide +kernel : Cond.classLink RL 36 v_E2 ∈ wsL_play), hXW.2.2.2.2.2 (v_E3, v_E2) (by decide +kernel)⟩) rfl (by decide) (by decide +kernel) (hXW.2.2.2.1 v_E3 (by decide +kernel)) ?_
      refine v_astore (lv' := (4, .ref q9) :: [(0, .ref (h 0)), (1, .int p1), (2, .int p2), (3, .ref o)]) X dL_play_21 (by decide) rfl ?_
      refine v_iconst (x := 3) X dL_play_23 rfl ?_
      exact v_reti X hr hk rfl (by unfold k_L_play; rw [if_neg hn, if_neg (show ¬ (x_X3_play S p1 p2) = some v_E1 from by rw [hE]; decide), if_neg (show ¬ (x_X3_play S p1 p2) = some v_E2 from by rw [hE]; decide)]) (by unfold s_L_play f_L_play; rw [if_neg hn, if_neg hn]) (Nat.le_of_ble_eq_true rfl) (Nat.le_of_ble_eq_true rfl) dL_play_24
  · refine v_i2l X dL_play_8 ?_
    refine v_last (w' := wL h cI cII cL o (s_X3_play S p1 p2) (vp_updL F 0 (r_X3_play S p1 p2).toInt64)) X 29 2 wL_go rfl (vp_in_nI (n := 0) (by decide) (by decide)) dL_play_9 wL_so ?_
    refine v_goto (tgt := 25) X dL_play_10 (by decide) ?_
    refine v_iconst (x := 0) X dL_play_25 rfl ?_
    exact v_reti X hr hk rfl (by unfold k_L_play; rw [if_pos c_1]) (by unfold s_L_play f_L_play; rw [if_pos c_1, if_pos c_1]) (Nat.le_of_ble_eq_true rfl) (Nat.le_of_ble_eq_true rfl) dL_play_26
