def s_X4_swap (S : St) (p1 p2 : Int32) : St :=
  (let T_1 : Int32 := (if (r_X4_isCard S p1) = 0 then 0 else (if (r_X4_isCard S p2) = 0 then 0 else 1) : Int32); (let T_4 : Int32 := (if T_1 = 0 then 0 else (if (S 3 p1.toNatClampNeg) = (S 3 p2.toNatClampNeg) then 0 else 1) : Int32); (let T_7 : Int32 := (if T_1 = 0 then 0 else (if (S 4 p1.toNatClampNeg) = 0 then 1 else 0) : Int32); (let S_8 : St := (s_X4_asked__ S T_1 T_4 T_7); (if (r_X4_asked__ S T_1 T_4 T_7) = 0 then S_8 else (let S_19 : St := (sU S_8 4 p1.toNatClampNeg 2); (let S_20 : St := (sU S_19 7 p1.toNatClampNeg p2); S_20)))))))
set_option maxHeartbeats 1000000 in
set_option maxRecDepth 100000 in
theorem c_X4_swap (l : Launch) (D : va_G) (cI cII cL : ClassId) (h : Nat → Nat) (S : St) (p1 p2 : Int32) (hmc : cntM S) : v_Mv l D vwCl (tyl cI cII cL) yX4_swap wsX4_swap { frames := 2, cells := 0, slots := 0, locals := 43 } [.ref (h 0), .int p1, .int p2] (wM h cI S) (wM h cI (s_X4_swap S p1 p2)) := by
  refine v_ofMv (cc := cX4_swap) (maxL := 4) (ret := none) (own := RX4) (lv0 := [(0, .ref (h 0)), (1, .int p1), (2, .int p2)]) (by decide) rfl rfl rfl (Nat.le_of_ble_eq_true rfl) ?_
  intro p e s m below meth c X hr hk hin
  have iX4 : ∀ w ∈ wsX40, w ∈ wsX4_swap := by decide +kernel
  refine v_aload_n X dX4_swap_0 rfl ?_
  refine v_iload_n X dX4_swap_1 rfl ?_
  refine v_callVi (As := [.int p1]) (rest := []) (w' := (wM h cI S)) X (c_X4_isCard l D cI cII cL h S p1) (cwV 1 X.2.2.2.1 gX4_swap_X4_isCard rfl rfl rfl (by decide +kernel) ⟨Nat.le_of_ble_eq_true rfl, Nat.le_of_ble_eq_true rfl⟩) 0 4 rfl rfl wM_g0 rfl rfl (Nat.le_of_ble_eq_true rfl) dX4_swap_2 ⟨Nat.le_of_ble_eq_true rfl, Nat.le_of_ble_eq_true rfl⟩ ?_
  refine v_mrgn (T := (if (r_X4_isCard S p1) = 0 then 0 else (if (r_X4_isCard S p2) = 0 then 0 else 1) : Int32)) 21 [] (fun hJ1 => ?_) (fun T_1 eT_1 => ?_)
  · refine v_if_eq (tgt := 20) X dX4_swap_5 (by decide) (fun c_1 => ?_) (fun c_1 => ?_)
    · refine v_iconst (x := 0) X dX4_swap_20 rfl ?_
      exact hJ1 _ (by rw [if_pos c_1])
    · refine v_aload_n X dX4_swap_8 rfl ?_
      refine v_iload_n X dX4_swap_9 rfl ?_
      refine v_callVi (As := [.int p2]) (rest := []) (w' := (wM h cI S)) X (c_X4_isCard l D cI cII cL h S p2) (cwV 1 X.2.2.2.1 gX4_swap_X4_isCard rfl rfl rfl (by decide +kernel) ⟨Nat.le_of_ble_eq_true rfl, Nat.le_of_ble_eq_true rfl⟩) 0 4 rfl rfl wM_g0 rfl rfl (Nat.le_of_ble_eq_true rfl) dX4_swap_10 ⟨Nat.le_of_ble_eq_true rfl, Nat.le_of_ble_eq_true rfl⟩ ?_
      refine v_if_eq (tgt := 20) X dX4_swap_13 (by decide) (fun c_2 => ?_) (fun c_2 => ?_)
      · refine v_iconst (x := 0) X dX4_swap_20 rfl ?_
        exact hJ1 _ (by rw [if_neg c_1, if_pos c_2])
      · refine v_iconst (x := 1) X dX4_swap_16 rfl ?_
        refine v_goto (tgt := 21) X dX4_swap_17 (by decide) ?_
        exact hJ1 _ (by rw [if_neg c_1, if_neg c_2])
  · refine v_istore_n (lv' := [(3, .int T_1), (0, .ref (h 0)), (1, .int p1), (2, .int p2)]) X dX4_swap_21 (by decide) rfl ?_
    refine v_aload_n X dX4_swap_22 rfl ?_
    refine v_iload_n X dX4_swap_23 rfl ?_
    refine v_iload_n X dX4_swap_24 rfl ?_
    refine v_mrgn (T := (if T_1 = 0 then 0 else (if (S 3 p1.toNatClampNeg) = (S 3 p2.toNatClampNeg) then 0 else 1) : Int32)) 48 [.int T_1, .ref (h 0)] (fun hJ2 => ?_) (fun T_4 eT_4 => ?_)
    · refine v_if_eq (tgt := 47) X dX4_swap_25 (by decide) (fun c_3 => ?_) (fun c_3 => ?_)
      · refine v_iconst (x := 0) X dX4_swap_47 rfl ?_
        exact hJ2 _ (by rw [if_pos c_3])
      · have n_2 := nz_else (fun q => c_3 (eT_1.trans q))
        have n_3 := nz_else n_2.2
        refine v_aload_n X dX4_swap_28 rfl ?_
        refine v_getfield (ref := "TrumpvaultModel") (ci := 4) (index := 16) (v := .ref (h 3)) X iX4 0 wM_g0 rfl 3 (by decide) (by decide +kernel) (fun _ h9 => h9) rfl dX4_swap_29 ?_
        refine v_iload_n X dX4_swap_32 rfl ?_
        refine v_iald X 3 0 wM_g3 rfl (isCard_in hmc n_2.1) dX4_swap_33 ?_
        refine v_aload_n X dX4_swap_34 rfl ?_
        refine v_getfield (ref := "TrumpvaultModel") (ci := 4) (index := 16) (v := .ref (h 3)) X iX4 0 wM_g0 rfl 3 (by decide) (by decide +kernel) (fun _ h9 => h9) rfl dX4_swap_35 ?_
        refine v_iload_n X dX4_swap_38 rfl ?_
        refine v_iald X 3 0 wM_g3 rfl (isCard_in hmc n_3.1) dX4_swap_39 ?_
        refine v_icmp_eq (tgt := 47) X dX4_swap_40 (by decide) (fun c_4 => ?_) (fun c_4 => ?_)
        · refine v_iconst (x := 0) X dX4_swap_47 rfl ?_
          exact hJ2 _ (by rw [if_neg c_3, if_pos c_4])
        · refine v_iconst (x := 1) X dX4_swap_43 rfl ?_
          refine v_goto (tgt := 48) X dX4_swap_44 (by decide) ?_
          exact hJ2 _ (by rw [if_neg c_3, if_neg c_4])
    · refine v_iload_n X dX4_swap_48 rfl ?_
      refine v_mrgn (T := (if T_1 = 0 then 0 else (if (S 4 p1.toNatClampNeg) = 0 then 1 else 0) : Int32)) 66 [.int T_4, .int T_1, .ref (h 0)] (fun hJ3 => ?_) (fun T_7 eT_7 => ?_)
      · refine v_if_eq (tgt := 65) X dX4_swap_49 (by decide) (fun c_5 => ?_) (fun c_5 => ?_)
        · refine v_iconst (x := 0) X dX4_swap_65 rfl ?_
          exact hJ3 _ (by rw [if_pos c_5])
        · have n_5 := nz_else (fun q => c_5 (eT_1.trans q))
          have n_6 := nz_else n_5.2
          refine v_aload_n X dX4_swap_52 rfl ?_
          refine v_getfield (ref := "TrumpvaultModel") (ci := 4) (index := 19) (v := .ref (h 4)) X iX4 0 wM_g0 rfl 4 (by decide) (by decide +kernel) (fun _ h9 => h9) rfl dX4_swap_53 ?_
          refine v_iload_n X dX4_swap_56 rfl ?_
          refine v_iald X 4 0 wM_g4 rfl (isCard_in hmc n_5.1) dX4_swap_57 ?_
          refine v_if_ne (tgt := 65) X dX4_swap_58 (by decide) (fun c_6 => ?_) (fun c_6 => ?_)
          · refine v_iconst (x := 0) X dX4_swap_65 rfl ?_
            exact hJ3 _ (by rw [if_neg c_5, if_neg c_6])
          · refine v_iconst (x := 1) X dX4_swap_61 rfl ?_
            refine v_goto (tgt := 66) X dX4_swap_62 (by decide) ?_
            exact hJ3 _ (by rw [if_neg c_5, if_pos c_6])
      · refine v_callVi (As := [.int T_1, .int T_4, .int T_7]) (rest := []) (w' := (wM h cI (s_X4_asked__ S T_1 T_4 T_7))) X (c_X4_asked__ l D cI cII cL h S T_1 T_4 T_7) (cwV 3 X.2.2.2.1 gX4_swap_X4_asked__ rfl rfl rfl (by decide +kernel) ⟨Nat.le_of_ble_eq_true rfl, Nat.le_of_ble_eq_true rfl⟩) 0 4 rfl rfl wM_g0 rfl rfl (Nat.le_of_ble_eq_true rfl) dX4_swap_66 ⟨Nat.le_of_ble_eq_true rfl, Nat.le_of_ble_eq_true rfl⟩ ?_
        obtain ⟨S_8, eS_8⟩ : ∃ z : St, z = (s_X4_asked__ S T_1 T_4 T_7) := ⟨_, rfl⟩
        refine v_w (congrArg (fun z => (wM h cI z)) eS_8.symm) ?_
        refine v_if_eq (tgt := 86) X dX4_swap_69 (by decide) (fun c_7 => ?_) (fun c_7 => ?_)
        · exact v_retv X hr hk (congrArg (fun z => (wM h cI z)) (by subst eS_8; subst eT_7; subst eT_4; subst eT_1; unfold s_X4_swap; dsimp only; rw [if_pos c_7])) (Nat.le_of_ble_eq_true rfl) (Nat.le_of_ble_eq_true rfl) dX4_swap_86
        · have n_9 := nz_else (fun q => (asked3 c_7).1 (eT_1.trans q))
          have n_10 := nz_else n_9.2
          have n_11 := nz_else (fun q => (asked3 c_7).2.1 (eT_4.trans q))
          have n_12 := nz_else (fun q => n_11.1 (eT_1.trans q))
          have n_13 := nz_else n_12.2
          have n_14 := nz_else n_11.2
          have n_15 := nz_else (fun q => (asked3 c_7).2.2 (eT_7.trans q))
          have n_16 := nz_else (fun q => n_15.1 (eT_1.trans q))
          have n_17 := nz_else n_16.2
          have n_18 := nz_then n_15.2
          refine v_aload_n X dX4_swap_72 rfl ?_
          refine v_getfield (ref := "TrumpvaultModel") (ci := 4) (index := 19) (v := .ref (h 4)) X iX4 0 wM_g0 rfl 4 (by decide) (by decide +kernel) (fun _ h9 => h9) rfl dX4_swap_73 ?_
          refine v_iload_n X dX4_swap_76 rfl ?_
          refine v_iconst (x := 2) X dX4_swap_77 rfl ?_
          refine v_iast (w' := (wM h cI (sU S_8 4 p1.toNatClampNeg 2))) X 4 0 wM_g4 rfl (isCard_in hmc n_16.1) dX4_swap_78 wM_s4 ?_
          obtain ⟨S_19, eS_19⟩ : ∃ z : St, z = (sU S_8 4 p1.toNatClampNeg 2) := ⟨_, rfl⟩
          refine v_w (congrArg (fun z => (wM h cI z)) eS_19.symm) ?_
          refine v_aload_n X dX4_swap_79 rfl ?_
          refine v_getfield (ref := "TrumpvaultModel") (ci := 4) (index := 28) (v := .ref (h 7)) X iX4 0 wM_g0 rfl 7 (by decide) (by decide +kernel) (fun _ h9 => h9) rfl dX4_swap_80 ?_
          refine v_iload_n X dX4_swap_83 rfl ?_
          refine v_iload_n X dX4_swap_84 rfl ?_
          refine v_iast (w' := (wM h cI (sU S_19 7 p1.toNatClampNeg p2))) X 7 0 wM_g7 rfl (isCard_in hmc n_16.1) dX4_swap_85 wM_s7 ?_
          obtain ⟨S_20, eS_20⟩ : ∃ z : St, z = (sU S_19 7 p1.toNatClampNeg p2) := ⟨_, rfl⟩
          refine v_w (congrArg (fun z => (wM h cI z)) eS_20.symm) ?_
          exact v_retv X hr hk (congrArg (fun z => (wM h cI z)) (by subst eS_20; subst eS_19; subst eS_8; subst eT_7; subst eT_4; subst eT_1; unfold s_X4_swap; dsimp only; rw [if_neg c_7])) (Nat.le_of_ble_eq_true rfl) (Nat.le_of_ble_eq_true rfl) dX4_swap_86

def r_X4_agree (S : St) (p1 : Int32) : Int32 :=
  (let T_1 : Int32 := (if (r_X4_isCard S p1) = 0 then 0 else (if (S 4 p1.toNatClampNeg) = 2 then 1 else 0) : Int32); (if T_1 = 0 then 0 else (let T_5 : Int32 := (if (S 4 (S 7 p1.toNatClampNeg).toNatClampNeg) = 0 then (if (S 3 p1.toNatClampNeg) = (S 3 (S 7 p1.toNatClampNeg).toNatClampNeg) then 0 else 1) else 0 : Int32); (if (r_X4_asked_ S (r_X4_isCard S p1) T_5) = 0 then 0 else (S 7 p1.toNatClampNeg)))))
def s_X4_agree (S : St) (p1 : Int32) : St :=
  (let T_1 : Int32 := (if (r_X4_isCard S p1) = 0 then 0 else (if (S 4 p1.toNatClampNeg) = 2 then 1 else 0) : Int32); (if T_1 = 0 then (let S_2 : St := (s_X4_asked_ S (r_X4_isCard S p1) 0); S_2) else (let T_5 : Int32 := (if (S 4 (S 7 p1.toNatClampNeg).toNatClampNeg) = 0 then (if (S 3 p1.toNatClampNeg) = (S 3 (S 7 p1.toNatClampNeg).toNatClampNeg) then 0 else 1) else 0 : Int32); (let S_6 : St := (s_X4_asked_ S (r_X4_isCard S p1) T_5); (if (r_X4_asked_ S (r_X4_isCard S p1) T_5) = 0 then S_6 else (let S_9 : St := (sU S_6 3 p1.toNatClampNeg (S_6 3 (S 7 p1.toNatClampNeg).toNatClampNeg)); (let S_10 : St := (sU S_9 3 (S 7 p1.toNatClampNeg).toNatClampNeg (S_6 3 p1.toNatClampNeg)); (let S_11 : St := (sU S_10 4 p1.toNatClampNeg 0); S_11))))))))
set_option maxHeartbeats 1000000 in
set_option maxRecDepth 100000 in
theorem c_X4_agree (l : Launch) (D : va_G) (cI cII cL : ClassId) (h : Nat → Nat) (S : St) (p1 : Int32) (hmc : cntM S) (hmswp : ∀ j, vp_in (S 7 j) 30) : v_Mi l D vwCl (tyl cI cII cL) yX4_agree wsX4_agree { frames := 2, cells := 0, slots := 0, locals := 43 } [.ref (h 0), .int p1] (wM h cI S) (r_X4_agree S p1) (wM h cI (s_X4_agree S p1)) := by
  refine v_ofMi (cc := cX4_agree) (maxL := 6) (ret := (some .int)) (own := RX4) (lv0 := [(0, .ref (h 0)), (1, .int p1)]) (by decide) rfl rfl rfl (Nat.le_of_ble_eq_true rfl) ?_
  intro p e s m below meth c X hr hk hin
  have iX4 : ∀ w ∈ wsX40, w ∈ wsX4_agree := by decide +kernel
  refine v_aload_n X dX4_agree_0 rfl ?_
  refine v_iload_n X dX4_agree_1 rfl ?_
  refine v_callVi (As := [.int p1]) (rest := []) (w' := (wM h cI S)) X (c_X4_isCard l D cI cII cL h S p1) (cwV 1 X.2.2.2.1 gX4_agree_X4_isCard rfl rfl rfl (by decide +kernel) ⟨Nat.le_of_ble_eq_true rfl, Nat.le_of_ble_eq_true rfl⟩) 0 4 rfl rfl wM_g0 rfl rfl (Nat.le_of_ble_eq_true rfl) dX4_agree_2 ⟨Nat.le_of_ble_eq_true rfl, Nat.le_of_ble_eq_true rfl⟩ ?_
  refine v_istore_n (lv' := [(2, .int (r_X4_isCard S p1)), (0, .ref (h 0)), (1, .int p1)]) X dX4_agree_5 (by decide) rfl ?_
  refine v_iload_n X dX4_agree_6 rfl ?_
  refine v_mrgn (T := (if (r_X4_isCard S p1) = 0 then 0 else (if (S 4 p1.toNatClampNeg) = 2 then 1 else 0) : Int32)) 25 [] (fun hJ1 => ?_) (fun T_1 eT_1 => ?_)
  · refine v_if_eq (tgt := 24) X dX4_agree_7 (by decide) (fun c_1 => ?_) (fun c_1 => ?_)
    · refine v_iconst (x := 0) X dX4_agree_24 rfl ?_
      exact hJ1 _ (by rw [if_pos c_1])
    · refine v_aload_n X dX4_agree_10 rfl ?_
      refine v_getfield (ref := "TrumpvaultModel") (ci := 4) (index := 19) (v := .ref (h 4)) X iX4 0 wM_g0 rfl 4 (by decide) (by decide +kernel) (fun _ h9 => h9) rfl dX4_agree_11 ?_
      refine v_iload_n X dX4_agree_14 rfl ?_
      refine v_iald X 4 0 wM_g4 rfl (isCard_in hmc c_1) dX4_agree_15 ?_
      refine v_iconst (x := 2) X dX4_agree_16 rfl ?_
      refine v_icmp_ne (tgt := 24) X dX4_agree_17 (by decide) (fun c_2 => ?_) (fun c_2 => ?_)
      · refine v_iconst (x := 0) X dX4_agree_24 rfl ?_
        exact hJ1 _ (by rw [if_neg c_1, if_neg c_2])
      · refine v_iconst (x := 1) X dX4_agree_20 rfl ?_
        refine v_goto (tgt := 25) X dX4_agree_21 (by decide) ?_
        exact hJ1 _ (by rw [if_neg c_1, if_pos c_2])
  · refine v_istore_n (lv' := [(3, .int T_1), (2, .int (r_X4_isCard S p1)), (0, .ref (h 0)), (1, .int p1)]) X dX4_agree_25 (by decide) rfl ?_
    refine v_iload_n X dX4_agree_26 rfl ?_
    refine v_if_eq (tgt := 39) X dX4_agree_27 (by decide) (fun c_3 => ?_) (fun c_3 => ?_)
    · refine v_iconst (x := 0) X dX4_agree_39 rfl ?_
      refine v_istore (lv' := [(4, .int 0), (3, .int T_1), (2, .int (r_X4_isCard S p1)), (0, .ref (h 0)), (1, .int p1)]) X dX4_agree_40 (by decide) rfl ?_
      refine v_aload_n X dX4_agree_42 rfl ?_
      refine v_iload_n X dX4_agree_43 rfl ?_
      refine v_iload_n X dX4_agree_44 rfl ?_
      refine v_if_eq (tgt := 78) X dX4_agree_45 (by decide) (fun c_4 => ?_) (fun c_4 => ?_)
      · refine v_iconst (x := 0) X dX4_agree_78 rfl ?_
        refine v_callVi (As := [.int (r_X4_isCard S p1), .int 0]) (rest := []) (w' := (wM h cI (s_X4_asked_ S (r_X4_isCard S p1) 0))) X (c_X4_asked_ l D cI cII cL h S (r_X4_isCard S p1) 0) (cwV 2 X.2.2.2.1 gX4_agree_X4_asked_ rfl rfl rfl (by decide +kernel) ⟨Nat.le_of_ble_eq_true rfl, Nat.le_of_ble_eq_true rfl⟩) 0 4 rfl rfl wM_g0 rfl rfl (Nat.le_of_ble_eq_true rfl) dX4_agree_79 ⟨Nat.le_of_ble_eq_true rfl, Nat.le_of_ble_eq_true rfl⟩ ?_
        obtain ⟨S_2, eS_2⟩ : ∃ z : St, z = (s_X4_asked_ S (r_X4_isCard S p1) 0) := ⟨_, rfl⟩
        refine v_w (congrArg (fun z => (wM h cI z)) eS_2.symm) ?_
        refine v_if_ne (tgt := 87) X dX4_agree_82 (by decide) (fun c_5 => ?_) (fun c_5 => ?_)
        · exact absurd rfl (asked2 c_5).2
        · refine v_iconst (x := 0) X dX4_agree_85 rfl ?_
          exact v_reti X hr hk rfl (by subst eS_2; subst eT_1; unfold r_X4_agree; dsimp only; rw [if_pos c_3]) (congrArg (fun z => (wM h cI z)) (by subst eS_2; subst eT_1; unfold s_X4_agree; dsimp only; rw [if_pos c_3])) (Nat.le_of_ble_eq_true rfl) (Nat.le_of_ble_eq_true rfl) dX4_agree_86
      · exact absurd c_3 c_4
    · have n_3 := nz_else (fun q => c_3 (eT_1.trans q))
      have n_4 := nz_then n_3.2
      refine v_aload_n X dX4_agree_30 rfl ?_
      refine v_getfield (ref := "TrumpvaultModel") (ci := 4) (index := 28) (v := .ref (h 7)) X iX4 0 wM_g0 rfl 7 (by decide) (by decide +kernel) (fun _ h9 => h9) rfl dX4_agree_31 ?_
      refine v_iload_n X dX4_agree_34 rfl ?_
      refine v_iald X 7 0 wM_g7 rfl (isCard_in hmc n_3.1) dX4_agree_35 ?_
      refine v_goto (tgt := 40) X dX4_agree_36 (by decide) ?_
      refine v_istore (lv' := [(4, .int (S 7 p1.toNatClampNeg)), (3, .int T_1), (2, .int (r_X4_isCard S p1)), (0, .ref (h 0)), (1, .int p1)]) X dX4_agree_40 (by decide) rfl ?_
      refine v_aload_n X dX4_agree_42 rfl ?_
      refine v_iload_n X dX4_agree_43 rfl ?_
      refine v_iload_n X dX4_agree_44 rfl ?_
      refine v_if_eq (tgt := 78) X dX4_agree_45 (by decide) (fun c_6 => ?_) (fun c_6 => ?_)
      · exact absurd c_6 c_3
      · refine v_aload_n X dX4_agree_48 rfl ?_
        refine v_getfield (ref := "TrumpvaultModel") (ci := 4) (index := 19) (v := .ref (h 4)) X iX4 0 wM_g0 rfl 4 (by decide) (by decide +kernel) (fun _ h9 => h9) rfl dX4_agree_49 ?_
        refine v_iload X dX4_agree_52 rfl ?_
        refine v_iald X 4 0 wM_g4 rfl (hmswp _) dX4_agree_54 ?_
        refine v_mrgn (T := (if (S 4 (S 7 p1.toNatClampNeg).toNatClampNeg) = 0 then (if (S 3 p1.toNatClampNeg) = (S 3 (S 7 p1.toNatClampNeg).toNatClampNeg) then 0 else 1) else 0 : Int32)) 79 [.int (r_X4_isCard S p1), .ref (h 0)] (fun hJ2 => ?_) (fun T_5 eT_5 => ?_)
        · refine v_if_ne (tgt := 78) X dX4_agree_55 (by decide) (fun c_7 => ?_) (fun c_7 => ?_)
          · refine v_iconst (x := 0) X dX4_agree_78 rfl ?_
            exact hJ2 _ (by rw [if_neg c_7])
          · refine v_aload_n X dX4_agree_58 rfl ?_
            refine v_getfield (ref := "TrumpvaultModel") (ci := 4) (index := 16) (v := .ref (h 3)) X iX4 0 wM_g0 rfl 3 (by decide) (by decide +kernel) (fun _ h9 => h9) rfl dX4_agree_59 ?_
            refine v_iload_n X dX4_agree_62 rfl ?_
            refine v_iald X 3 0 wM_g3 rfl (isCard_in hmc n_3.1) dX4_agree_63 ?_
            refine v_aload_n X dX4_agree_64 rfl ?_
            refine v_getfield (ref := "TrumpvaultModel") (ci := 4) (index := 16) (v := .ref (h 3)) X iX4 0 wM_g0 rfl 3 (by decide) (by decide +kernel) (fun _ h9 => h9) rfl dX4_agree_65 ?_
            refine v_iload X dX4_agree_68 rfl ?_
            refine v_iald X 3 0 wM_g3 rfl (hmswp _) dX4_agree_70 ?_
            refine v_icmp_eq (tgt := 78) X dX4_agree_71 (by decide) (fun c_8 => ?_) (fun c_8 => ?_)
            · refine v_iconst (x := 0) X dX4_agree_78 rfl ?_
              exact hJ2 _ (by rw [if_pos c_7, if_pos c_8])
            · refine v_iconst (x := 1) X dX4_agree_74 rfl ?_
              refine v_goto (tgt := 79) X dX4_agree_75 (by decide) ?_
              exact hJ2 _ (by rw [if_pos c_7, if_neg c_8])
        · refine v_callVi (As := [.int (r_X4_isCard S p1), .int T_5]) (rest := []) (w' := (wM h cI (s_X4_asked_ S (r_X4_isCard S p1) T_5))) X (c_X4_asked_ l D cI cII cL h S (r_X4_isCard S p1) T_5) (cwV 2 X.2.2.2.1 gX4_agree_X4_asked_ rfl rfl rfl (by decide +kernel) ⟨Nat.le_of_ble_eq_true rfl, Nat.le_of_ble_eq_true rfl⟩) 0 4 rfl rfl wM_g0 rfl rfl (Nat.le_of_ble_eq_true rfl) dX4_agree_79 ⟨Nat.le_of_ble_eq_true rfl, Nat.le_of_ble_eq_true rfl⟩ ?_
          obtain ⟨S_6, eS_6⟩ : ∃ z : St, z = (s_X4_asked_ S (r_X4_isCard S p1) T_5) := ⟨_, rfl⟩
          refine v_w (congrArg (fun z => (wM h cI z)) eS_6.symm) ?_
          refine v_if_ne (tgt := 87) X dX4_agree_82 (by decide) (fun c_9 => ?_) (fun c_9 => ?_)
          · have n_7 := nz_then (fun q => (asked2 c_9).2 (eT_5.trans q))
            have n_8 := nz_else n_7.2
            refine v_aload_n X dX4_agree_87 rfl ?_
            refine v_getfield (ref := "TrumpvaultModel") (ci := 4) (index := 16) (v := .ref (h 3)) X iX4 0 wM_g0 rfl 3 (by decide) (by decide +kernel) (fun _ h9 => h9) rfl dX4_agree_88 ?_
            refine v_iload_n X dX4_agree_91 rfl ?_
            refine v_iald X 3 0 wM_g3 rfl (isCard_in hmc (asked2 c_9).1) dX4_agree_92 ?_
            refine v_istore (lv' := [(5, .int (S_6 3 p1.toNatClampNeg)), (4, .int (S 7 p1.toNatClampNeg)), (3, .int T_1), (2, .int (r_X4_isCard S p1)), (0, .ref (h 0)), (1, .int p1)]) X dX4_agree_93 (by decide) rfl ?_
            refine v_aload_n X dX4_agree_95 rfl ?_
            refine v_getfield (ref := "TrumpvaultModel") (ci := 4) (index := 16) (v := .ref (h 3)) X iX4 0 wM_g0 rfl 3 (by decide) (by decide +kernel) (fun _ h9 => h9) rfl dX4_agree_96 ?_
            refine v_iload_n X dX4_agree_99 rfl ?_
            refine v_aload_n X dX4_agree_100 rfl ?_
            refine v_getfield (ref := "TrumpvaultModel") (ci := 4) (index := 16) (v := .ref (h 3)) X iX4 0 wM_g0 rfl 3 (by decide) (by decide +kernel) (fun _ h9 => h9) rfl dX4_agree_101 ?_
            refine v_iload X dX4_agree_104 rfl ?_
            refine v_iald X 3 0 wM_g3 rfl (hmswp _) dX4_agree_106 ?_
            refine v_iast (w' := (wM h cI (sU S_6 3 p1.toNatClampNeg (S_6 3 (S 7 p1.toNatClampNeg).toNatClampNeg)))) X 3 0 wM_g3 rfl (isCard_in hmc (asked2 c_9).1) dX4_agree_107 wM_s3 ?_
            obtain ⟨S_9, eS_9⟩ : ∃ z : St, z = (sU S_6 3 p1.toNatClampNeg (S_6 3 (S 7 p1.toNatClampNeg).toNatClampNeg)) := ⟨_, rfl⟩
            refine v_w (congrArg (fun z => (wM h cI z)) eS_9.symm) ?_
            refine v_aload_n X dX4_agree_108 rfl ?_
            refine v_getfield (ref := "TrumpvaultModel") (ci := 4) (index := 16) (v := .ref (h 3)) X iX4 0 wM_g0 rfl 3 (by decide) (by decide +kernel) (fun _ h9 => h9) rfl dX4_agree_109 ?_
            refine v_iload X dX4_agree_112 rfl ?_
            refine v_iload X dX4_agree_114 rfl ?_
            refine v_iast (w' := (wM h cI (sU S_9 3 (S 7 p1.toNatClampNeg).toNatClampNeg (S_6 3 p1.toNatClampNeg)))) X 3 0 wM_g3 rfl (hmswp _) dX4_agree_116 wM_s3 ?_
            obtain ⟨S_10, eS_10⟩ : ∃ z : St, z = (sU S_9 3 (S 7 p1.toNatClampNeg).toNatClampNeg (S_6 3 p1.toNatClampNeg)) := ⟨_, rfl⟩
            refine v_w (congrArg (fun z => (wM h cI z)) eS_10.symm) ?_
            refine v_aload_n X dX4_agree_117 rfl ?_
            refine v_getfield (ref := "TrumpvaultModel") (ci := 4) (index := 19) (v := .ref (h 4)) X iX4 0 wM_g0 rfl 4 (by decide) (by decide +kernel) (fun _ h9 => h9) rfl dX4_agree_118 ?_
            refine v_iload_n X dX4_agree_121 rfl ?_
            refine v_iconst (x := 0) X dX4_agree_122 rfl ?_
            refine v_iast (w' := (wM h cI (sU S_10 4 p1.toNatClampNeg 0))) X 4 0 wM_g4 rfl (isCard_in hmc (asked2 c_9).1) dX4_agree_123 wM_s4 ?_
            obtain ⟨S_11, eS_11⟩ : ∃ z : St, z = (sU S_10 4 p1.toNatClampNeg 0) := ⟨_, rfl⟩
            refine v_w (congrArg (fun z => (wM h cI z)) eS_11.symm) ?_
            refine v_iload X dX4_agree_124 rfl ?_
            exact v_reti X hr hk rfl (by subst eS_11; subst eS_10; subst eS_9; subst eS_6; subst eT_5; subst eT_1; unfold r_X4_agree; dsimp only; rw [if_neg c_3, if_neg c_9]) (congrArg (fun z => (wM h cI z)) (by subst eS_11; subst eS_10; subst eS_9; subst eS_6; subst eT_5; subst eT_1; unfold s_X4_agree; dsimp only; rw [if_neg c_3, if_neg c_9])) (Nat.le_of_ble_eq_true rfl) (Nat.le_of_ble_eq_true rfl) dX4_agree_126
          · refine v_iconst (x := 0) X dX4_agree_85 rfl ?_
            exact v_reti X hr hk rfl (by subst eS_6; subst eT_5; subst eT_1; unfold r_X4_agree; dsimp only; rw [if_neg c_3, if_pos c_9]) (congrArg (fun z => (wM h cI z)) (by subst eS_6; subst eT_5; subst eT_1; unfold s_X4_agree; dsimp only; rw [if_neg c_3, if_pos c_9])) (Nat.le_of_ble_eq_true rfl) (Nat.le_of_ble_eq_true rfl) dX4_agree_86

def s_X4_cancelSwap (S : St) (p1 : Int32) : St :=
  (let T_1 : Int32 := (if (r_X4_isCard S p1) = 0 then 0 else (if (S 4 p1.toNatClampNeg) = 2 then 1 else 0) : Int32); (let S_2 : St := (s_X4_asked_ S (r_X4_isCard S p1) T_1); (if (r_X4_asked_ S (r_X4_isCard S p1) T_1) = 0 then S_2 else (let S_5 : St := (sU S_2 4 p1.toNatClampNeg 0); S_5))))
set_option maxHeartbeats 1000000 in
set_option maxRecDepth 100000 in
theorem c_X4_cancelSwap (l : Launch) (D : va_G) (cI cII cL : ClassId) (h : Nat → Nat) (S : St) (p1 : Int32) (hmc : cntM S) : v_Mv l D vwCl (tyl cI cII cL) yX4_cancelSwap wsX4_cancelSwap { frames := 2, cells := 0, slots := 0, locals := 43 } [.ref (h 0), .int p1] (wM h cI S) (wM h cI (s_X4_cancelSwap S p1)) := by
  refine v_ofMv (cc := cX4_cancelSwap) (maxL := 3) (ret := none) (own := RX4) (lv0 := [(0, .ref (h 0)), (1, .int p1)]) (by decide) rfl rfl rfl (Nat.le_of_ble_eq_true rfl) ?_
  intro p e s m below meth c X hr hk hin
  have iX4 : ∀ w ∈ wsX40, w ∈ wsX4_cancelSwap := by decide +kernel
  refine v_aload_n X dX4_cancelSwap_0 rfl ?_
  refine v_iload_n X dX4_cancelSwap_1 rfl ?_
  refine v_callVi (As := [.int p1]) (rest := []) (w' := (wM h cI S)) X (c_X4_isCard l D cI cII cL h S p1) (cwV 1 X.2.2.2.1 gX4_cancelSwap_X4_isCard rfl rfl rfl (by decide +kernel) ⟨Nat.le_of_ble_eq_true rfl, Nat.le_of_ble_eq_true rfl⟩) 0 4 rfl rfl wM_g0 rfl rfl (Nat.le_of_ble_eq_true rfl) dX4_cancelSwap_2 ⟨Nat.le_of_ble_eq_true rfl, Nat.le_of_ble_eq_true rfl⟩ ?_
  refine v_istore_n (lv' := [(2, .int (r_X4_isCard S p1)), (0, .ref (h 0)), (1, .int p1)]) X dX4_cancelSwap_5 (by decide) rfl ?_
  refine v_aload_n X dX4_cancelSwap_6 rfl ?_
  refine v_iload_n X dX4_cancelSwap_7 rfl ?_
  refine v_iload_n X dX4_cancelSwap_8 rfl ?_
  refine v_mrgn (T := (if (r_X4_isCard S p1) = 0 then 0 else (if (S 4 p1.toNatClampNeg) = 2 then 1 else 0) : Int32)) 27 [.int (r_X4_isCard S p1), .ref (h 0)] (fun hJ1 => ?_) (fun T_1 eT_1 => ?_)
  · refine v_if_eq (tgt := 26) X dX4_cancelSwap_9 (by decide) (fun c_1 => ?_) (fun c_1 => ?_)
    · refine v_iconst (x := 0) X dX4_cancelSwap_26 rfl ?_
      exact hJ1 _ (by rw [if_pos c_1])
    · refine v_aload_n X dX4_cancelSwap_12 rfl ?_
      refine v_getfield (ref := "TrumpvaultModel") (ci := 4) (index := 19) (v := .ref (h 4)) X iX4 0 wM_g0 rfl 4 (by decide) (by decide +kernel) (fun _ h9 => h9) rfl dX4_cancelSwap_13 ?_
      refine v_iload_n X dX4_cancelSwap_16 rfl ?_
      refine v_iald X 4 0 wM_g4 rfl (isCard_in hmc c_1) dX4_cancelSwap_17 ?_
      refine v_iconst (x := 2) X dX4_cancelSwap_18 rfl ?_
      refine v_icmp_ne (tgt := 26) X dX4_cancelSwap_19 (by decide) (fun c_2 => ?_) (fun c_2 => ?_)
      · refine v_iconst (x := 0) X dX4_cancelSwap_26 rfl ?_
        exact hJ1 _ (by rw [if_neg c_1, if_neg c_2])
      · refine v_iconst (x := 1) X dX4_cancelSwap_22 rfl ?_
        refine v_goto (tgt := 27) X dX4_cancelSwap_23 (by decide) ?_
        exact hJ1 _ (by rw [if_neg c_1, if_pos c_2])
  · refine v_callVi (As := [.int (r_X4_isCard S p1), .int T_1]) (rest := []) (w' := (wM h cI (s_X4_asked_ S (r_X4_isCard S p1) T_1))) X (c_X4_asked_ l D cI cII cL h S (r_X4_isCard S p1) T_1) (cwV 2 X.2.2.2.1 gX4_cancelSwap_X4_asked_ rfl rfl rfl (by decide +kernel) ⟨Nat.le_of_ble_eq_true rfl, Nat.le_of_ble_eq_true rfl⟩) 0 4 rfl rfl wM_g0 rfl rfl (Nat.le_of_ble_eq_true rfl) dX4_cancelSwap_27 ⟨Nat.le_of_ble_eq_true rfl, Nat.le_of_ble_eq_true rfl⟩ ?_
    obtain ⟨S_2, eS_2⟩ : ∃ z : St, z = (s_X4_asked_ S (r_X4_isCard S p1) T_1) := ⟨_, rfl⟩
    refine v_w (congrArg (fun z => (wM h cI z)) eS_2.symm) ?_
    refine v_if_eq (tgt := 40) X dX4_cancelSwap_30 (by decide) (fun c_3 => ?_) (fun c_3 => ?_)
    · exact v_retv X hr hk (congrArg (fun z => (wM h cI z)) (by subst eS_2; subst eT_1; unfold s_X4_cancelSwap; dsimp only; rw [if_pos c_3])) (Nat.le_of_ble_eq_true rfl) (Nat.le_of_ble_eq_true rfl) dX4_cancelSwap_40
    · have n_3 := nz_else (fun q => (asked2 c_3).2 (eT_1.trans q))
      have n_4 := nz_then n_3.2
      refine v_aload_n X dX4_cancelSwap_33 rfl ?_
      refine v_getfield (ref := "TrumpvaultModel") (ci := 4) (index := 19) (v := .ref (h 4)) X iX4 0 wM_g0 rfl 4 (by decide) (by decide +kernel) (fun _ h9 => h9) rfl dX4_cancelSwap_34 ?_
      refine v_iload_n X dX4_cancelSwap_37 rfl ?_
      refine v_iconst (x := 0) X dX4_cancelSwap_38 rfl ?_
      refine v_iast (w' := (wM h cI (sU S_2 4 p1.toNatClampNeg 0))) X 4 0 wM_g4 rfl (isCard_in hmc n_3.1) dX4_cancelSwap_39 wM_s4 ?_
      obtain ⟨S_5, eS_5⟩ : ∃ z : St, z = (sU S_2 4 p1.toNatClampNeg 0) := ⟨_, rfl⟩
      refine v_w (congrArg (fun z => (wM h cI z)) eS_5.symm) ?_
      exact v_retv X hr hk (congrArg (fun z => (wM h cI z)) (by subst eS_5; subst eS_2; subst eT_1; unfold s_X4_cancelSwap; dsimp only; rw [if_neg c_3])) (Nat.le_of_ble_eq_true rfl) (Nat.le_of_ble_eq_true rfl) dX4_cancelSwap_40

def r_X4_lend (S : St) (p1 p2 p3 : Int32) : Int32 :=
  (let T_1 : Int32 := (if (r_X4_isCard S p1) = 0 then 0 else (if (r_X4_isPlayer p2) = 0 then 0 else 1) : Int32); (let T_4 : Int32 := (if T_1 = 0 then 0 else (if (r_X4_in p3 1 50) = 0 then 0 else (if (S 3 p1.toNatClampNeg) = p2 then 0 else 1)) : Int32); (let T_7 : Int32 := (if T_1 = 0 then 0 else (if (S 4 p1.toNatClampNeg) = 0 then 1 else 0) : Int32); (let S_8 : St := (s_X4_asked__ S T_1 T_4 T_7); (if (r_X4_asked__ S T_1 T_4 T_7) = 0 then 0 else (let S_20 : St := (sU S_8 4 p1.toNatClampNeg 3); (let S_21 : St := (sU S_20 8 p1.toNatClampNeg p2); (let S_22 : St := (sU S_21 9 p1.toNatClampNeg ((S_21 0 0) + p3)); (S_22 9 p1.toNatClampNeg)))))))))
def s_X4_lend (S : St) (p1 p2 p3 : Int32) : St :=
  (let T_1 : Int32 := (if (r_X4_isCard S p1) = 0 then 0 else (if (r_X4_isPlayer p2) = 0 then 0 else 1) : Int32); (let T_4 : Int32 := (if T_1 = 0 then 0 else (if (r_X4_in p3 1 50) = 0 then 0 else (if (S 3 p1.toNatClampNeg) = p2 then 0 else 1)) : Int32); (let T_7 : Int32 := (if T_1 = 0 then 0 else (if (S 4 p1.toNatClampNeg) = 0 then 1 else 0) : Int32); (let S_8 : St := (s_X4_asked__ S T_1 T_4 T_7); (if (r_X4_asked__ S T_1 T_4 T_7) = 0 then S_8 else (let S_20 : St := (sU S_8 4 p1.toNatClampNeg 3); (let S_21 : St := (sU S_20 8 p1.toNatClampNeg p2); (let S_22 : St := (sU S_21 9 p1.toNatClampNeg ((S_21 0 0) + p3)); S_22))))))))
set_option maxHeartbeats 1000000 in
set_option maxRecDepth 100000 in
theorem c_X4_lend (l : Launch) (D : va_G) (cI cII cL : ClassId) (h : Nat → Nat) (S : St) (p1 p2 p3 : Int32) (hmc : cntM S) : v_Mi l D vwCl (tyl cI cII cL) yX4_lend wsX4_lend { frames := 2, cells := 0, slots := 0, locals := 43 } [.ref (h 0), .int p1, .int p2, .int p3] (wM h cI S) (r_X4_lend S p1 p2 p3) (wM h cI (s_X4_lend S p1 p2 p3)) := by
  refine v_ofMi (cc := cX4_lend) (maxL := 5) (ret := (some .int)) (own := RX4) (lv0 := [(0, .ref (h 0)), (1, .int p1), (2, .int p2), (3, .int p3)]) (by decide) rfl rfl rfl (Nat.le_of_ble_eq_true rfl) ?_
  intro p e s m below meth c X hr hk hin
  have iX4 : ∀ w ∈ wsX40, w ∈ wsX4_lend := by decide +kernel
  refine v_aload_n X dX4_lend_0 rfl ?_
  refine v_iload_n X dX4_lend_1 rfl ?_
  refine v_callVi (As := [.int p1]) (rest := []) (w' := (wM h cI S)) X (c_X4_isCard l D cI cII cL h S p1) (cwV 1 X.2.2.2.1 gX4_lend_X4_isCard rfl rfl rfl (by decide +kernel) ⟨Nat.le_of_ble_eq_true rfl, Nat.le_of_ble_eq_true rfl⟩) 0 4 rfl rfl wM_g0 rfl rfl (Nat.le_of_ble_eq_true rfl) dX4_lend_2 ⟨Nat.le_of_ble_eq_true rfl, Nat.le_of_ble_eq_true rfl⟩ ?_
  refine v_mrgn (T := (if (r_X4_isCard S p1) = 0 then 0 else (if (r_X4_isPlayer p2) = 0 then 0 else 1) : Int32)) 20 [] (fun hJ1 => ?_) (fun T_1 eT_1 => ?_)
  · refine v_if_eq (tgt := 19) X dX4_lend_5 (by decide) (fun c_1 => ?_) (fun c_1 => ?_)
    · refine v_iconst (x := 0) X dX4_lend_19 rfl ?_
      exact hJ1 _ (by rw [if_pos c_1])
    · refine v_iload_n X dX4_lend_8 rfl ?_
      refine v_callSi0 (As := [.int p2]) (rest := []) X (c_X4_isPlayer l D cI cII cL p2) (cwS 1 X.2.2.2.1 gX4_lend_X4_isPlayer rfl rfl rfl (by decide +kernel) ⟨Nat.le_of_ble_eq_true rfl, Nat.le_of_ble_eq_true rfl⟩) rfl rfl (Nat.le_of_ble_eq_true rfl) dX4_lend_9 ⟨Nat.le_of_ble_eq_true rfl, Nat.le_of_ble_eq_true rfl⟩ ?_
      refine v_if_eq (tgt := 19) X dX4_lend_12 (by decide) (fun c_2 => ?_) (fun c_2 => ?_)
      · refine v_iconst (x := 0) X dX4_lend_19 rfl ?_
        exact hJ1 _ (by rw [if_neg c_1, if_pos c_2])
      · refine v_iconst (x := 1) X dX4_lend_15 rfl ?_
        refine v_goto (tgt := 20) X dX4_lend_16 (by decide) ?_
        exact hJ1 _ (by rw [if_neg c_1, if_neg c_2])
  · refine v_istore (lv' := [(4, .int T_1), (0, .ref (h 0)), (1, .int p1), (2, .int p2), (3, .int p3)]) X dX4_lend_20 (by decide) rfl ?_
    refine v_aload_n X dX4_lend_22 rfl ?_
    refine v_iload X dX4_lend_23 rfl ?_
    refine v_iload X dX4_lend_25 rfl ?_
    refine v_mrgn (T := (if T_1 = 0 then 0 else (if (r_X4_in p3 1 50) = 0 then 0 else (if (S 3 p1.toNatClampNeg) = p2 then 0 else 1)) : Int32)) 55 [.int T_1, .ref (h 0)] (fun hJ2 => ?_) (fun T_4 eT_4 => ?_)
    · refine v_if_eq (tgt := 54) X dX4_lend_27 (by decide) (fun c_3 => ?_) (fun c_3 => ?_)
      · refine v_iconst (x := 0) X dX4_lend_54 rfl ?_
        exact hJ2 _ (by rw [if_pos c_3])
      · have n_2 := nz_else (fun q => c_3 (eT_1.trans q))
        have n_3 := nz_else n_2.2
        refine v_iload_n X dX4_lend_30 rfl ?_
        refine v_iconst (x := 1) X dX4_lend_31 rfl ?_
        refine v_bipush (x := 50) X dX4_lend_32 rfl ?_
        refine v_callSi0 (As := [.int p3, .int 1, .int 50]) (rest := [.int T_1, .ref (h 0)]) X (c_X4_in l D cI cII cL p3 1 50) (cwS 3 X.2.2.2.1 gX4_lend_X4_in rfl rfl rfl (by decide +kernel) ⟨Nat.le_of_ble_eq_true rfl, Nat.le_of_ble_eq_true rfl⟩) rfl rfl (Nat.le_of_ble_eq_true rfl) dX4_lend_34 ⟨Nat.le_of_ble_eq_true rfl, Nat.le_of_ble_eq_true rfl⟩ ?_
        refine v_if_eq (tgt := 54) X dX4_lend_37 (by decide) (fun c_4 => ?_) (fun c_4 => ?_)
        · refine v_iconst (x := 0) X dX4_lend_54 rfl ?_
          exact hJ2 _ (by rw [if_neg c_3, if_pos c_4])
        · refine v_aload_n X dX4_lend_40 rfl ?_
          refine v_getfield (ref := "TrumpvaultModel") (ci := 4) (index := 16) (v := .ref (h 3)) X iX4 0 wM_g0 rfl 3 (by decide) (by decide +kernel) (fun _ h9 => h9) rfl dX4_lend_41 ?_
          refine v_iload_n X dX4_lend_44 rfl ?_
          refine v_iald X 3 0 wM_g3 rfl (isCard_in hmc n_2.1) dX4_lend_45 ?_
          refine v_iload_n X dX4_lend_46 rfl ?_
          refine v_icmp_eq (tgt := 54) X dX4_lend_47 (by decide) (fun c_5 => ?_) (fun c_5 => ?_)
          · refine v_iconst (x := 0) X dX4_lend_54 rfl ?_
            exact hJ2 _ (by rw [if_neg c_3, if_neg c_4, if_pos c_5])
          · refine v_iconst (x := 1) X dX4_lend_50 rfl ?_
            refine v_goto (tgt := 55) X dX4_lend_51 (by decide) ?_
            exact hJ2 _ (by rw [if_neg c_3, if_neg c_4, if_neg c_5])
    · refine v_iload X dX4_lend_55 rfl ?_
      refine v_mrgn (T := (if T_1 = 0 then 0 else (if (S 4 p1.toNatClampNeg) = 0 then 1 else 0) : Int32)) 74 [.int T_4, .int T_1, .ref (h 0)] (fun hJ3 => ?_) (fun T_7 eT_7 => ?_)
      · refine v_if_eq (tgt := 73) X dX4_lend_57 (by decide) (fun c_6 => ?_) (fun c_6 => ?_)
        · refine v_iconst (x := 0) X dX4_lend_73 rfl ?_
          exact hJ3 _ (by rw [if_pos c_6])
        · have n_5 := nz_else (fun q => c_6 (eT_1.trans q))
          have n_6 := nz_else n_5.2
          refine v_aload_n X dX4_lend_60 rfl ?_
          refine v_getfield (ref := "TrumpvaultModel") (ci := 4) (index := 19) (v := .ref (h 4)) X iX4 0 wM_g0 rfl 4 (by decide) (by decide +kernel) (fun _ h9 => h9) rfl dX4_lend_61 ?_
          refine v_iload_n X dX4_lend_64 rfl ?_
          refine v_iald X 4 0 wM_g4 rfl (isCard_in hmc n_5.1) dX4_lend_65 ?_
          refine v_if_ne (tgt := 73) X dX4_lend_66 (by decide) (fun c_7 => ?_) (fun c_7 => ?_)
          · refine v_iconst (x := 0) X dX4_lend_73 rfl ?_
            exact hJ3 _ (by rw [if_neg c_6, if_neg c_7])
          · refine v_iconst (x := 1) X dX4_lend_69 rfl ?_
            refine v_goto (tgt := 74) X dX4_lend_70 (by decide) ?_
            exact hJ3 _ (by rw [if_neg c_6, if_pos c_7])
      · refine v_callVi (As := [.int T_1, .int T_4, .int T_7]) (rest := []) (w' := (wM h cI (s_X4_asked__ S T_1 T_4 T_7))) X (c_X4_asked__ l D cI cII cL h S T_1 T_4 T_7) (cwV 3 X.2.2.2.1 gX4_lend_X4_asked__ rfl rfl rfl (by decide +kernel) ⟨Nat.le_of_ble_eq_true rfl, Nat.le_of_ble_eq_true rfl⟩) 0 4 rfl rfl wM_g0 rfl rfl (Nat.le_of_ble_eq_true rfl) dX4_lend_74 ⟨Nat.le_of_ble_eq_true rfl, Nat.le_of_ble_eq_true rfl⟩ ?_
        obtain ⟨S_8, eS_8⟩ : ∃ z : St, z = (s_X4_asked__ S T_1 T_4 T_7) := ⟨_, rfl⟩
        refine v_w (congrArg (fun z => (wM h cI z)) eS_8.symm) ?_
        refine v_if_ne (tgt := 82) X dX4_lend_77 (by decide) (fun c_8 => ?_) (fun c_8 => ?_)
        · have n_9 := nz_else (fun q => (asked3 c_8).1 (eT_1.trans q))
          have n_10 := nz_else n_9.2
          have n_11 := nz_else (fun q => (asked3 c_8).2.1 (eT_4.trans q))
          have n_12 := nz_else (fun q => n_11.1 (eT_1.trans q))
          have n_13 := nz_else n_12.2
          have n_14 := nz_else n_11.2
          have n_15 := nz_else n_14.2
          have n_16 := nz_else (fun q => (asked3 c_8).2.2 (eT_7.trans q))
          have n_17 := nz_else (fun q => n_16.1 (eT_1.trans q))
          have n_18 := nz_else n_17.2
          have n_19 := nz_then n_16.2
          refine v_aload_n X dX4_lend_82 rfl ?_
          refine v_getfield (ref := "TrumpvaultModel") (ci := 4) (index := 19) (v := .ref (h 4)) X iX4 0 wM_g0 rfl 4 (by decide) (by decide +kernel) (fun _ h9 => h9) rfl dX4_lend_83 ?_
          refine v_iload_n X dX4_lend_86 rfl ?_
          refine v_iconst (x := 3) X dX4_lend_87 rfl ?_
          refine v_iast (w' := (wM h cI (sU S_8 4 p1.toNatClampNeg 3))) X 4 0 wM_g4 rfl (isCard_in hmc n_17.1) dX4_lend_88 wM_s4 ?_
          obtain ⟨S_20, eS_20⟩ : ∃ z : St, z = (sU S_8 4 p1.toNatClampNeg 3) := ⟨_, rfl⟩
          refine v_w (congrArg (fun z => (wM h cI z)) eS_20.symm) ?_
          refine v_aload_n X dX4_lend_89 rfl ?_
          refine v_getfield (ref := "TrumpvaultModel") (ci := 4) (index := 31) (v := .ref (h 8)) X iX4 0 wM_g0 rfl 8 (by decide) (by decide +kernel) (fun _ h9 => h9) rfl dX4_lend_90 ?_
          refine v_iload_n X dX4_lend_93 rfl ?_
          refine v_iload_n X dX4_lend_94 rfl ?_
          refine v_iast (w' := (wM h cI (sU S_20 8 p1.toNatClampNeg p2))) X 8 0 wM_g8 rfl (isCard_in hmc n_17.1) dX4_lend_95 wM_s8 ?_
          obtain ⟨S_21, eS_21⟩ : ∃ z : St, z = (sU S_20 8 p1.toNatClampNeg p2) := ⟨_, rfl⟩
          refine v_w (congrArg (fun z => (wM h cI z)) eS_21.symm) ?_
          refine v_aload_n X dX4_lend_96 rfl ?_
          refine v_getfield (ref := "TrumpvaultModel") (ci := 4) (index := 34) (v := .ref (h 9)) X iX4 0 wM_g0 rfl 9 (by decide) (by decide +kernel) (fun _ h9 => h9) rfl dX4_lend_97 ?_
          refine v_iload_n X dX4_lend_100 rfl ?_
          refine v_aload_n X dX4_lend_101 rfl ?_
          refine v_getfield (ref := "TrumpvaultModel") (ci := 4) (index := 61) (v := .int (S_21 0 0)) X iX4 0 wM_g0 rfl 0 (by decide) (by decide +kernel) (fun _ h9 => h9) rfl dX4_lend_102 ?_
          refine v_iload_n X dX4_lend_105 rfl ?_
          refine v_iadd X dX4_lend_106 ?_
          refine v_iast (w' := (wM h cI (sU S_21 9 p1.toNatClampNeg ((S_21 0 0) + p3)))) X 9 0 wM_g9 rfl (isCard_in hmc n_17.1) dX4_lend_107 wM_s9 ?_
          obtain ⟨S_22, eS_22⟩ : ∃ z : St, z = (sU S_21 9 p1.toNatClampNeg ((S_21 0 0) + p3)) := ⟨_, rfl⟩
          refine v_w (congrArg (fun z => (wM h cI z)) eS_22.symm) ?_
          refine v_aload_n X dX4_lend_108 rfl ?_
          refine v_getfield (ref := "TrumpvaultModel") (ci := 4) (index := 34) (v := .ref (h 9)) X iX4 0 wM_g0 rfl 9 (by decide) (by decide +kernel) (fun _ h9 => h9) rfl dX4_lend_109 ?_
          refine v_iload_n X dX4_lend_112 rfl ?_
          refine v_iald X 9 0 wM_g9 rfl (isCard_in hmc n_17.1) dX4_lend_113 ?_
          exact v_reti X hr hk rfl (by subst eS_22; subst eS_21; subst eS_20; subst eS_8; subst eT_7; subst eT_4; subst eT_1; unfold r_X4_lend; dsimp only; rw [if_neg c_8]) (congrArg (fun z => (wM h cI z)) (by subst eS_22; subst eS_21; subst eS_20; subst eS_8; subst eT_7; subst eT_4; subst eT_1; unfold s_X4_lend; dsimp only; rw [if_neg c_8])) (Nat.le_of_ble_eq_true rfl) (Nat.le_of_ble_eq_true rfl) dX4_lend_114
        · refine v_iconst (x := 0) X dX4_lend_80 rfl ?_
          exact v_reti X hr hk rfl (by subst eS_8; subst eT_7; subst eT_4; subst eT_1; unfold r_X4_lend; dsimp only; rw [if_pos c_8]) (congrArg (fun z => (wM h cI z)) (by subst eS_8; subst eT_7; subst eT_4; subst eT_1; unfold s_X4_lend; dsimp only; rw [if_pos c_8])) (Nat.le_of_ble_eq_true rfl) (Nat.le_of_ble_eq_true rfl) dX4_lend_81
def st1_X4_clears (S : St) (p1 : Int32) (k : Nat) (qS : St) (qb2 : Int32) : St × Int32 :=
  (if (qS 4 (nI k).toNatClampNeg) = 1 then (if (qS 2 (nI k).toNatClampNeg) = p1 then ((sU qS 4 (nI k).toNatClampNeg 0), (qb2 + 1)) else (qS, qb2)) else (qS, qb2))
def lp1_X4_clears (S : St) (p1 : Int32) : Nat → St × Int32
  | 0 => (S, 0)
  | k + 1 => st1_X4_clears S p1 k (lp1_X4_clears S p1 k).1 (lp1_X4_clears S p1 k).2
theorem e_lp1_X4_clears (S : St) (p1 : Int32) (k : Nat) : lp1_X4_clears S p1 (k + 1) = st1_X4_clears S p1 k (lp1_X4_clears S p1 k).1 (lp1_X4_clears S p1 k).2 := rfl
def st2_X4_clears (S : St) (p1 : Int32) (k : Nat) (qS : St) (qb2 : Int32) : St × Int32 :=
  ((sU (sU qS 1 (nI k).toNatClampNeg ((qS 1 (nI k).toNatClampNeg) + (qS 11 ((8 * (nI k)) + p1).toNatClampNeg))) 11 ((8 * (nI k)) + p1).toNatClampNeg 0), (qb2 + (if (qS 11 ((8 * (nI k)) + p1).toNatClampNeg) ≤ 0 then 0 else 1 : Int32)))
def lp2_X4_clears (S : St) (p1 : Int32) : Nat → St × Int32
  | 0 => ((lp1_X4_clears S p1 (S 0 10).toNatClampNeg).1, (lp1_X4_clears S p1 (S 0 10).toNatClampNeg).2)
  | k + 1 => st2_X4_clears S p1 k (lp2_X4_clears S p1 k).1 (lp2_X4_clears S p1 k).2
theorem e_lp2_X4_clears (S : St) (p1 : Int32) (k : Nat) : lp2_X4_clears S p1 (k + 1) = st2_X4_clears S p1 k (lp2_X4_clears S p1 k).1 (lp2_X4_clears S p1 k).2 := rfl
def r_X4_clears (S : St) (p1 : Int32) : Int32 :=
  (lp2_X4_clears S p1 5).2
def s_X4_clears (S : St) (p1 : Int32) : St :=
  (lp2_X4_clears S p1 5).1
theorem lpc_X4_clears (S : St) (p1 : Int32) (k : Nat) : (lp1_X4_clears S p1 k).1 0 10 = S 0 10 := by
  induction k with
  | zero => rfl
  | succ k ih =>
    rw [e_lp1_X4_clears]
    unfold st1_X4_clears
    repeat' split
    all_goals exact ih
set_option maxHeartbeats 1000000 in
set_option maxRecDepth 100000 in
theorem c_X4_clears (l : Launch) (D : va_G) (cI cII cL : ClassId) (h : Nat → Nat) (S : St) (p1 : Int32) (in1_8 : vp_in p1 8) (hmc : cntM S) : v_Mi l D vwCl (tyl cI cII cL) yX4_clears wsX4_clears { frames := 0, cells := 0, slots := 0, locals := 0 } [.ref (h 0), .int p1] (wM h cI S) (r_X4_clears S p1) (wM h cI (s_X4_clears S p1)) := by
  refine v_ofMi (cc := cX4_clears) (maxL := 5) (ret := (some .int)) (own := RX4) (lv0 := [(0, .ref (h 0)), (1, .int p1)]) (by decide) rfl rfl rfl (Nat.le_of_ble_eq_true rfl) ?_
  intro p e s m below meth c X hr hk hin
  have iX4 : ∀ w ∈ wsX40, w ∈ wsX4_clears := by decide +kernel
  obtain ⟨N, hN, hN30, hNc⟩ := v_num (M := 30) (by decide) hmc
  refine v_iconst (x := 0) X dX4_clears_0 rfl ?_
  refine v_istore_n (lv' := [(2, .int 0), (0, .ref (h 0)), (1, .int p1)]) X dX4_clears_1 (by decide) rfl ?_
  refine v_iconst (x := 0) X dX4_clears_2 rfl ?_
  refine v_istore_n (lv' := [(3, .int 0), (2, .int 0), (0, .ref (h 0)), (1, .int p1)]) X dX4_clears_3 (by decide) rfl ?_
  have L_1 : ∀ (d_1 k_1 : Nat) (i_1 b2_1 : Int32) (S1 : St), k_1 + d_1 = N → i_1 = nI k_1 → b2_1 = (lp1_X4_clears S p1 k_1).2 → S1 = (lp1_X4_clears S p1 k_1).1 → v_V p l e { frames := 0, cells := 0, slots := 0, locals := 0 } s m [.ref (h 0), .int p1].toArray below meth c D vwCl (va_A (wM h cI S) s.heap.size) 5 (v_Qi below s D vwCl (tyl cI cII cL) { frames := 0, cells := 0, slots := 0, locals := 0 } [.ref (h 0), .int p1] (wM h cI S) (r_X4_clears S p1) (wM h cI (s_X4_clears S p1))) 0 0 (wM h cI S1) 4 [(3, .int i_1), (2, .int b2_1), (0, .ref (h 0)), (1, .int p1)] [] := by
    intro d_1
    induction d_1 with
    | zero =>
      intro k_1 i_1 b2_1 S1 hk_1 ei_1 eb2_1 eS1
      subst ei_1 eb2_1 eS1
      obtain rfl : N = k_1 := by omega
      have hb : (lp1_X4_clears S p1 N).1 0 10 = nI N := (lpc_X4_clears S p1 N).trans hN
      refine v_iload_n X dX4_clears_4 rfl ?_
      refine v_aload_n X dX4_clears_5 rfl ?_
      refine v_getfield (ref := "TrumpvaultModel") (ci := 4) (index := 58) (v := .int ((lp1_X4_clears S p1 N).1 0 10)) X iX4 0 wM_g0 rfl 10 (by decide) (by decide +kernel) (fun _ h9 => h9) rfl dX4_clears_6 ?_
      refine v_icmp_ge (tgt := 48) X dX4_clears_9 (by decide) (fun c_1 => ?_) (fun c_1 => ?_)
      · refine v_iconst (x := 0) X dX4_clears_48 rfl ?_
        refine v_istore_n (lv' := [(3, .int 0), (2, .int ((lp1_X4_clears S p1 N).2)), (0, .ref (h 0)), (1, .int p1)]) X dX4_clears_49 (by decide) rfl ?_
        have L_2 : ∀ (d_2 k_2 : Nat) (i_2 b2_2 : Int32) (S2 : St), k_2 + d_2 = 5 → i_2 = nI k_2 → b2_2 = (lp2_X4_clears S p1 k_2).2 → S2 = (lp2_X4_clears S p1 k_2).1 → v_V p l e { frames := 0, cells := 0, slots := 0, locals := 0 } s m [.ref (h 0), .int p1].toArray below meth c D vwCl (va_A (wM h cI S) s.heap.size) 5 (v_Qi below s D vwCl (tyl cI cII cL) { frames := 0, cells := 0, slots := 0, locals := 0 } [.ref (h 0), .int p1] (wM h cI S) (r_X4_clears S p1) (wM h cI (s_X4_clears S p1))) 0 0 (wM h cI S2) 50 [(3, .int i_2), (2, .int b2_2), (0, .ref (h 0)), (1, .int p1)] [] := by
          intro d_2
          induction d_2 with
          | zero =>
            intro k_2 i_2 b2_2 S2 hk_2 ei_2 eb2_2 eS2
            subst ei_2 eb2_2 eS2
            obtain rfl : 5 = k_2 := by omega
            refine v_iload_n X dX4_clears_50 rfl ?_
            refine v_iconst (x := 5) X dX4_clears_51 rfl ?_
            refine v_icmp_ge (tgt := 111) X dX4_clears_52 (by decide) (fun c_2 => ?_) (fun c_2 => ?_)
            · refine v_iload_n X dX4_clears_111 rfl ?_
              exact v_reti X hr hk rfl (by unfold r_X4_clears; rfl) (congrArg (fun z => (wM h cI z)) (by unfold s_X4_clears; rfl)) (Nat.le_of_ble_eq_true rfl) (Nat.le_of_ble_eq_true rfl) dX4_clears_112
            · exact absurd (show (5 : Int32) ≤ nI 5 from nI_le (Nat.le_refl 5) (by decide)) c_2
          | succ d_2 ih_2 =>
            intro k_2 i_2 b2_2 S2 hk_2 ei_2 eb2_2 eS2
            subst ei_2 eb2_2 eS2
            have hlt_2 : k_2 < 5 := by omega
            refine v_iload_n X dX4_clears_50 rfl ?_
            refine v_iconst (x := 5) X dX4_clears_51 rfl ?_
            refine v_icmp_ge (tgt := 111) X dX4_clears_52 (by decide) (fun c_3 => ?_) (fun c_3 => ?_)
            · exact absurd c_3 (nI_ge (b := 5) hlt_2 (by decide))
            · refine v_bipush (x := 8) X dX4_clears_55 rfl ?_
              refine v_iload_n X dX4_clears_57 rfl ?_
              refine v_imul X dX4_clears_58 ?_
              refine v_iload_n X dX4_clears_59 rfl ?_
              refine v_iadd X dX4_clears_60 ?_
              refine v_istore (lv' := [(4, .int ((8 * (nI k_2)) + p1)), (3, .int (nI k_2)), (2, .int ((lp2_X4_clears S p1 k_2).2)), (0, .ref (h 0)), (1, .int p1)]) X dX4_clears_61 (by decide) rfl ?_
              refine v_iload_n X dX4_clears_63 rfl ?_
              refine v_aload_n X dX4_clears_64 rfl ?_
              refine v_getfield (ref := "TrumpvaultModel") (ci := 4) (index := 37) (v := .ref (h 11)) X iX4 0 wM_g0 rfl 11 (by decide) (by decide +kernel) (fun _ h9 => h9) rfl dX4_clears_65 ?_
              refine v_iload X dX4_clears_68 rfl ?_
              refine v_iald X 10 0 wM_g11 rfl (vp_8 (vp_in_nI (by omega) (by decide)) in1_8) dX4_clears_70 ?_
              refine v_mrg (T := (if ((lp2_X4_clears S p1 k_2).1 11 ((8 * (nI k_2)) + p1).toNatClampNeg) ≤ 0 then 0 else 1 : Int32)) 79 [.int ((lp2_X4_clears S p1 k_2).2)] (fun hJ3 => ?_) ?_
              · refine v_if_le (tgt := 78) X dX4_clears_71 (by decide) (fun c_4 => ?_) (fun c_4 => ?_)
                · refine v_iconst (x := 0) X dX4_clears_78 rfl ?_
                  exact hJ3 _ (by rw [if_pos c_4])
                · refine v_iconst (x := 1) X dX4_clears_74 rfl ?_
                  refine v_goto (tgt := 79) X dX4_clears_75 (by decide) ?_
                  exact hJ3 _ (by rw [if_neg c_4])
              · refine v_iadd X dX4_clears_79 ?_
                refine v_istore_n (lv' := [(2, .int ((lp2_X4_clears S p1 k_2).2 + (if ((lp2_X4_clears S p1 k_2).1 11 ((8 * (nI k_2)) + p1).toNatClampNeg) ≤ 0 then 0 else 1 : Int32))), (4, .int ((8 * (nI k_2)) + p1)), (3, .int (nI k_2)), (0, .ref (h 0)), (1, .int p1)]) X dX4_clears_80 (by decide) rfl ?_
                refine v_aload_n X dX4_clears_81 rfl ?_
                refine v_getfield (ref := "TrumpvaultModel") (ci := 4) (index := 7) (v := .ref (h 1)) X iX4 0 wM_g0 rfl 1 (by decide) (by decide +kernel) (fun _ h9 => h9) rfl dX4_clears_82 ?_
                refine v_iload_n X dX4_clears_85 rfl ?_
                refine v_dup2 X dX4_clears_86 rfl rfl ?_
                refine v_iald X 1 0 wM_g1 rfl (vp_in_nI (by omega) (by decide)) dX4_clears_87 ?_
                refine v_aload_n X dX4_clears_88 rfl ?_
                refine v_getfield (ref := "TrumpvaultModel") (ci := 4) (index := 37) (v := .ref (h 11)) X iX4 0 wM_g0 rfl 11 (by decide) (by decide +kernel) (fun _ h9 => h9) rfl dX4_clears_89 ?_
                refine v_iload X dX4_clears_92 rfl ?_
                refine v_iald X 10 0 wM_g11 rfl (vp_8 (vp_in_nI (by omega) (by decide)) in1_8) dX4_clears_94 ?_
                refine v_iadd X dX4_clears_95 ?_
                refine v_iast (w' := (wM h cI (sU (lp2_X4_clears S p1 k_2).1 1 (nI k_2).toNatClampNeg (((lp2_X4_clears S p1 k_2).1 1 (nI k_2).toNatClampNeg) + ((lp2_X4_clears S p1 k_2).1 11 ((8 * (nI k_2)) + p1).toNatClampNeg))))) X 1 0 wM_g1 rfl (vp_in_nI (by omega) (by decide)) dX4_clears_96 wM_s1 ?_
                refine v_aload_n X dX4_clears_97 rfl ?_
                refine v_getfield (ref := "TrumpvaultModel") (ci := 4) (index := 37) (v := .ref (h 11)) X iX4 0 wM_g0 rfl 11 (by decide) (by decide +kernel) (fun _ h9 => h9) rfl dX4_clears_98 ?_
                refine v_iload X dX4_clears_101 rfl ?_
                refine v_iconst (x := 0) X dX4_clears_103 rfl ?_
                refine v_iast (w' := (wM h cI (sU (sU (lp2_X4_clears S p1 k_2).1 1 (nI k_2).toNatClampNeg (((lp2_X4_clears S p1 k_2).1 1 (nI k_2).toNatClampNeg) + ((lp2_X4_clears S p1 k_2).1 11 ((8 * (nI k_2)) + p1).toNatClampNeg))) 11 ((8 * (nI k_2)) + p1).toNatClampNeg 0))) X 10 0 wM_g11 rfl (vp_8 (vp_in_nI (by omega) (by decide)) in1_8) dX4_clears_104 wM_s11 ?_
                refine v_iinc (y := ((nI k_2) + 1)) (lv' := [(3, .int ((nI k_2) + 1)), (2, .int ((lp2_X4_clears S p1 k_2).2 + (if ((lp2_X4_clears S p1 k_2).1 11 ((8 * (nI k_2)) + p1).toNatClampNeg) ≤ 0 then 0 else 1 : Int32))), (4, .int ((8 * (nI k_2)) + p1)), (0, .ref (h 0)), (1, .int p1)]) X dX4_clears_105 rfl rfl (by decide) rfl ?_
                refine v_goto (tgt := 50) X dX4_clears_108 (by decide) ?_
                refine v_lv [0, 1, 3, 4] rfl ?_
                exact ih_2 (k_2 + 1) ((nI k_2) + 1) ((lp2_X4_clears S p1 k_2).2 + (if ((lp2_X4_clears S p1 k_2).1 11 ((8 * (nI k_2)) + p1).toNatClampNeg) ≤ 0 then 0 else 1 : Int32)) (sU (sU (lp2_X4_clears S p1 k_2).1 1 (nI k_2).toNatClampNeg (((lp2_X4_clears S p1 k_2).1 1 (nI k_2).toNatClampNeg) + ((lp2_X4_clears S p1 k_2).1 11 ((8 * (nI k_2)) + p1).toNatClampNeg))) 11 ((8 * (nI k_2)) + p1).toNatClampNeg 0) (by omega) (nI_1 k_2) (by rw [e_lp2_X4_clears]; unfold st2_X4_clears; rfl) (by rw [e_lp2_X4_clears]; unfold st2_X4_clears; rfl)
        exact L_2 5 0 0 ((lp1_X4_clears S p1 N).2) ((lp1_X4_clears S p1 N).1) (Nat.zero_add _) (by exact nI_0.symm) (by subst hNc; rfl) (by subst hNc; rfl)
      · exact absurd (by rw [hb]; exact nI_le (Nat.le_refl _) (by omega)) c_1
    | succ d_1 ih_1 =>
      intro k_1 i_1 b2_1 S1 hk_1 ei_1 eb2_1 eS1
      subst ei_1 eb2_1 eS1
      have hlt_1 : k_1 < N := by omega
      have hb : (lp1_X4_clears S p1 k_1).1 0 10 = nI N := (lpc_X4_clears S p1 k_1).trans hN
      refine v_iload_n X dX4_clears_4 rfl ?_
      refine v_aload_n X dX4_clears_5 rfl ?_
      refine v_getfield (ref := "TrumpvaultModel") (ci := 4) (index := 58) (v := .int ((lp1_X4_clears S p1 k_1).1 0 10)) X iX4 0 wM_g0 rfl 10 (by decide) (by decide +kernel) (fun _ h9 => h9) rfl dX4_clears_6 ?_
      refine v_icmp_ge (tgt := 48) X dX4_clears_9 (by decide) (fun c_5 => ?_) (fun c_5 => ?_)
      · exact absurd c_5 (by rw [hb]; exact nI_ge hlt_1 (by omega))
      · refine v_aload_n X dX4_clears_12 rfl ?_
        refine v_getfield (ref := "TrumpvaultModel") (ci := 4) (index := 19) (v := .ref (h 4)) X iX4 0 wM_g0 rfl 4 (by decide) (by decide +kernel) (fun _ h9 => h9) rfl dX4_clears_13 ?_
        refine v_iload_n X dX4_clears_16 rfl ?_
        refine v_iald X 4 0 wM_g4 rfl (vp_in_nI (by omega) (by decide)) dX4_clears_17 ?_
        refine v_iconst (x := 1) X dX4_clears_18 rfl ?_
        refine v_icmp_ne (tgt := 42) X dX4_clears_19 (by decide) (fun c_6 => ?_) (fun c_6 => ?_)
        · refine v_iinc (y := ((nI k_1) + 1)) (lv' := [(3, .int ((nI k_1) + 1)), (2, .int ((lp1_X4_clears S p1 k_1).2)), (0, .ref (h 0)), (1, .int p1)]) X dX4_clears_42 rfl rfl (by decide) rfl ?_
          refine v_goto (tgt := 4) X dX4_clears_45 (by decide) ?_
          refine v_lv [0, 1, 2, 3] rfl ?_
          exact ih_1 (k_1 + 1) ((nI k_1) + 1) ((lp1_X4_clears S p1 k_1).2) ((lp1_X4_clears S p1 k_1).1) (by omega) (nI_1 k_1) (by rw [e_lp1_X4_clears]; unfold st1_X4_clears; rw [if_neg c_6]) (by rw [e_lp1_X4_clears]; unfold st1_X4_clears; rw [if_neg c_6])
        · refine v_aload_n X dX4_clears_22 rfl ?_
          refine v_getfield (ref := "TrumpvaultModel") (ci := 4) (index := 13) (v := .ref (h 2)) X iX4 0 wM_g0 rfl 2 (by decide) (by decide +kernel) (fun _ h9 => h9) rfl dX4_clears_23 ?_
          refine v_iload_n X dX4_clears_26 rfl ?_
          refine v_iald X 2 0 wM_g2 rfl (vp_in_nI (by omega) (by decide)) dX4_clears_27 ?_
          refine v_iload_n X dX4_clears_28 rfl ?_
          refine v_icmp_ne (tgt := 42) X dX4_clears_29 (by decide) (fun c_7 => ?_) (fun c_7 => ?_)
          · refine v_iinc (y := ((nI k_1) + 1)) (lv' := [(3, .int ((nI k_1) + 1)), (2, .int ((lp1_X4_clears S p1 k_1).2)), (0, .ref (h 0)), (1, .int p1)]) X dX4_clears_42 rfl rfl (by decide) rfl ?_
            refine v_goto (tgt := 4) X dX4_clears_45 (by decide) ?_
            refine v_lv [0, 1, 2, 3] rfl ?_
            exact ih_1 (k_1 + 1) ((nI k_1) + 1) ((lp1_X4_clears S p1 k_1).2) ((lp1_X4_clears S p1 k_1).1) (by omega) (nI_1 k_1) (by rw [e_lp1_X4_clears]; unfold st1_X4_clears; rw [if_pos c_6, if_neg c_7]) (by rw [e_lp1_X4_clears]; unfold st1_X4_clears; rw [if_pos c_6, if_neg c_7])
          · refine v_aload_n X dX4_clears_32 rfl ?_
            refine v_getfield (ref := "TrumpvaultModel") (ci := 4) (index := 19) (v := .ref (h 4)) X iX4 0 wM_g0 rfl 4 (by decide) (by decide +kernel) (fun _ h9 => h9) rfl dX4_clears_33 ?_
            refine v_iload_n X dX4_clears_36 rfl ?_
            refine v_iconst (x := 0) X dX4_clears_37 rfl ?_
            refine v_iast (w' := (wM h cI (sU (lp1_X4_clears S p1 k_1).1 4 (nI k_1).toNatClampNeg 0))) X 4 0 wM_g4 rfl (vp_in_nI (by omega) (by decide)) dX4_clears_38 wM_s4 ?_
            refine v_iinc (y := ((lp1_X4_clears S p1 k_1).2 + 1)) (lv' := [(2, .int ((lp1_X4_clears S p1 k_1).2 + 1)), (3, .int (nI k_1)), (0, .ref (h 0)), (1, .int p1)]) X dX4_clears_39 rfl rfl (by decide) rfl ?_
            refine v_iinc (y := ((nI k_1) + 1)) (lv' := [(3, .int ((nI k_1) + 1)), (2, .int ((lp1_X4_clears S p1 k_1).2 + 1)), (0, .ref (h 0)), (1, .int p1)]) X dX4_clears_42 rfl rfl (by decide) rfl ?_
            refine v_goto (tgt := 4) X dX4_clears_45 (by decide) ?_
            refine v_lv [0, 1, 2, 3] rfl ?_
            exact ih_1 (k_1 + 1) ((nI k_1) + 1) ((lp1_X4_clears S p1 k_1).2 + 1) (sU (lp1_X4_clears S p1 k_1).1 4 (nI k_1).toNatClampNeg 0) (by omega) (nI_1 k_1) (by rw [e_lp1_X4_clears]; unfold st1_X4_clears; rw [if_pos c_6, if_pos c_7]) (by rw [e_lp1_X4_clears]; unfold st1_X4_clears; rw [if_pos c_6, if_pos c_7])
  exact L_1 N 0 0 0 S (Nat.zero_add _) (by exact nI_0.symm) rfl rfl

def r_X4_ban (S : St) (p1 p2 : Int32) : Int32 :=
  (let T_1 : Int32 := (if p2 < (S 0 0) then 0 else (if 50 < (p2 - (S 0 0)) then 0 else 1) : Int32); (let S_2 : St := (s_X4_asked_ S (r_X4_isKind p1) T_1); (if (r_X4_asked_ S (r_X4_isKind p1) T_1) = 0 then 0 else (let S_5 : St := (sU S_2 14 p1.toNatClampNeg p2); (if (r_X4_banned S_5 p1) = 0 then 0 else (r_X4_clears S_5 p1))))))
def s_X4_ban (S : St) (p1 p2 : Int32) : St :=
  (let T_1 : Int32 := (if p2 < (S 0 0) then 0 else (if 50 < (p2 - (S 0 0)) then 0 else 1) : Int32); (let S_2 : St := (s_X4_asked_ S (r_X4_isKind p1) T_1); (if (r_X4_asked_ S (r_X4_isKind p1) T_1) = 0 then S_2 else (let S_5 : St := (sU S_2 14 p1.toNatClampNeg p2); (if (r_X4_banned S_5 p1) = 0 then S_5 else (let S_6 : St := (s_X4_clears S_5 p1); S_6))))))
set_option maxHeartbeats 1000000 in
set_option maxRecDepth 100000 in
theorem c_X4_ban (l : Launch) (D : va_G) (cI cII cL : ClassId) (h : Nat → Nat) (S : St) (p1 p2 : Int32) (hmc : cntM S) : v_Mi l D vwCl (tyl cI cII cL) yX4_ban wsX4_ban { frames := 2, cells := 0, slots := 0, locals := 42 } [.ref (h 0), .int p1, .int p2] (wM h cI S) (r_X4_ban S p1 p2) (wM h cI (s_X4_ban S p1 p2)) := by
  refine v_ofMi (cc := cX4_ban) (maxL := 3) (ret := (some .int)) (own := RX4) (lv0 := [(0, .ref (h 0)), (1, .int p1), (2, .int p2)]) (by decide) rfl rfl rfl (Nat.le_of_ble_eq_true rfl) ?_
  intro p e s m below meth c X hr hk hin
  have iX4 : ∀ w ∈ wsX40, w ∈ wsX4_ban := by decide +kernel
  refine v_aload_n X dX4_ban_0 rfl ?_
  refine v_iload_n X dX4_ban_1 rfl ?_
  refine v_callSi0 (As := [.int p1]) (rest := [.ref (h 0)]) X (c_X4_isKind l D cI cII cL p1) (cwS 1 X.2.2.2.1 gX4_ban_X4_isKind rfl rfl rfl (by decide +kernel) ⟨Nat.le_of_ble_eq_true rfl, Nat.le_of_ble_eq_true rfl⟩) rfl rfl (Nat.le_of_ble_eq_true rfl) dX4_ban_2 ⟨Nat.le_of_ble_eq_true rfl, Nat.le_of_ble_eq_true rfl⟩ ?_
  refine v_iload_n X dX4_ban_5 rfl ?_
  refine v_aload_n X dX4_ban_6 rfl ?_
  refine v_getfield (ref := "TrumpvaultModel") (ci := 4) (index := 61) (v := .int (S 0 0)) X iX4 0 wM_g0 rfl 0 (by decide) (by decide +kernel) (fun _ h9 => h9) rfl dX4_ban_7 ?_
  refine v_mrgn (T := (if p2 < (S 0 0) then 0 else (if 50 < (p2 - (S 0 0)) then 0 else 1) : Int32)) 29 [.int (r_X4_isKind p1), .ref (h 0)] (fun hJ1 => ?_) (fun T_1 eT_1 => ?_)
  · refine v_icmp_lt (tgt := 28) X dX4_ban_10 (by decide) (fun c_1 => ?_) (fun c_1 => ?_)
    · refine v_iconst (x := 0) X dX4_ban_28 rfl ?_
      exact hJ1 _ (by rw [if_pos c_1])
    · refine v_iload_n X dX4_ban_13 rfl ?_
      refine v_aload_n X dX4_ban_14 rfl ?_
      refine v_getfield (ref := "TrumpvaultModel") (ci := 4) (index := 61) (v := .int (S 0 0)) X iX4 0 wM_g0 rfl 0 (by decide) (by decide +kernel) (fun _ h9 => h9) rfl dX4_ban_15 ?_
      refine v_isub X dX4_ban_18 ?_
      refine v_bipush (x := 50) X dX4_ban_19 rfl ?_
      refine v_icmp_gt (tgt := 28) X dX4_ban_21 (by decide) (fun c_2 => ?_) (fun c_2 => ?_)
      · refine v_iconst (x := 0) X dX4_ban_28 rfl ?_
        exact hJ1 _ (by rw [if_neg c_1, if_pos c_2])
      · refine v_iconst (x := 1) X dX4_ban_24 rfl ?_
        refine v_goto (tgt := 29) X dX4_ban_25 (by decide) ?_
        exact hJ1 _ (by rw [if_neg c_1, if_neg c_2])
  · refine v_callVi (As := [.int (r_X4_isKind p1), .int T_1]) (rest := []) (w' := (wM h cI (s_X4_asked_ S (r_X4_isKind p1) T_1))) X (c_X4_asked_ l D cI cII cL h S (r_X4_isKind p1) T_1) (cwV 2 X.2.2.2.1 gX4_ban_X4_asked_ rfl rfl rfl (by decide +kernel) ⟨Nat.le_of_ble_eq_true rfl, Nat.le_of_ble_eq_true rfl⟩) 0 4 rfl rfl wM_g0 rfl rfl (Nat.le_of_ble_eq_true rfl) dX4_ban_29 ⟨Nat.le_of_ble_eq_true rfl, Nat.le_of_ble_eq_true rfl⟩ ?_
    obtain ⟨S_2, eS_2⟩ : ∃ z : St, z = (s_X4_asked_ S (r_X4_isKind p1) T_1) := ⟨_, rfl⟩
    refine v_w (congrArg (fun z => (wM h cI z)) eS_2.symm) ?_
    refine v_if_ne (tgt := 37) X dX4_ban_32 (by decide) (fun c_3 => ?_) (fun c_3 => ?_)
    · have n_3 := nz_else (fun q => (asked2 c_3).2 (eT_1.trans q))
      have n_4 := nz_else n_3.2
      refine v_aload_n X dX4_ban_37 rfl ?_
      refine v_getfield (ref := "TrumpvaultModel") (ci := 4) (index := 43) (v := .ref (h 14)) X iX4 0 wM_g0 rfl 14 (by decide) (by decide +kernel) (fun _ h9 => h9) rfl dX4_ban_38 ?_
      refine v_iload_n X dX4_ban_41 rfl ?_
      refine v_iload_n X dX4_ban_42 rfl ?_
      refine v_iast (w' := (wM h cI (sU S_2 14 p1.toNatClampNeg p2))) X 12 0 wM_g14 rfl (isKind_in (asked2 c_3).1) dX4_ban_43 wM_s14 ?_
      obtain ⟨S_5, eS_5⟩ : ∃ z : St, z = (sU S_2 14 p1.toNatClampNeg p2) := ⟨_, rfl⟩
      refine v_w (congrArg (fun z => (wM h cI z)) eS_5.symm) ?_
      refine v_aload_n X dX4_ban_44 rfl ?_
      refine v_iload_n X dX4_ban_45 rfl ?_
      refine v_callVi (As := [.int p1]) (rest := []) (w' := (wM h cI S_5)) X (c_X4_banned l D cI cII cL h S_5 p1 (isKind_in (asked2 c_3).1)) (cwV 1 X.2.2.2.1 gX4_ban_X4_banned rfl rfl rfl (by decide +kernel) ⟨Nat.le_of_ble_eq_true rfl, Nat.le_of_ble_eq_true rfl⟩) 0 4 rfl rfl wM_g0 rfl rfl (Nat.le_of_ble_eq_true rfl) dX4_ban_46 ⟨Nat.le_of_ble_eq_true rfl, Nat.le_of_ble_eq_true rfl⟩ ?_
      refine v_if_eq (tgt := 60) X dX4_ban_49 (by decide) (fun c_4 => ?_) (fun c_4 => ?_)
      · refine v_iconst (x := 0) X dX4_ban_60 rfl ?_
        exact v_reti X hr hk rfl (by subst eS_5; subst eS_2; subst eT_1; unfold r_X4_ban; dsimp only; rw [if_neg c_3, if_pos c_4]) (congrArg (fun z => (wM h cI z)) (by subst eS_5; subst eS_2; subst eT_1; unfold s_X4_ban; dsimp only; rw [if_neg c_3, if_pos c_4])) (Nat.le_of_ble_eq_true rfl) (Nat.le_of_ble_eq_true rfl) dX4_ban_61
      · refine v_aload_n X dX4_ban_52 rfl ?_
        refine v_iload_n X dX4_ban_53 rfl ?_
        refine v_callVi (As := [.int p1]) (rest := []) (w' := (wM h cI (s_X4_clears S_5 p1))) X (c_X4_clears l D cI cII cL h S_5 p1 (isKind_in (asked2 c_3).1) (cm_of ((congrFun (congrFun eS_5 0) 10).trans ((show (sU S_2 14 p1.toNatClampNeg p2) 0 10 = S_2 0 10 from rfl).trans ((congrFun (congrFun eS_2 0) 10).trans (cma_X4_asked_ S (r_X4_isKind p1) T_1)))) hmc)) (cwV 1 X.2.2.2.1 gX4_ban_X4_clears rfl rfl rfl (by decide +kernel) ⟨Nat.le_of_ble_eq_true rfl, Nat.le_of_ble_eq_true rfl⟩) 0 4 rfl rfl wM_g0 rfl rfl (Nat.le_of_ble_eq_true rfl) dX4_ban_54 ⟨Nat.le_of_ble_eq_true rfl, Nat.le_of_ble_eq_true rfl⟩ ?_
        obtain ⟨S_6, eS_6⟩ : ∃ z : St, z = (s_X4_clears S_5 p1) := ⟨_, rfl⟩
        refine v_w (congrArg (fun z => (wM h cI z)) eS_6.symm) ?_
        refine v_goto (tgt := 61) X dX4_ban_57 (by decide) ?_
        exact v_reti X hr hk rfl (by subst eS_6; subst eS_5; subst eS_2; subst eT_1; unfold r_X4_ban; dsimp only; rw [if_neg c_3, if_neg c_4]) (congrArg (fun z => (wM h cI z)) (by subst eS_6; subst eS_5; subst eS_2; subst eT_1; unfold s_X4_ban; dsimp only; rw [if_neg c_3, if_neg c_4])) (Nat.le_of_ble_eq_true rfl) (Nat.le_of_ble_eq_true rfl) dX4_ban_61
    · refine v_iconst (x := 0) X dX4_ban_35 rfl ?_
      exact v_reti X hr hk rfl (by subst eS_2; subst eT_1; unfold r_X4_ban; dsimp only; rw [if_pos c_3]) (congrArg (fun z => (wM h cI z)) (by subst eS_2; subst eT_1; unfold s_X4_ban; dsimp only; rw [if_pos c_3])) (Nat.le_of_ble_eq_true rfl) (Nat.le_of_ble_eq_true rfl) dX4_ban_36

def r_X4_lift (S : St) (p1 : Int32) : Int32 :=
  (let S_1 : St := (s_X4_asked S (r_X4_isKind p1)); (if (r_X4_asked S (r_X4_isKind p1)) = 0 then 0 else (let T_2 : Int32 := (if (S_1 14 p1.toNatClampNeg) = 1000000 then 0 else 1 : Int32); T_2)))
def s_X4_lift (S : St) (p1 : Int32) : St :=
  (let S_1 : St := (s_X4_asked S (r_X4_isKind p1)); (if (r_X4_asked S (r_X4_isKind p1)) = 0 then S_1 else (let S_3 : St := (sU S_1 14 p1.toNatClampNeg 1000000); S_3)))
theorem b_X4_lift (S : St) (p1 : Int32) : (r_X4_lift S p1) = 0 ∨ (r_X4_lift S p1) = 1 := by
  unfold r_X4_lift
  (try dsimp only)
  repeat' split
  all_goals first | exact Or.inl rfl | exact Or.inr rfl | exact b_X4_isKind _ | exact b_X4_asked _ _
set_option maxHeartbeats 1000000 in
set_option maxRecDepth 100000 in
theorem c_X4_lift (l : Launch) (D : va_G) (cI cII cL : ClassId) (h : Nat → Nat) (S : St) (p1 : Int32) : v_Mi l D vwCl (tyl cI cII cL) yX4_lift wsX4_lift { frames := 2, cells := 0, slots := 0, locals := 42 } [.ref (h 0), .int p1] (wM h cI S) (r_X4_lift S p1) (wM h cI (s_X4_lift S p1)) := by
  refine v_ofMi (cc := cX4_lift) (maxL := 3) (ret := (some .boolean)) (own := RX4) (lv0 := [(0, .ref (h 0)), (1, .int p1)]) (by decide) rfl rfl rfl (Nat.le_of_ble_eq_true rfl) ?_
  intro p e s m below meth c X hr hk hin
  have iX4 : ∀ w ∈ wsX40, w ∈ wsX4_lift := by decide +kernel
  refine v_aload_n X dX4_lift_0 rfl ?_
  refine v_iload_n X dX4_lift_1 rfl ?_
  refine v_callSi0 (As := [.int p1]) (rest := [.ref (h 0)]) X (c_X4_isKind l D cI cII cL p1) (cwS 1 X.2.2.2.1 gX4_lift_X4_isKind rfl rfl rfl (by decide +kernel) ⟨Nat.le_of_ble_eq_true rfl, Nat.le_of_ble_eq_true rfl⟩) rfl rfl (Nat.le_of_ble_eq_true rfl) dX4_lift_2 ⟨Nat.le_of_ble_eq_true rfl, Nat.le_of_ble_eq_true rfl⟩ ?_
  refine v_callVi (As := [.int (r_X4_isKind p1)]) (rest := []) (w' := (wM h cI (s_X4_asked S (r_X4_isKind p1)))) X (c_X4_asked l D cI cII cL h S (r_X4_isKind p1) (b_X4_isKind _)) (cwV 1 X.2.2.2.1 gX4_lift_X4_asked rfl rfl rfl (by decide +kernel) ⟨Nat.le_of_ble_eq_true rfl, Nat.le_of_ble_eq_true rfl⟩) 0 4 rfl rfl wM_g0 rfl rfl (Nat.le_of_ble_eq_true rfl) dX4_lift_5 ⟨Nat.le_of_ble_eq_true rfl, Nat.le_of_ble_eq_true rfl⟩ ?_
  obtain ⟨S_1, eS_1⟩ : ∃ z : St, z = (s_X4_asked S (r_X4_isKind p1)) := ⟨_, rfl⟩
  refine v_w (congrArg (fun z => (wM h cI z)) eS_1.symm) ?_
  refine v_if_ne (tgt := 13) X dX4_lift_8 (by decide) (fun c_1 => ?_) (fun c_1 => ?_)
  · refine v_aload_n X dX4_lift_13 rfl ?_
    refine v_getfield (ref := "TrumpvaultModel") (ci := 4) (index := 43) (v := .ref (h 14)) X iX4 0 wM_g0 rfl 14 (by decide) (by decide +kernel) (fun _ h9 => h9) rfl dX4_lift_14 ?_
    refine v_iload_n X dX4_lift_17 rfl ?_
    refine v_iald X 12 0 wM_g14 rfl (isKind_in (asked1 c_1)) dX4_lift_18 ?_
    refine v_ldc (x := 1000000) X (by decide +kernel) dX4_lift_19 ?_
    refine v_mrgn (T := (if (S_1 14 p1.toNatClampNeg) = 1000000 then 0 else 1 : Int32)) 29 [] (fun hJ1 => ?_) (fun T_2 eT_2 => ?_)
    · refine v_icmp_eq (tgt := 28) X dX4_lift_21 (by decide) (fun c_2 => ?_) (fun c_2 => ?_)
      · refine v_iconst (x := 0) X dX4_lift_28 rfl ?_
        exact hJ1 _ (by rw [if_pos c_2])
      · refine v_iconst (x := 1) X dX4_lift_24 rfl ?_
        refine v_goto (tgt := 29) X dX4_lift_25 (by decide) ?_
        exact hJ1 _ (by rw [if_neg c_2])
    · refine v_istore_n (lv' := [(2, .int T_2), (0, .ref (h 0)), (1, .int p1)]) X dX4_lift_29 (by decide) rfl ?_
      refine v_aload_n X dX4_lift_30 rfl ?_
      refine v_getfield (ref := "TrumpvaultModel") (ci := 4) (index := 43) (v := .ref (h 14)) X iX4 0 wM_g0 rfl 14 (by decide) (by decide +kernel) (fun _ h9 => h9) rfl dX4_lift_31 ?_
      refine v_iload_n X dX4_lift_34 rfl ?_
      refine v_ldc (x := 1000000) X (by decide +kernel) dX4_lift_35 ?_
      refine v_iast (w' := (wM h cI (sU S_1 14 p1.toNatClampNeg 1000000))) X 12 0 wM_g14 rfl (isKind_in (asked1 c_1)) dX4_lift_37 wM_s14 ?_
      obtain ⟨S_3, eS_3⟩ : ∃ z : St, z = (sU S_1 14 p1.toNatClampNeg 1000000) := ⟨_, rfl⟩
      refine v_w (congrArg (fun z => (wM h cI z)) eS_3.symm) ?_
      refine v_iload_n X dX4_lift_38 rfl ?_
      exact v_reti X hr hk (narrow_b (by rw [eT_2]; (repeat' split); all_goals first | exact Or.inl rfl | exact Or.inr rfl)) (by subst eS_3; subst eT_2; subst eS_1; unfold r_X4_lift; dsimp only; rw [if_neg c_1]) (congrArg (fun z => (wM h cI z)) (by subst eS_3; subst eT_2; subst eS_1; unfold s_X4_lift; dsimp only; rw [if_neg c_1])) (Nat.le_of_ble_eq_true rfl) (Nat.le_of_ble_eq_true rfl) dX4_lift_39
  · refine v_iconst (x := 0) X dX4_lift_11 rfl ?_
    exact v_reti X hr hk rfl (by subst eS_1; unfold r_X4_lift; dsimp only; rw [if_pos c_1]) (congrArg (fun z => (wM h cI z)) (by subst eS_1; unfold s_X4_lift; dsimp only; rw [if_pos c_1])) (Nat.le_of_ble_eq_true rfl) (Nat.le_of_ble_eq_true rfl) dX4_lift_12

def r_X4_isBanned (S : St) (p1 : Int32) : Int32 :=
  (let S_1 : St := (s_X4_asked S (r_X4_isKind p1)); (if (r_X4_asked S (r_X4_isKind p1)) = 0 then 0 else (if (r_X4_banned S_1 p1) = 0 then 0 else 1)))
def s_X4_isBanned (S : St) (p1 : Int32) : St :=
  (let S_1 : St := (s_X4_asked S (r_X4_isKind p1)); (if (r_X4_asked S (r_X4_isKind p1)) = 0 then S_1 else (if (r_X4_banned S_1 p1) = 0 then S_1 else S_1)))
theorem b_X4_isBanned (S : St) (p1 : Int32) : (r_X4_isBanned S p1) = 0 ∨ (r_X4_isBanned S p1) = 1 := by
  unfold r_X4_isBanned
  (try dsimp only)
  repeat' split
  all_goals first | exact Or.inl rfl | exact Or.inr rfl | exact b_X4_isKind _ | exact b_X4_asked _ _ | exact b_X4_banned _ _
set_option maxHeartbeats 1000000 in
set_option maxRecDepth 100000 in
theorem c_X4_isBanned (l : Launch) (D : va_G) (cI cII cL : ClassId) (h : Nat → Nat) (S : St) (p1 : Int32) : v_Mi l D vwCl (tyl cI cII cL) yX4_isBanned wsX4_isBanned { frames := 2, cells := 0, slots := 0, locals := 42 } [.ref (h 0), .int p1] (wM h cI S) (r_X4_isBanned S p1) (wM h cI (s_X4_isBanned S p1)) := by
  refine v_ofMi (cc := cX4_isBanned) (maxL := 2) (ret := (some .boolean)) (own := RX4) (lv0 := [(0, .ref (h 0)), (1, .int p1)]) (by decide) rfl rfl rfl (Nat.le_of_ble_eq_true rfl) ?_
  intro p e s m below meth c X hr hk hin
  refine v_aload_n X dX4_isBanned_0 rfl ?_
  refine v_iload_n X dX4_isBanned_1 rfl ?_
  refine v_callSi0 (As := [.int p1]) (rest := [.ref (h 0)]) X (c_X4_isKind l D cI cII cL p1) (cwS 1 X.2.2.2.1 gX4_isBanned_X4_isKind rfl rfl rfl (by decide +kernel) ⟨Nat.le_of_ble_eq_true rfl, Nat.le_of_ble_eq_true rfl⟩) rfl rfl (Nat.le_of_ble_eq_true rfl) dX4_isBanned_2 ⟨Nat.le_of_ble_eq_true rfl, Nat.le_of_ble_eq_true rfl⟩ ?_
  refine v_callVi (As := [.int (r_X4_isKind p1)]) (rest := []) (w' := (wM h cI (s_X4_asked S (r_X4_isKind p1)))) X (c_X4_asked l D cI cII cL h S (r_X4_isKind p1) (b_X4_isKind _)) (cwV 1 X.2.2.2.1 gX4_isBanned_X4_asked rfl rfl rfl (by decide +kernel) ⟨Nat.le_of_ble_eq_true rfl, Nat.le_of_ble_eq_true rfl⟩) 0 4 rfl rfl wM_g0 rfl rfl (Nat.le_of_ble_eq_true rfl) dX4_isBanned_5 ⟨Nat.le_of_ble_eq_true rfl, Nat.le_of_ble_eq_true rfl⟩ ?_
  obtain ⟨S_1, eS_1⟩ : ∃ z : St, z = (s_X4_asked S (r_X4_isKind p1)) := ⟨_, rfl⟩
  refine v_w (congrArg (fun z => (wM h cI z)) eS_1.symm) ?_
  refine v_if_eq (tgt := 23) X dX4_isBanned_8 (by decide) (fun c_1 => ?_) (fun c_1 => ?_)
  · refine v_iconst (x := 0) X dX4_isBanned_23 rfl ?_
    exact v_reti X hr hk rfl (by subst eS_1; unfold r_X4_isBanned; dsimp only; rw [if_pos c_1]) (congrArg (fun z => (wM h cI z)) (by subst eS_1; unfold s_X4_isBanned; dsimp only; rw [if_pos c_1])) (Nat.le_of_ble_eq_true rfl) (Nat.le_of_ble_eq_true rfl) dX4_isBanned_24
  · refine v_aload_n X dX4_isBanned_11 rfl ?_
    refine v_iload_n X dX4_isBanned_12 rfl ?_
    refine v_callVi (As := [.int p1]) (rest := []) (w' := (wM h cI S_1)) X (c_X4_banned l D cI cII cL h S_1 p1 (isKind_in (asked1 c_1))) (cwV 1 X.2.2.2.1 gX4_isBanned_X4_banned rfl rfl rfl (by decide +kernel) ⟨Nat.le_of_ble_eq_true rfl, Nat.le_of_ble_eq_true rfl⟩) 0 4 rfl rfl wM_g0 rfl rfl (Nat.le_of_ble_eq_true rfl) dX4_isBanned_13 ⟨Nat.le_of_ble_eq_true rfl, Nat.le_of_ble_eq_true rfl⟩ ?_
    refine v_if_eq (tgt := 23) X dX4_isBanned_16 (by decide) (fun c_2 => ?_) (fun c_2 => ?_)
    · refine v_iconst (x := 0) X dX4_isBanned_23 rfl ?_
      exact v_reti X hr hk rfl (by subst eS_1; unfold r_X4_isBanned; dsimp only; rw [if_neg c_1, if_pos c_2]) (congrArg (fun z => (wM h cI z)) (by subst eS_1; unfold s_X4_isBanned; dsimp only; rw [if_neg c_1, if_pos c_2])) (Nat.le_of_ble_eq_true rfl) (Nat.le_of_ble_eq_true rfl) dX4_isBanned_24
    · refine v_iconst (x := 1) X dX4_isBanned_19 rfl ?_
      refine v_goto (tgt := 24) X dX4_isBanned_20 (by decide) ?_
      exact v_reti X hr hk rfl (by subst eS_1; unfold r_X4_isBanned; dsimp only; rw [if_neg c_1, if_neg c_2]) (congrArg (fun z => (wM h cI z)) (by subst eS_1; unfold s_X4_isBanned; dsimp only; rw [if_neg c_1, if_neg c_2])) (Nat.le_of_ble_eq_true rfl) (Nat.le_of_ble_eq_true rfl) dX4_isBanned_24
