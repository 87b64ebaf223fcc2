def st1_X4_pass (S : St) (p1 : Int32) (k : Nat) (qS : St) : St :=
  (if (qS 4 (nI k).toNatClampNeg) = 3 then (if (qS 0 0) < (qS 9 (nI k).toNatClampNeg) then (sU qS 4 (nI k).toNatClampNeg (qS 4 (nI k).toNatClampNeg)) else (sU qS 4 (nI k).toNatClampNeg 0)) else (sU qS 4 (nI k).toNatClampNeg (qS 4 (nI k).toNatClampNeg)))
def lp1_X4_pass (S : St) (p1 : Int32) : Nat → St
  | 0 => (sU (s_X4_asked S (r_X4_in p1 1 100)) 0 0 (((s_X4_asked S (r_X4_in p1 1 100)) 0 0) + p1))
  | k + 1 => st1_X4_pass S p1 k (lp1_X4_pass S p1 k)
theorem e_lp1_X4_pass (S : St) (p1 : Int32) (k : Nat) : lp1_X4_pass S p1 (k + 1) = st1_X4_pass S p1 k (lp1_X4_pass S p1 k) := rfl
def st2_X4_pass (S : St) (p1 : Int32) (k : Nat) (qS : St) : St :=
  (if (r_X4_banned qS (nI k)) = 0 then qS else (s_X4_clears qS (nI k)))
def lp2_X4_pass (S : St) (p1 : Int32) : Nat → St
  | 0 => (lp1_X4_pass S p1 (S 0 10).toNatClampNeg)
  | k + 1 => st2_X4_pass S p1 k (lp2_X4_pass S p1 k)
theorem e_lp2_X4_pass (S : St) (p1 : Int32) (k : Nat) : lp2_X4_pass S p1 (k + 1) = st2_X4_pass S p1 k (lp2_X4_pass S p1 k) := rfl
def r_X4_pass (S : St) (p1 : Int32) : Int32 :=
  (if (r_X4_asked S (r_X4_in p1 1 100)) = 0 then 0 else ((lp2_X4_pass S p1 8) 0 0))
def s_X4_pass (S : St) (p1 : Int32) : St :=
  (if (r_X4_asked S (r_X4_in p1 1 100)) = 0 then (s_X4_asked S (r_X4_in p1 1 100)) else (lp2_X4_pass S p1 8))
theorem lpc_X4_pass (S : St) (p1 : Int32) (k : Nat) : lp1_X4_pass S p1 k 0 10 = S 0 10 := by
  induction k with
  | zero => rfl
  | succ k ih =>
    rw [e_lp1_X4_pass]
    unfold st1_X4_pass
    repeat' split
    all_goals exact ih
theorem cm_clears {S : St} {p1 : Int32} (h : cntM S) : cntM (s_X4_clears S p1) := by
  have e1 : ∀ k, (lp2_X4_clears S p1 k).1 0 10 = S 0 10 := by
    intro k
    induction k with
    | zero => exact lpc_X4_clears S p1 _
    | succ k ih =>
      rw [e_lp2_X4_clears]
      unfold st2_X4_clears
      repeat' split
      all_goals exact ih
  unfold cntM
  rw [show s_X4_clears S p1 0 10 = S 0 10 from e1 5]
  exact h
theorem cm_pass {S : St} {p1 : Int32} (h : cntM S) (k : Nat) (hk : k ≤ 8) : cntM (lp2_X4_pass S p1 k) := by
  induction k with
  | zero =>
    unfold cntM
    rw [show lp2_X4_pass S p1 0 0 10 = S 0 10 from lpc_X4_pass S p1 _]
    exact h
  | succ k ih =>
    have ih := ih (by omega)
    rw [e_lp2_X4_pass]
    unfold st2_X4_pass
    repeat' split
    all_goals first | exact ih | exact cm_clears ih
set_option maxHeartbeats 1000000 in
set_option maxRecDepth 100000 in
theorem c_X4_pass (l : Launch) (D : va_G) (cI cII cL : ClassId) (h : Nat → Nat) (S : St) (p1 : Int32) (hmc : cntM S) : v_Mi l D vwCl (tyl cI cII cL) yX4_pass wsX4_pass { frames := 1, cells := 0, slots := 0, locals := 24 } [.ref (h 0), .int p1] (wM h cI S) (r_X4_pass S p1) (wM h cI (s_X4_pass S p1)) := by
  refine v_ofMi (cc := cX4_pass) (maxL := 3) (ret := (some .int)) (own := RX4) (lv0 := [(0, .ref (h 0)), (1, .int p1)]) (by decide) rfl rfl rfl (Nat.le_of_ble_eq_true rfl) ?_
  intro p e s m below meth c X hr hk hin
  have iX4 : ∀ w ∈ wsX40, w ∈ wsX4_pass := by decide +kernel
  obtain ⟨N, hN, hN30, hNc⟩ := v_num (M := 30) (by decide) hmc
  refine v_aload_n X dX4_pass_0 rfl ?_
  refine v_iload_n X dX4_pass_1 rfl ?_
  refine v_iconst (x := 1) X dX4_pass_2 rfl ?_
  refine v_bipush (x := 100) X dX4_pass_3 rfl ?_
  refine v_callSi0 (As := [.int p1, .int 1, .int 100]) (rest := [.ref (h 0)]) X (c_X4_in l D cI cII cL p1 1 100) (cwS 3 X.2.2.2.1 gX4_pass_X4_in rfl rfl rfl (by decide +kernel) ⟨Nat.le_of_ble_eq_true rfl, Nat.le_of_ble_eq_true rfl⟩) rfl rfl (Nat.le_of_ble_eq_true rfl) dX4_pass_5 ⟨Nat.le_of_ble_eq_true rfl, Nat.le_of_ble_eq_true rfl⟩ ?_
  refine v_callVi (As := [.int (r_X4_in p1 1 100)]) (rest := []) (w' := (wM h cI (s_X4_asked S (r_X4_in p1 1 100)))) X (c_X4_asked l D cI cII cL h S (r_X4_in p1 1 100) (b_X4_in _ _ _)) (cwV 1 X.2.2.2.1 gX4_pass_X4_asked rfl rfl rfl (by decide +kernel) ⟨Nat.le_of_ble_eq_true rfl, Nat.le_of_ble_eq_true rfl⟩) 0 4 rfl rfl wM_g0 rfl rfl (Nat.le_of_ble_eq_true rfl) dX4_pass_8 ⟨Nat.le_of_ble_eq_true rfl, Nat.le_of_ble_eq_true rfl⟩ ?_
  refine v_if_ne (tgt := 16) X dX4_pass_11 (by decide) (fun c_1 => ?_) (fun c_1 => ?_)
  · refine v_aload_n X dX4_pass_16 rfl ?_
    refine v_dup X dX4_pass_17 rfl ?_
    refine v_getfield (ref := "TrumpvaultModel") (ci := 4) (index := 61) (v := .int ((s_X4_asked S (r_X4_in p1 1 100)) 0 0)) X iX4 0 wM_g0 rfl 0 (by decide) (by decide +kernel) (fun _ h9 => h9) rfl dX4_pass_18 ?_
    refine v_iload_n X dX4_pass_21 rfl ?_
    refine v_iadd X dX4_pass_22 ?_
    refine v_putfield (w' := (wM h cI (sU (s_X4_asked S (r_X4_in p1 1 100)) 0 0 (((s_X4_asked S (r_X4_in p1 1 100)) 0 0) + p1)))) (ref := "TrumpvaultModel") (ci := 4) (index := 61) (ty := .int) X iX4 tyX4 tyX4_ok nmX4 0 wM_g0 rfl 0 (by decide) (by decide +kernel) (fun _ h9 => h9) rfl (by decide +kernel) rfl rfl (Nat.le_of_ble_eq_true rfl) dX4_pass_23 wM_f0_0 ?_
    refine v_iconst (x := 0) X dX4_pass_26 rfl ?_
    refine v_istore_n (lv' := [(2, .int 0), (0, .ref (h 0)), (1, .int p1)]) X dX4_pass_27 (by decide) rfl ?_
    have L_1 : ∀ (d_1 k_1 : Nat) (i_1 : Int32) (S1 : St), k_1 + d_1 = N → i_1 = nI k_1 → S1 = (lp1_X4_pass S p1 k_1) → v_V p l e { frames := 1, cells := 0, slots := 0, locals := 24 } s m [.ref (h 0), .int p1].toArray below meth c D vwCl (va_A (wM h cI S) s.heap.size) 3 (v_Qi below s D vwCl (tyl cI cII cL) { frames := 1, cells := 0, slots := 0, locals := 24 } [.ref (h 0), .int p1] (wM h cI S) (r_X4_pass S p1) (wM h cI (s_X4_pass S p1))) 0 0 (wM h cI S1) 28 [(2, .int i_1), (0, .ref (h 0)), (1, .int p1)] [] := by
      intro d_1
      induction d_1 with
      | zero =>
        intro k_1 i_1 S1 hk_1 ei_1 eS1
        subst ei_1 eS1
        obtain rfl : N = k_1 := by omega
        have hb : (lp1_X4_pass S p1 N) 0 10 = nI N := (lpc_X4_pass S p1 N).trans hN
        refine v_iload_n X dX4_pass_28 rfl ?_
        refine v_aload_n X dX4_pass_29 rfl ?_
        refine v_getfield (ref := "TrumpvaultModel") (ci := 4) (index := 58) (v := .int ((lp1_X4_pass S p1 N) 0 10)) X iX4 0 wM_g0 rfl 10 (by decide) (by decide +kernel) (fun _ h9 => h9) rfl dX4_pass_30 ?_
        refine v_icmp_ge (tgt := 81) X dX4_pass_33 (by decide) (fun c_2 => ?_) (fun c_2 => ?_)
        · refine v_iconst (x := 0) X dX4_pass_81 rfl ?_
          refine v_istore_n (lv' := [(2, .int 0), (0, .ref (h 0)), (1, .int p1)]) X dX4_pass_82 (by decide) rfl ?_
          have L_2 : ∀ (d_2 k_2 : Nat) (i_2 : Int32) (S2 : St), k_2 + d_2 = 8 → i_2 = nI k_2 → S2 = (lp2_X4_pass S p1 k_2) → v_V p l e { frames := 1, cells := 0, slots := 0, locals := 24 } s m [.ref (h 0), .int p1].toArray below meth c D vwCl (va_A (wM h cI S) s.heap.size) 3 (v_Qi below s D vwCl (tyl cI cII cL) { frames := 1, cells := 0, slots := 0, locals := 24 } [.ref (h 0), .int p1] (wM h cI S) (r_X4_pass S p1) (wM h cI (s_X4_pass S p1))) 0 0 (wM h cI S2) 83 [(2, .int i_2), (0, .ref (h 0)), (1, .int p1)] [] := by
            intro d_2
            induction d_2 with
            | zero =>
              intro k_2 i_2 S2 hk_2 ei_2 eS2
              subst ei_2 eS2
              obtain rfl : 8 = k_2 := by omega
              have hcl : cntM (lp2_X4_pass S p1 8) := cm_pass hmc 8 (by omega)
              refine v_iload_n X dX4_pass_83 rfl ?_
              refine v_bipush (x := 8) X dX4_pass_84 rfl ?_
              refine v_icmp_ge (tgt := 109) X dX4_pass_86 (by decide) (fun c_3 => ?_) (fun c_3 => ?_)
              · refine v_aload_n X dX4_pass_109 rfl ?_
                refine v_getfield (ref := "TrumpvaultModel") (ci := 4) (index := 61) (v := .int ((lp2_X4_pass S p1 8) 0 0)) X iX4 0 wM_g0 rfl 0 (by decide) (by decide +kernel) (fun _ h9 => h9) rfl dX4_pass_110 ?_
                exact v_reti X hr hk rfl (by unfold r_X4_pass; rw [if_neg c_1]) (congrArg (fun z => (wM h cI z)) (by unfold s_X4_pass; rw [if_neg c_1])) (Nat.le_of_ble_eq_true rfl) (Nat.le_of_ble_eq_true rfl) dX4_pass_113
              · exact absurd (show (8 : Int32) ≤ nI 8 from nI_le (Nat.le_refl 8) (by decide)) c_3
            | succ d_2 ih_2 =>
              intro k_2 i_2 S2 hk_2 ei_2 eS2
              subst ei_2 eS2
              have hlt_2 : k_2 < 8 := by omega
              have hcl : cntM (lp2_X4_pass S p1 k_2) := cm_pass hmc k_2 (by omega)
              refine v_iload_n X dX4_pass_83 rfl ?_
              refine v_bipush (x := 8) X dX4_pass_84 rfl ?_
              refine v_icmp_ge (tgt := 109) X dX4_pass_86 (by decide) (fun c_4 => ?_) (fun c_4 => ?_)
              · exact absurd c_4 (nI_ge (b := 8) hlt_2 (by decide))
              · refine v_aload_n X dX4_pass_89 rfl ?_
                refine v_iload_n X dX4_pass_90 rfl ?_
                refine v_callVi (As := [.int (nI k_2)]) (rest := []) (w' := (wM h cI (lp2_X4_pass S p1 k_2))) X (c_X4_banned l D cI cII cL h (lp2_X4_pass S p1 k_2) (nI k_2) (vp_in_nI (by omega) (by decide))) (cwV 1 X.2.2.2.1 gX4_pass_X4_banned rfl rfl rfl (by decide +kernel) ⟨Nat.le_of_ble_eq_true rfl, Nat.le_of_ble_eq_true rfl⟩) 0 4 rfl rfl wM_g0 rfl rfl (Nat.le_of_ble_eq_true rfl) dX4_pass_91 ⟨Nat.le_of_ble_eq_true rfl, Nat.le_of_ble_eq_true rfl⟩ ?_
                refine v_if_eq (tgt := 103) X dX4_pass_94 (by decide) (fun c_5 => ?_) (fun c_5 => ?_)
                · refine v_iinc (y := ((nI k_2) + 1)) (lv' := [(2, .int ((nI k_2) + 1)), (0, .ref (h 0)), (1, .int p1)]) X dX4_pass_103 rfl rfl (by decide) rfl ?_
                  refine v_goto (tgt := 83) X dX4_pass_106 (by decide) ?_
                  refine v_lv [0, 1, 2] rfl ?_
                  exact ih_2 (k_2 + 1) ((nI k_2) + 1) (lp2_X4_pass S p1 k_2) (by omega) (nI_1 k_2) (by rw [e_lp2_X4_pass]; unfold st2_X4_pass; rw [if_pos c_5])
                · refine v_aload_n X dX4_pass_97 rfl ?_
                  refine v_iload_n X dX4_pass_98 rfl ?_
                  refine v_callVi (As := [.int (nI k_2)]) (rest := []) (w' := (wM h cI (s_X4_clears (lp2_X4_pass S p1 k_2) (nI k_2)))) X (c_X4_clears l D cI cII cL h (lp2_X4_pass S p1 k_2) (nI k_2) (vp_in_nI (by omega) (by decide)) hcl) (cwV 1 X.2.2.2.1 gX4_pass_X4_clears rfl rfl rfl (by decide +kernel) ⟨Nat.le_of_ble_eq_true rfl, Nat.le_of_ble_eq_true rfl⟩) 0 4 rfl rfl wM_g0 rfl rfl (Nat.le_of_ble_eq_true rfl) dX4_pass_99 ⟨Nat.le_of_ble_eq_true rfl, Nat.le_of_ble_eq_true rfl⟩ ?_
                  refine v_pop X dX4_pass_102 rfl ?_
                  refine v_iinc (y := ((nI k_2) + 1)) (lv' := [(2, .int ((nI k_2) + 1)), (0, .ref (h 0)), (1, .int p1)]) X dX4_pass_103 rfl rfl (by decide) rfl ?_
                  refine v_goto (tgt := 83) X dX4_pass_106 (by decide) ?_
                  refine v_lv [0, 1, 2] rfl ?_
                  exact ih_2 (k_2 + 1) ((nI k_2) + 1) (s_X4_clears (lp2_X4_pass S p1 k_2) (nI k_2)) (by omega) (nI_1 k_2) (by rw [e_lp2_X4_pass]; unfold st2_X4_pass; rw [if_neg c_5])
          exact L_2 8 0 0 (lp1_X4_pass S p1 N) (Nat.zero_add _) (by exact nI_0.symm) (by subst hNc; rfl)
        · exact absurd (by rw [hb]; exact nI_le (Nat.le_refl _) (by omega)) c_2
      | succ d_1 ih_1 =>
        intro k_1 i_1 S1 hk_1 ei_1 eS1
        subst ei_1 eS1
        have hlt_1 : k_1 < N := by omega
        have hb : (lp1_X4_pass S p1 k_1) 0 10 = nI N := (lpc_X4_pass S p1 k_1).trans hN
        refine v_iload_n X dX4_pass_28 rfl ?_
        refine v_aload_n X dX4_pass_29 rfl ?_
        refine v_getfield (ref := "TrumpvaultModel") (ci := 4) (index := 58) (v := .int ((lp1_X4_pass S p1 k_1) 0 10)) X iX4 0 wM_g0 rfl 10 (by decide) (by decide +kernel) (fun _ h9 => h9) rfl dX4_pass_30 ?_
        refine v_icmp_ge (tgt := 81) X dX4_pass_33 (by decide) (fun c_6 => ?_) (fun c_6 => ?_)
        · exact absurd c_6 (by rw [hb]; exact nI_ge hlt_1 (by omega))
        · refine v_aload_n X dX4_pass_36 rfl ?_
          refine v_getfield (ref := "TrumpvaultModel") (ci := 4) (index := 19) (v := .ref (h 4)) X iX4 0 wM_g0 rfl 4 (by decide) (by decide +kernel) (fun _ h9 => h9) rfl dX4_pass_37 ?_
          refine v_iload_n X dX4_pass_40 rfl ?_
          refine v_aload_n X dX4_pass_41 rfl ?_
          refine v_getfield (ref := "TrumpvaultModel") (ci := 4) (index := 19) (v := .ref (h 4)) X iX4 0 wM_g0 rfl 4 (by decide) (by decide +kernel) (fun _ h9 => h9) rfl dX4_pass_42 ?_
          refine v_iload_n X dX4_pass_45 rfl ?_
          refine v_iald X 4 0 wM_g4 rfl (vp_in_nI (by omega) (by decide)) dX4_pass_46 ?_
          refine v_iconst (x := 3) X dX4_pass_47 rfl ?_
          refine v_icmp_ne (tgt := 68) X dX4_pass_48 (by decide) (fun c_7 => ?_) (fun c_7 => ?_)
          · refine v_aload_n X dX4_pass_68 rfl ?_
            refine v_getfield (ref := "TrumpvaultModel") (ci := 4) (index := 19) (v := .ref (h 4)) X iX4 0 wM_g0 rfl 4 (by decide) (by decide +kernel) (fun _ h9 => h9) rfl dX4_pass_69 ?_
            refine v_iload_n X dX4_pass_72 rfl ?_
            refine v_iald X 4 0 wM_g4 rfl (vp_in_nI (by omega) (by decide)) dX4_pass_73 ?_
            refine v_iast (w' := (wM h cI (sU (lp1_X4_pass S p1 k_1) 4 (nI k_1).toNatClampNeg ((lp1_X4_pass S p1 k_1) 4 (nI k_1).toNatClampNeg)))) X 4 0 wM_g4 rfl (vp_in_nI (by omega) (by decide)) dX4_pass_74 wM_s4 ?_
            refine v_iinc (y := ((nI k_1) + 1)) (lv' := [(2, .int ((nI k_1) + 1)), (0, .ref (h 0)), (1, .int p1)]) X dX4_pass_75 rfl rfl (by decide) rfl ?_
            refine v_goto (tgt := 28) X dX4_pass_78 (by decide) ?_
            refine v_lv [0, 1, 2] rfl ?_
            exact ih_1 (k_1 + 1) ((nI k_1) + 1) (sU (lp1_X4_pass S p1 k_1) 4 (nI k_1).toNatClampNeg ((lp1_X4_pass S p1 k_1) 4 (nI k_1).toNatClampNeg)) (by omega) (nI_1 k_1) (by rw [e_lp1_X4_pass]; unfold st1_X4_pass; rw [if_neg c_7])
          · refine v_aload_n X dX4_pass_51 rfl ?_
            refine v_getfield (ref := "TrumpvaultModel") (ci := 4) (index := 34) (v := .ref (h 9)) X iX4 0 wM_g0 rfl 9 (by decide) (by decide +kernel) (fun _ h9 => h9) rfl dX4_pass_52 ?_
            refine v_iload_n X dX4_pass_55 rfl ?_
            refine v_iald X 9 0 wM_g9 rfl (vp_in_nI (by omega) (by decide)) dX4_pass_56 ?_
            refine v_aload_n X dX4_pass_57 rfl ?_
            refine v_getfield (ref := "TrumpvaultModel") (ci := 4) (index := 61) (v := .int ((lp1_X4_pass S p1 k_1) 0 0)) X iX4 0 wM_g0 rfl 0 (by decide) (by decide +kernel) (fun _ h9 => h9) rfl dX4_pass_58 ?_
            refine v_icmp_gt (tgt := 68) X dX4_pass_61 (by decide) (fun c_8 => ?_) (fun c_8 => ?_)
            · refine v_aload_n X dX4_pass_68 rfl ?_
              refine v_getfield (ref := "TrumpvaultModel") (ci := 4) (index := 19) (v := .ref (h 4)) X iX4 0 wM_g0 rfl 4 (by decide) (by decide +kernel) (fun _ h9 => h9) rfl dX4_pass_69 ?_
              refine v_iload_n X dX4_pass_72 rfl ?_
              refine v_iald X 4 0 wM_g4 rfl (vp_in_nI (by omega) (by decide)) dX4_pass_73 ?_
              refine v_iast (w' := (wM h cI (sU (lp1_X4_pass S p1 k_1) 4 (nI k_1).toNatClampNeg ((lp1_X4_pass S p1 k_1) 4 (nI k_1).toNatClampNeg)))) X 4 0 wM_g4 rfl (vp_in_nI (by omega) (by decide)) dX4_pass_74 wM_s4 ?_
              refine v_iinc (y := ((nI k_1) + 1)) (lv' := [(2, .int ((nI k_1) + 1)), (0, .ref (h 0)), (1, .int p1)]) X dX4_pass_75 rfl rfl (by decide) rfl ?_
              refine v_goto (tgt := 28) X dX4_pass_78 (by decide) ?_
              refine v_lv [0, 1, 2] rfl ?_
              exact ih_1 (k_1 + 1) ((nI k_1) + 1) (sU (lp1_X4_pass S p1 k_1) 4 (nI k_1).toNatClampNeg ((lp1_X4_pass S p1 k_1) 4 (nI k_1).toNatClampNeg)) (by omega) (nI_1 k_1) (by rw [e_lp1_X4_pass]; unfold st1_X4_pass; rw [if_pos c_7, if_pos c_8])
            · refine v_iconst (x := 0) X dX4_pass_64 rfl ?_
              refine v_goto (tgt := 74) X dX4_pass_65 (by decide) ?_
              refine v_iast (w' := (wM h cI (sU (lp1_X4_pass S p1 k_1) 4 (nI k_1).toNatClampNeg 0))) X 4 0 wM_g4 rfl (vp_in_nI (by omega) (by decide)) dX4_pass_74 wM_s4 ?_
              refine v_iinc (y := ((nI k_1) + 1)) (lv' := [(2, .int ((nI k_1) + 1)), (0, .ref (h 0)), (1, .int p1)]) X dX4_pass_75 rfl rfl (by decide) rfl ?_
              refine v_goto (tgt := 28) X dX4_pass_78 (by decide) ?_
              refine v_lv [0, 1, 2] rfl ?_
              exact ih_1 (k_1 + 1) ((nI k_1) + 1) (sU (lp1_X4_pass S p1 k_1) 4 (nI k_1).toNatClampNeg 0) (by omega) (nI_1 k_1) (by rw [e_lp1_X4_pass]; unfold st1_X4_pass; rw [if_pos c_7, if_neg c_8])
    exact L_1 N 0 0 (sU (s_X4_asked S (r_X4_in p1 1 100)) 0 0 (((s_X4_asked S (r_X4_in p1 1 100)) 0 0) + p1)) (Nat.zero_add _) (by exact nI_0.symm) rfl
  · refine v_iconst (x := 0) X dX4_pass_14 rfl ?_
    exact v_reti X hr hk rfl (by unfold r_X4_pass; rw [if_pos c_1]) (congrArg (fun z => (wM h cI z)) (by unfold s_X4_pass; rw [if_pos c_1])) (Nat.le_of_ble_eq_true rfl) (Nat.le_of_ble_eq_true rfl) dX4_pass_15

def st1_X4_size (S : St) (p1 : Int32) (k : Nat) (qb2 : Int32) : Int32 :=
  (qb2 + (((S 15 p1.toNatClampNeg) >>> ((nI k) &&& 31)) &&& 1))
def lp1_X4_size (S : St) (p1 : Int32) : Nat → Int32
  | 0 => 0
  | k + 1 => st1_X4_size S p1 k (lp1_X4_size S p1 k)
theorem e_lp1_X4_size (S : St) (p1 : Int32) (k : Nat) : lp1_X4_size S p1 (k + 1) = st1_X4_size S p1 k (lp1_X4_size S p1 k) := rfl
def r_X4_size (S : St) (p1 : Int32) : Int32 :=
  (lp1_X4_size S p1 (S 0 10).toNatClampNeg)
set_option maxHeartbeats 1000000 in
set_option maxRecDepth 100000 in
theorem c_X4_size (l : Launch) (D : va_G) (cI cII cL : ClassId) (h : Nat → Nat) (S : St) (p1 : Int32) (in1_5 : vp_in p1 5) (hmc : cntM S) : v_Mi l D vwCl (tyl cI cII cL) yX4_size wsX4_size { frames := 0, cells := 0, slots := 0, locals := 0 } [.ref (h 0), .int p1] (wM h cI S) (r_X4_size S p1) (wM h cI S) := by
  refine v_ofMi (cc := cX4_size) (maxL := 4) (ret := (some .int)) (own := RX4) (lv0 := [(0, .ref (h 0)), (1, .int p1)]) (by decide) rfl rfl rfl (Nat.le_of_ble_eq_true rfl) ?_
  intro p e s m below meth c X hr hk hin
  have iX4 : ∀ w ∈ wsX40, w ∈ wsX4_size := by decide +kernel
  obtain ⟨N, hN, hN30, hNc⟩ := v_num (M := 30) (by decide) hmc
  refine v_iconst (x := 0) X dX4_size_0 rfl ?_
  refine v_istore_n (lv' := [(2, .int 0), (0, .ref (h 0)), (1, .int p1)]) X dX4_size_1 (by decide) rfl ?_
  refine v_iconst (x := 0) X dX4_size_2 rfl ?_
  refine v_istore_n (lv' := [(3, .int 0), (2, .int 0), (0, .ref (h 0)), (1, .int p1)]) X dX4_size_3 (by decide) rfl ?_
  have L_1 : ∀ (d_1 k_1 : Nat) (i_1 b2_1 : Int32), k_1 + d_1 = N → i_1 = nI k_1 → b2_1 = (lp1_X4_size S p1 k_1) → v_V p l e { frames := 0, cells := 0, slots := 0, locals := 0 } s m [.ref (h 0), .int p1].toArray below meth c D vwCl (va_A (wM h cI S) s.heap.size) 4 (v_Qi below s D vwCl (tyl cI cII cL) { frames := 0, cells := 0, slots := 0, locals := 0 } [.ref (h 0), .int p1] (wM h cI S) (r_X4_size S p1) (wM h cI S)) 0 0 (wM h cI S) 4 [(3, .int i_1), (2, .int b2_1), (0, .ref (h 0)), (1, .int p1)] [] := by
    intro d_1
    induction d_1 with
    | zero =>
      intro k_1 i_1 b2_1 hk_1 ei_1 eb2_1
      subst ei_1 eb2_1
      obtain rfl : N = k_1 := by omega
      refine v_iload_n X dX4_size_4 rfl ?_
      refine v_aload_n X dX4_size_5 rfl ?_
      refine v_getfield (ref := "TrumpvaultModel") (ci := 4) (index := 58) (v := .int (S 0 10)) X iX4 0 wM_g0 rfl 10 (by decide) (by decide +kernel) (fun _ h9 => h9) rfl dX4_size_6 ?_
      refine v_icmp_ge (tgt := 31) X dX4_size_9 (by decide) (fun c_1 => ?_) (fun c_1 => ?_)
      · refine v_iload_n X dX4_size_31 rfl ?_
        exact v_reti X hr hk rfl (by unfold r_X4_size; rw [hNc]) rfl (Nat.le_of_ble_eq_true rfl) (Nat.le_of_ble_eq_true rfl) dX4_size_32
      · exact absurd (by rw [hN]; exact nI_le (Nat.le_refl _) (by omega)) c_1
    | succ d_1 ih_1 =>
      intro k_1 i_1 b2_1 hk_1 ei_1 eb2_1
      subst ei_1 eb2_1
      have hlt_1 : k_1 < N := by omega
      refine v_iload_n X dX4_size_4 rfl ?_
      refine v_aload_n X dX4_size_5 rfl ?_
      refine v_getfield (ref := "TrumpvaultModel") (ci := 4) (index := 58) (v := .int (S 0 10)) X iX4 0 wM_g0 rfl 10 (by decide) (by decide +kernel) (fun _ h9 => h9) rfl dX4_size_6 ?_
      refine v_icmp_ge (tgt := 31) X dX4_size_9 (by decide) (fun c_2 => ?_) (fun c_2 => ?_)
      · exact absurd c_2 (by rw [hN]; exact nI_ge hlt_1 (by omega))
      · refine v_iload_n X dX4_size_12 rfl ?_
        refine v_aload_n X dX4_size_13 rfl ?_
        refine v_getfield (ref := "TrumpvaultModel") (ci := 4) (index := 46) (v := .ref (h 15)) X iX4 0 wM_g0 rfl 15 (by decide) (by decide +kernel) (fun _ h9 => h9) rfl dX4_size_14 ?_
        refine v_iload_n X dX4_size_17 rfl ?_
        refine v_iald X 13 0 wM_g15 rfl in1_5 dX4_size_18 ?_
        refine v_iload_n X dX4_size_19 rfl ?_
        refine v_ishr X dX4_size_20 ?_
        refine v_iconst (x := 1) X dX4_size_21 rfl ?_
        refine v_iand X dX4_size_22 ?_
        refine v_iadd X dX4_size_23 ?_
        refine v_istore_n (lv' := [(2, .int ((lp1_X4_size S p1 k_1) + (((S 15 p1.toNatClampNeg) >>> ((nI k_1) &&& 31)) &&& 1))), (3, .int (nI k_1)), (0, .ref (h 0)), (1, .int p1)]) X dX4_size_24 (by decide) rfl ?_
        refine v_iinc (y := ((nI k_1) + 1)) (lv' := [(3, .int ((nI k_1) + 1)), (2, .int ((lp1_X4_size S p1 k_1) + (((S 15 p1.toNatClampNeg) >>> ((nI k_1) &&& 31)) &&& 1))), (0, .ref (h 0)), (1, .int p1)]) X dX4_size_25 rfl rfl (by decide) rfl ?_
        refine v_goto (tgt := 4) X dX4_size_28 (by decide) ?_
        refine v_lv [0, 1, 2, 3] rfl ?_
        exact ih_1 (k_1 + 1) ((nI k_1) + 1) ((lp1_X4_size S p1 k_1) + (((S 15 p1.toNatClampNeg) >>> ((nI k_1) &&& 31)) &&& 1)) (by omega) (nI_1 k_1) (by rw [e_lp1_X4_size]; unfold st1_X4_size; rfl)
  exact L_1 N 0 0 0 (Nat.zero_add _) (by exact nI_0.symm) rfl

def r_X4_toggleDeck (S : St) (p1 p2 : Int32) : Int32 :=
  (let T_1 : Int32 := (if (r_X4_isPlayer p1) = 0 then 0 else (if (r_X4_isCard S p2) = 0 then 0 else 1) : Int32); (let S_2 : St := (s_X4_asked S T_1); (if (r_X4_asked S T_1) = 0 then 0 else (let S_5 : St := (sU S_2 15 p1.toNatClampNeg ((S_2 15 p1.toNatClampNeg) ^^^ (1 <<< (p2 &&& 31)))); (r_X4_size S_5 p1)))))
def s_X4_toggleDeck (S : St) (p1 p2 : Int32) : St :=
  (let T_1 : Int32 := (if (r_X4_isPlayer p1) = 0 then 0 else (if (r_X4_isCard S p2) = 0 then 0 else 1) : Int32); (let S_2 : St := (s_X4_asked S T_1); (if (r_X4_asked S T_1) = 0 then S_2 else (let S_5 : St := (sU S_2 15 p1.toNatClampNeg ((S_2 15 p1.toNatClampNeg) ^^^ (1 <<< (p2 &&& 31)))); S_5))))
set_option maxHeartbeats 1000000 in
set_option maxRecDepth 100000 in
theorem c_X4_toggleDeck (l : Launch) (D : va_G) (cI cII cL : ClassId) (h : Nat → Nat) (S : St) (p1 p2 : Int32) (hmc : cntM S) : v_Mi l D vwCl (tyl cI cII cL) yX4_toggleDeck wsX4_toggleDeck { frames := 2, cells := 0, slots := 0, locals := 43 } [.ref (h 0), .int p1, .int p2] (wM h cI S) (r_X4_toggleDeck S p1 p2) (wM h cI (s_X4_toggleDeck S p1 p2)) := by
  refine v_ofMi (cc := cX4_toggleDeck) (maxL := 3) (ret := (some .int)) (own := RX4) (lv0 := [(0, .ref (h 0)), (1, .int p1), (2, .int p2)]) (by decide) rfl rfl rfl (Nat.le_of_ble_eq_true rfl) ?_
  intro p e s m below meth c X hr hk hin
  have iX4 : ∀ w ∈ wsX40, w ∈ wsX4_toggleDeck := by decide +kernel
  refine v_aload_n X dX4_toggleDeck_0 rfl ?_
  refine v_iload_n X dX4_toggleDeck_1 rfl ?_
  refine v_callSi0 (As := [.int p1]) (rest := [.ref (h 0)]) X (c_X4_isPlayer l D cI cII cL p1) (cwS 1 X.2.2.2.1 gX4_toggleDeck_X4_isPlayer rfl rfl rfl (by decide +kernel) ⟨Nat.le_of_ble_eq_true rfl, Nat.le_of_ble_eq_true rfl⟩) rfl rfl (Nat.le_of_ble_eq_true rfl) dX4_toggleDeck_2 ⟨Nat.le_of_ble_eq_true rfl, Nat.le_of_ble_eq_true rfl⟩ ?_
  refine v_mrgn (T := (if (r_X4_isPlayer p1) = 0 then 0 else (if (r_X4_isCard S p2) = 0 then 0 else 1) : Int32)) 21 [.ref (h 0)] (fun hJ1 => ?_) (fun T_1 eT_1 => ?_)
  · refine v_if_eq (tgt := 20) X dX4_toggleDeck_5 (by decide) (fun c_1 => ?_) (fun c_1 => ?_)
    · refine v_iconst (x := 0) X dX4_toggleDeck_20 rfl ?_
      exact hJ1 _ (by rw [if_pos c_1])
    · refine v_aload_n X dX4_toggleDeck_8 rfl ?_
      refine v_iload_n X dX4_toggleDeck_9 rfl ?_
      refine v_callVi (As := [.int p2]) (rest := [.ref (h 0)]) (w' := (wM h cI S)) X (c_X4_isCard l D cI cII cL h S p2) (cwV 1 X.2.2.2.1 gX4_toggleDeck_X4_isCard rfl rfl rfl (by decide +kernel) ⟨Nat.le_of_ble_eq_true rfl, Nat.le_of_ble_eq_true rfl⟩) 0 4 rfl rfl wM_g0 rfl rfl (Nat.le_of_ble_eq_true rfl) dX4_toggleDeck_10 ⟨Nat.le_of_ble_eq_true rfl, Nat.le_of_ble_eq_true rfl⟩ ?_
      refine v_if_eq (tgt := 20) X dX4_toggleDeck_13 (by decide) (fun c_2 => ?_) (fun c_2 => ?_)
      · refine v_iconst (x := 0) X dX4_toggleDeck_20 rfl ?_
        exact hJ1 _ (by rw [if_neg c_1, if_pos c_2])
      · refine v_iconst (x := 1) X dX4_toggleDeck_16 rfl ?_
        refine v_goto (tgt := 21) X dX4_toggleDeck_17 (by decide) ?_
        exact hJ1 _ (by rw [if_neg c_1, if_neg c_2])
  · refine v_callVi (As := [.int T_1]) (rest := []) (w' := (wM h cI (s_X4_asked S T_1))) X (c_X4_asked l D cI cII cL h S T_1 (by rw [eT_1]; (repeat' split); all_goals first | exact Or.inl rfl | exact Or.inr rfl)) (cwV 1 X.2.2.2.1 gX4_toggleDeck_X4_asked rfl rfl rfl (by decide +kernel) ⟨Nat.le_of_ble_eq_true rfl, Nat.le_of_ble_eq_true rfl⟩) 0 4 rfl rfl wM_g0 rfl rfl (Nat.le_of_ble_eq_true rfl) dX4_toggleDeck_21 ⟨Nat.le_of_ble_eq_true rfl, Nat.le_of_ble_eq_true rfl⟩ ?_
    obtain ⟨S_2, eS_2⟩ : ∃ z : St, z = (s_X4_asked S T_1) := ⟨_, rfl⟩
    refine v_w (congrArg (fun z => (wM h cI z)) eS_2.symm) ?_
    refine v_if_ne (tgt := 29) X dX4_toggleDeck_24 (by decide) (fun c_3 => ?_) (fun c_3 => ?_)
    · have n_3 := nz_else (fun q => (asked1 c_3) (eT_1.trans q))
      have n_4 := nz_else n_3.2
      refine v_aload_n X dX4_toggleDeck_29 rfl ?_
      refine v_getfield (ref := "TrumpvaultModel") (ci := 4) (index := 46) (v := .ref (h 15)) X iX4 0 wM_g0 rfl 15 (by decide) (by decide +kernel) (fun _ h9 => h9) rfl dX4_toggleDeck_30 ?_
      refine v_iload_n X dX4_toggleDeck_33 rfl ?_
      refine v_dup2 X dX4_toggleDeck_34 rfl rfl ?_
      refine v_iald X 13 0 wM_g15 rfl (isPlayer_in n_3.1) dX4_toggleDeck_35 ?_
      refine v_iconst (x := 1) X dX4_toggleDeck_36 rfl ?_
      refine v_iload_n X dX4_toggleDeck_37 rfl ?_
      refine v_ishl X dX4_toggleDeck_38 ?_
      refine v_ixor X dX4_toggleDeck_39 ?_
      refine v_iast (w' := (wM h cI (sU S_2 15 p1.toNatClampNeg ((S_2 15 p1.toNatClampNeg) ^^^ (1 <<< (p2 &&& 31)))))) X 13 0 wM_g15 rfl (isPlayer_in n_3.1) dX4_toggleDeck_40 wM_s15 ?_
      obtain ⟨S_5, eS_5⟩ : ∃ z : St, z = (sU S_2 15 p1.toNatClampNeg ((S_2 15 p1.toNatClampNeg) ^^^ (1 <<< (p2 &&& 31)))) := ⟨_, rfl⟩
      refine v_w (congrArg (fun z => (wM h cI z)) eS_5.symm) ?_
      refine v_aload_n X dX4_toggleDeck_41 rfl ?_
      refine v_iload_n X dX4_toggleDeck_42 rfl ?_
      refine v_callVi (As := [.int p1]) (rest := []) (w' := (wM h cI S_5)) X (c_X4_size l D cI cII cL h S_5 p1 (isPlayer_in n_3.1) (cm_of ((congrFun (congrFun eS_5 0) 10).trans ((show (sU S_2 15 p1.toNatClampNeg ((S_2 15 p1.toNatClampNeg) ^^^ (1 <<< (p2 &&& 31)))) 0 10 = S_2 0 10 from rfl).trans ((congrFun (congrFun eS_2 0) 10).trans (cma_X4_asked S T_1)))) hmc)) (cwV 1 X.2.2.2.1 gX4_toggleDeck_X4_size rfl rfl rfl (by decide +kernel) ⟨Nat.le_of_ble_eq_true rfl, Nat.le_of_ble_eq_true rfl⟩) 0 4 rfl rfl wM_g0 rfl rfl (Nat.le_of_ble_eq_true rfl) dX4_toggleDeck_43 ⟨Nat.le_of_ble_eq_true rfl, Nat.le_of_ble_eq_true rfl⟩ ?_
      exact v_reti X hr hk rfl (by subst eS_5; subst eS_2; subst eT_1; unfold r_X4_toggleDeck; dsimp only; rw [if_neg c_3]) (congrArg (fun z => (wM h cI z)) (by subst eS_5; subst eS_2; subst eT_1; unfold s_X4_toggleDeck; dsimp only; rw [if_neg c_3])) (Nat.le_of_ble_eq_true rfl) (Nat.le_of_ble_eq_true rfl) dX4_toggleDeck_46
    · refine v_iconst (x := 0) X dX4_toggleDeck_27 rfl ?_
      exact v_reti X hr hk rfl (by subst eS_2; subst eT_1; unfold r_X4_toggleDeck; dsimp only; rw [if_pos c_3]) (congrArg (fun z => (wM h cI z)) (by subst eS_2; subst eT_1; unfold s_X4_toggleDeck; dsimp only; rw [if_pos c_3])) (Nat.le_of_ble_eq_true rfl) (Nat.le_of_ble_eq_true rfl) dX4_toggleDeck_28

def st1_X4_right (S : St) (p1 : Int32) (k : Nat) (qb2 : Int32) : Int32 :=
  (if qb2 = 0 then 0 else (if (if (((S 15 p1.toNatClampNeg) >>> ((nI k) &&& 31)) &&& 1) = 1 then 1 else 0 : Int32) = 0 then 1 else (if (r_X4_holds S (nI k)) = p1 then (if (S 4 (nI k).toNatClampNeg) = 1 then 0 else (if (S 4 (nI k).toNatClampNeg) = 2 then 0 else (if (r_X4_banned S (S 2 (nI k).toNatClampNeg)) = 0 then 1 else 0))) else 0)) : Int32)
def lp1_X4_right (S : St) (p1 : Int32) : Nat → Int32
  | 0 => (r_X4_in (r_X4_size S p1) 1 5)
  | k + 1 => st1_X4_right S p1 k (lp1_X4_right S p1 k)
theorem e_lp1_X4_right (S : St) (p1 : Int32) (k : Nat) : lp1_X4_right S p1 (k + 1) = st1_X4_right S p1 k (lp1_X4_right S p1 k) := rfl
def r_X4_right (S : St) (p1 : Int32) : Int32 :=
  (lp1_X4_right S p1 (S 0 10).toNatClampNeg)
theorem lpb_X4_right (S : St) (p1 : Int32) (k : Nat) : lp1_X4_right S p1 k = 0 ∨ lp1_X4_right S p1 k = 1 := by
  induction k with
  | zero => exact b_X4_in _ _ _
  | succ k ih =>
    rw [e_lp1_X4_right]
    unfold st1_X4_right
    repeat' split
    all_goals first | exact Or.inl rfl | exact Or.inr rfl
theorem b_X4_right (S : St) (p1 : Int32) : (r_X4_right S p1) = 0 ∨ (r_X4_right S p1) = 1 := lpb_X4_right _ _ _
set_option maxHeartbeats 1000000 in
set_option maxRecDepth 100000 in
theorem c_X4_right (l : Launch) (D : va_G) (cI cII cL : ClassId) (h : Nat → Nat) (S : St) (p1 : Int32) (in1_5 : vp_in p1 5) (hmc : cntM S) (hmkin : ∀ j, vp_in (S 2 j) 8) : v_Mi l D vwCl (tyl cI cII cL) yX4_right wsX4_right { frames := 1, cells := 0, slots := 0, locals := 23 } [.ref (h 0), .int p1] (wM h cI S) (r_X4_right S p1) (wM h cI S) := by
  refine v_ofMi (cc := cX4_right) (maxL := 5) (ret := (some .boolean)) (own := RX4) (lv0 := [(0, .ref (h 0)), (1, .int p1)]) (by decide) rfl rfl rfl (Nat.le_of_ble_eq_true rfl) ?_
  intro p e s m below meth c X hr hk hin
  have iX4 : ∀ w ∈ wsX40, w ∈ wsX4_right := by decide +kernel
  obtain ⟨N, hN, hN30, hNc⟩ := v_num (M := 30) (by decide) hmc
  refine v_aload_n X dX4_right_0 rfl ?_
  refine v_iload_n X dX4_right_1 rfl ?_
  refine v_callVi (As := [.int p1]) (rest := []) (w' := (wM h cI S)) X (c_X4_size l D cI cII cL h S p1 in1_5 hmc) (cwV 1 X.2.2.2.1 gX4_right_X4_size rfl rfl rfl (by decide +kernel) ⟨Nat.le_of_ble_eq_true rfl, Nat.le_of_ble_eq_true rfl⟩) 0 4 rfl rfl wM_g0 rfl rfl (Nat.le_of_ble_eq_true rfl) dX4_right_2 ⟨Nat.le_of_ble_eq_true rfl, Nat.le_of_ble_eq_true rfl⟩ ?_
  refine v_iconst (x := 1) X dX4_right_5 rfl ?_
  refine v_iconst (x := 5) X dX4_right_6 rfl ?_
  refine v_callSi0 (As := [.int (r_X4_size S p1), .int 1, .int 5]) (rest := []) X (c_X4_in l D cI cII cL (r_X4_size S p1) 1 5) (cwS 3 X.2.2.2.1 gX4_right_X4_in rfl rfl rfl (by decide +kernel) ⟨Nat.le_of_ble_eq_true rfl, Nat.le_of_ble_eq_true rfl⟩) rfl rfl (Nat.le_of_ble_eq_true rfl) dX4_right_7 ⟨Nat.le_of_ble_eq_true rfl, Nat.le_of_ble_eq_true rfl⟩ ?_
  refine v_istore_n (lv' := [(2, .int (r_X4_in (r_X4_size S p1) 1 5)), (0, .ref (h 0)), (1, .int p1)]) X dX4_right_10 (by decide) rfl ?_
  refine v_iconst (x := 0) X dX4_right_11 rfl ?_
  refine v_istore_n (lv' := [(3, .int 0), (2, .int (r_X4_in (r_X4_size S p1) 1 5)), (0, .ref (h 0)), (1, .int p1)]) X dX4_right_12 (by decide) rfl ?_
  have L_1 : ∀ (d_1 k_1 : Nat) (i_1 b2_1 : Int32), k_1 + d_1 = N → i_1 = nI k_1 → b2_1 = (lp1_X4_right S p1 k_1) → v_V p l e { frames := 1, cells := 0, slots := 0, locals := 23 } s m [.ref (h 0), .int p1].toArray below meth c D vwCl (va_A (wM h cI S) s.heap.size) 5 (v_Qi below s D vwCl (tyl cI cII cL) { frames := 1, cells := 0, slots := 0, locals := 23 } [.ref (h 0), .int p1] (wM h cI S) (r_X4_right S p1) (wM h cI S)) 0 0 (wM h cI S) 13 [(3, .int i_1), (2, .int b2_1), (0, .ref (h 0)), (1, .int p1)] [] := by
    intro d_1
    induction d_1 with
    | zero =>
      intro k_1 i_1 b2_1 hk_1 ei_1 eb2_1
      subst ei_1 eb2_1
      obtain rfl : N = k_1 := by omega
      refine v_iload_n X dX4_right_13 rfl ?_
      refine v_aload_n X dX4_right_14 rfl ?_
      refine v_getfield (ref := "TrumpvaultModel") (ci := 4) (index := 58) (v := .int (S 0 10)) X iX4 0 wM_g0 rfl 10 (by decide) (by decide +kernel) (fun _ h9 => h9) rfl dX4_right_15 ?_
      refine v_icmp_ge (tgt := 105) X dX4_right_18 (by decide) (fun c_1 => ?_) (fun c_1 => ?_)
      · refine v_iload_n X dX4_right_105 rfl ?_
        exact v_reti X hr hk (narrow_b (lpb_X4_right _ _ _)) (by unfold r_X4_right; rw [hNc]) rfl (Nat.le_of_ble_eq_true rfl) (Nat.le_of_ble_eq_true rfl) dX4_right_106
      · exact absurd (by rw [hN]; exact nI_le (Nat.le_refl _) (by omega)) c_1
    | succ d_1 ih_1 =>
      intro k_1 i_1 b2_1 hk_1 ei_1 eb2_1
      subst ei_1 eb2_1
      have hlt_1 : k_1 < N := by omega
      refine v_iload_n X dX4_right_13 rfl ?_
      refine v_aload_n X dX4_right_14 rfl ?_
      refine v_getfield (ref := "TrumpvaultModel") (ci := 4) (index := 58) (v := .int (S 0 10)) X iX4 0 wM_g0 rfl 10 (by decide) (by decide +kernel) (fun _ h9 => h9) rfl dX4_right_15 ?_
      refine v_icmp_ge (tgt := 105) X dX4_right_18 (by decide) (fun c_2 => ?_) (fun c_2 => ?_)
      · exact absurd c_2 (by rw [hN]; exact nI_ge hlt_1 (by omega))
      · refine v_aload_n X dX4_right_21 rfl ?_
        refine v_getfield (ref := "TrumpvaultModel") (ci := 4) (index := 46) (v := .ref (h 15)) X iX4 0 wM_g0 rfl 15 (by decide) (by decide +kernel) (fun _ h9 => h9) rfl dX4_right_22 ?_
        refine v_iload_n X dX4_right_25 rfl ?_
        refine v_iald X 13 0 wM_g15 rfl in1_5 dX4_right_26 ?_
        refine v_iload_n X dX4_right_27 rfl ?_
        refine v_ishr X dX4_right_28 ?_
        refine v_iconst (x := 1) X dX4_right_29 rfl ?_
        refine v_iand X dX4_right_30 ?_
        refine v_iconst (x := 1) X dX4_right_31 rfl ?_
        refine v_mrg (T := (if (((S 15 p1.toNatClampNeg) >>> ((nI k_1) &&& 31)) &&& 1) = 1 then 1 else 0 : Int32)) 40 [] (fun hJ2 => ?_) ?_
        · refine v_icmp_ne (tgt := 39) X dX4_right_32 (by decide) (fun c_3 => ?_) (fun c_3 => ?_)
          · refine v_iconst (x := 0) X dX4_right_39 rfl ?_
            exact hJ2 _ (by rw [if_neg c_3])
          · refine v_iconst (x := 1) X dX4_right_35 rfl ?_
            refine v_goto (tgt := 40) X dX4_right_36 (by decide) ?_
            exact hJ2 _ (by rw [if_pos c_3])
        · refine v_istore (lv' := [(4, .int (if (((S 15 p1.toNatClampNeg) >>> ((nI k_1) &&& 31)) &&& 1) = 1 then 1 else 0 : Int32)), (3, .int (nI k_1)), (2, .int (lp1_X4_right S p1 k_1)), (0, .ref (h 0)), (1, .int p1)]) X dX4_right_40 (by decide) rfl ?_
          refine v_iload_n X dX4_right_42 rfl ?_
          refine v_mrg (T := (if (lp1_X4_right S p1 k_1) = 0 then 0 else (if (if (((S 15 p1.toNatClampNeg) >>> ((nI k_1) &&& 31)) &&& 1) = 1 then 1 else 0 : Int32) = 0 then 1 else (if (r_X4_holds S (nI k_1)) = p1 then (if (S 4 (nI k_1).toNatClampNeg) = 1 then 0 else (if (S 4 (nI k_1).toNatClampNeg) = 2 then 0 else (if (r_X4_banned S (S 2 (nI k_1).toNatClampNeg)) = 0 then 1 else 0))) else 0)) : Int32)) 98 [] (fun hJ3 => ?_) ?_
          · refine v_if_eq (tgt := 97) X dX4_right_43 (by decide) (fun c_4 => ?_) (fun c_4 => ?_)
            · refine v_iconst (x := 0) X dX4_right_97 rfl ?_
              exact hJ3 _ (by rw [if_pos c_4])
            · refine v_iload X dX4_right_46 rfl ?_
              refine v_if_eq (tgt := 93) X dX4_right_48 (by decide) (fun c_5 => ?_) (fun c_5 => ?_)
              · refine v_iconst (x := 1) X dX4_right_93 rfl ?_
                refine v_goto (tgt := 98) X dX4_right_94 (by decide) ?_
                exact hJ3 _ (by rw [if_neg c_4, if_pos c_5])
              · have n_1 := nz_then c_5
                refine v_aload_n X dX4_right_51 rfl ?_
                refine v_iload_n X dX4_right_52 rfl ?_
                refine v_callVi (As := [.int (nI k_1)]) (rest := []) (w' := (wM h cI S)) X (c_X4_holds l D cI cII cL h S (nI k_1) (vp_in_nI (by omega) (by decide))) (cwV 1 X.2.2.2.1 gX4_right_X4_holds rfl rfl rfl (by decide +kernel) ⟨Nat.le_of_ble_eq_true rfl, Nat.le_of_ble_eq_true rfl⟩) 0 4 rfl rfl wM_g0 rfl rfl (Nat.le_of_ble_eq_true rfl) dX4_right_53 ⟨Nat.le_of_ble_eq_true rfl, Nat.le_of_ble_eq_true rfl⟩ ?_
                refine v_iload_n X dX4_right_56 rfl ?_
                refine v_icmp_ne (tgt := 97) X dX4_right_57 (by decide) (fun c_6 => ?_) (fun c_6 => ?_)
                · refine v_iconst (x := 0) X dX4_right_97 rfl ?_
                  exact hJ3 _ (by rw [if_neg c_4, if_neg c_5, if_neg c_6])
                · refine v_aload_n X dX4_right_60 rfl ?_
                  refine v_getfield (ref := "TrumpvaultModel") (ci := 4) (index := 19) (v := .ref (h 4)) X iX4 0 wM_g0 rfl 4 (by decide) (by decide +kernel) (fun _ h9 => h9) rfl dX4_right_61 ?_
                  refine v_iload_n X dX4_right_64 rfl ?_
                  refine v_iald X 4 0 wM_g4 rfl (vp_in_nI (by omega) (by decide)) dX4_right_65 ?_
                  refine v_iconst (x := 1) X dX4_right_66 rfl ?_
                  refine v_icmp_eq (tgt := 97) X dX4_right_67 (by decide) (fun c_7 => ?_) (fun c_7 => ?_)
                  · refine v_iconst (x := 0) X dX4_right_97 rfl ?_
                    exact hJ3 _ (by rw [if_neg c_4, if_neg c_5, if_pos c_6, if_pos c_7])
                  · refine v_aload_n X dX4_right_70 rfl ?_
                    refine v_getfield (ref := "TrumpvaultModel") (ci := 4) (index := 19) (v := .ref (h 4)) X iX4 0 wM_g0 rfl 4 (by decide) (by decide +kernel) (fun _ h9 => h9) rfl dX4_right_71 ?_
                    refine v_iload_n X dX4_right_74 rfl ?_
                    refine v_iald X 4 0 wM_g4 rfl (vp_in_nI (by omega) (by decide)) dX4_right_75 ?_
                    refine v_iconst (x := 2) X dX4_right_76 rfl ?_
                    refine v_icmp_eq (tgt := 97) X dX4_right_77 (by decide) (fun c_8 => ?_) (fun c_8 => ?_)
                    · refine v_iconst (x := 0) X dX4_right_97 rfl ?_
                      exact hJ3 _ (by rw [if_neg c_4, if_neg c_5, if_pos c_6, if_neg c_7, if_pos c_8])
                    · refine v_aload_n X dX4_right_80 rfl ?_
                      refine v_aload_n X dX4_right_81 rfl ?_
                      refine v_getfield (ref := "TrumpvaultModel") (ci := 4) (index := 13) (v := .ref (h 2)) X iX4 0 wM_g0 rfl 2 (by decide) (by decide +kernel) (fun _ h9 => h9) rfl dX4_right_82 ?_
                      refine v_iload_n X dX4_right_85 rfl ?_
                      refine v_iald X 2 0 wM_g2 rfl (vp_in_nI (by omega) (by decide)) dX4_right_86 ?_
                      refine v_callVi (As := [.int (S 2 (nI k_1).toNatClampNeg)]) (rest := []) (w' := (wM h cI S)) X (c_X4_banned l D cI cII cL h S (S 2 (nI k_1).toNatClampNeg) (hmkin _)) (cwV 1 X.2.2.2.1 gX4_right_X4_banned rfl rfl rfl (by decide +kernel) ⟨Nat.le_of_ble_eq_true rfl, Nat.le_of_ble_eq_true rfl⟩) 0 4 rfl rfl wM_g0 rfl rfl (Nat.le_of_ble_eq_true rfl) dX4_right_87 ⟨Nat.le_of_ble_eq_true rfl, Nat.le_of_ble_eq_true rfl⟩ ?_
                      refine v_if_ne (tgt := 97) X dX4_right_90 (by decide) (fun c_9 => ?_) (fun c_9 => ?_)
                      · refine v_iconst (x := 0) X dX4_right_97 rfl ?_
                        exact hJ3 _ (by rw [if_neg c_4, if_neg c_5, if_pos c_6, if_neg c_7, if_neg c_8, if_neg c_9])
                      · refine v_iconst (x := 1) X dX4_right_93 rfl ?_
                        refine v_goto (tgt := 98) X dX4_right_94 (by decide) ?_
                        exact hJ3 _ (by rw [if_neg c_4, if_neg c_5, if_pos c_6, if_neg c_7, if_neg c_8, if_pos c_9])
          · refine v_istore_n (lv' := [(2, .int (if (lp1_X4_right S p1 k_1) = 0 then 0 else (if (if (((S 15 p1.toNatClampNeg) >>> ((nI k_1) &&& 31)) &&& 1) = 1 then 1 else 0 : Int32) = 0 then 1 else (if (r_X4_holds S (nI k_1)) = p1 then (if (S 4 (nI k_1).toNatClampNeg) = 1 then 0 else (if (S 4 (nI k_1).toNatClampNeg) = 2 then 0 else (if (r_X4_banned S (S 2 (nI k_1).toNatClampNeg)) = 0 then 1 else 0))) else 0)) : Int32)), (4, .int (if (((S 15 p1.toNatClampNeg) >>> ((nI k_1) &&& 31)) &&& 1) = 1 then 1 else 0 : Int32)), (3, .int (nI k_1)), (0, .ref (h 0)), (1, .int p1)]) X dX4_right_98 (by decide) rfl ?_
            refine v_iinc (y := ((nI k_1) + 1)) (lv' := [(3, .int ((nI k_1) + 1)), (2, .int (if (lp1_X4_right S p1 k_1) = 0 then 0 else (if (if (((S 15 p1.toNatClampNeg) >>> ((nI k_1) &&& 31)) &&& 1) = 1 then 1 else 0 : Int32) = 0 then 1 else (if (r_X4_holds S (nI k_1)) = p1 then (if (S 4 (nI k_1).toNatClampNeg) = 1 then 0 else (if (S 4 (nI k_1).toNatClampNeg) = 2 then 0 else (if (r_X4_banned S (S 2 (nI k_1).toNatClampNeg)) = 0 then 1 else 0))) else 0)) : Int32)), (4, .int (if (((S 15 p1.toNatClampNeg) >>> ((nI k_1) &&& 31)) &&& 1) = 1 then 1 else 0 : Int32)), (0, .ref (h 0)), (1, .int p1)]) X dX4_right_99 rfl rfl (by decide) rfl ?_
            refine v_goto (tgt := 13) X dX4_right_102 (by decide) ?_
            refine v_lv [0, 1, 3, 4] rfl ?_
            exact ih_1 (k_1 + 1) ((nI k_1) + 1) (if (lp1_X4_right S p1 k_1) = 0 then 0 else (if (if (((S 15 p1.toNatClampNeg) >>> ((nI k_1) &&& 31)) &&& 1) = 1 then 1 else 0 : Int32) = 0 then 1 else (if (r_X4_holds S (nI k_1)) = p1 then (if (S 4 (nI k_1).toNatClampNeg) = 1 then 0 else (if (S 4 (nI k_1).toNatClampNeg) = 2 then 0 else (if (r_X4_banned S (S 2 (nI k_1).toNatClampNeg)) = 0 then 1 else 0))) else 0)) : Int32) (by omega) (nI_1 k_1) (by rw [e_lp1_X4_right]; unfold st1_X4_right; rfl)
  exact L_1 N 0 0 (r_X4_in (r_X4_size S p1) 1 5) (Nat.zero_add _) (by exact nI_0.symm) rfl

def st1_X4_strengthOf (S : St) (p1 : Int32) (k : Nat) (qb2 : Int32) : Int32 :=
  (if (((S 15 p1.toNatClampNeg) >>> ((nI k) &&& 31)) &&& 1) = 1 then (qb2 + ((S 2 (nI k).toNatClampNeg) + 1)) else (qb2 + 0))
def lp1_X4_strengthOf (S : St) (p1 : Int32) : Nat → Int32
  | 0 => 0
  | k + 1 => st1_X4_strengthOf S p1 k (lp1_X4_strengthOf S p1 k)
theorem e_lp1_X4_strengthOf (S : St) (p1 : Int32) (k : Nat) : lp1_X4_strengthOf S p1 (k + 1) = st1_X4_strengthOf S p1 k (lp1_X4_strengthOf S p1 k) := rfl
def r_X4_strengthOf (S : St) (p1 : Int32) : Int32 :=
  (lp1_X4_strengthOf S p1 (S 0 10).toNatClampNeg)
set_option maxHeartbeats 1000000 in
set_option maxRecDepth 100000 in
theorem c_X4_strengthOf (l : Launch) (D : va_G) (cI cII cL : ClassId) (h : Nat → Nat) (S : St) (p1 : Int32) (in1_5 : vp_in p1 5) (hmc : cntM S) : v_Mi l D vwCl (tyl cI cII cL) yX4_strengthOf wsX4_strengthOf { frames := 0, cells := 0, slots := 0, locals := 0 } [.ref (h 0), .int p1] (wM h cI S) (r_X4_strengthOf S p1) (wM h cI S) := by
  refine v_ofMi (cc := cX4_strengthOf) (maxL := 4) (ret := (some .int)) (own := RX4) (lv0 := [(0, .ref (h 0)), (1, .int p1)]) (by decide) rfl rfl rfl (Nat.le_of_ble_eq_true rfl) ?_
  intro p e s m below meth c X hr hk hin
  have iX4 : ∀ w ∈ wsX40, w ∈ wsX4_strengthOf := by decide +kernel
  obtain ⟨N, hN, hN30, hNc⟩ := v_num (M := 30) (by decide) hmc
  refine v_iconst (x := 0) X dX4_strengthOf_0 rfl ?_
  refine v_istore_n (lv' := [(2, .int 0), (0, .ref (h 0)), (1, .int p1)]) X dX4_strengthOf_1 (by decide) rfl ?_
  refine v_iconst (x := 0) X dX4_strengthOf_2 rfl ?_
  refine v_istore_n (lv' := [(3, .int 0), (2, .int 0), (0, .ref (h 0)), (1, .int p1)]) X dX4_strengthOf_3 (by decide) rfl ?_
  have L_1 : ∀ (d_1 k_1 : Nat) (i_1 b2_1 : Int32), k_1 + d_1 = N → i_1 = nI k_1 → b2_1 = (lp1_X4_strengthOf S p1 k_1) → v_V p l e { frames := 0, cells := 0, slots := 0, locals := 0 } s m [.ref (h 0), .int p1].toArray below meth c D vwCl (va_A (wM h cI S) s.heap.size) 4 (v_Qi below s D vwCl (tyl cI cII cL) { frames := 0, cells := 0, slots := 0, locals := 0 } [.ref (h 0), .int p1] (wM h cI S) (r_X4_strengthOf S p1) (wM h cI S)) 0 0 (wM h cI S) 4 [(3, .int i_1), (2, .int b2_1), (0, .ref (h 0)), (1, .int p1)] [] := by
    intro d_1
    induction d_1 with
    | zero =>
      intro k_1 i_1 b2_1 hk_1 ei_1 eb2_1
      subst ei_1 eb2_1
      obtain rfl : N = k_1 := by omega
      refine v_iload_n X dX4_strengthOf_4 rfl ?_
      refine v_aload_n X dX4_strengthOf_5 rfl ?_
      refine v_getfield (ref := "TrumpvaultModel") (ci := 4) (index := 58) (v := .int (S 0 10)) X iX4 0 wM_g0 rfl 10 (by decide) (by decide +kernel) (fun _ h9 => h9) rfl dX4_strengthOf_6 ?_
      refine v_icmp_ge (tgt := 47) X dX4_strengthOf_9 (by decide) (fun c_1 => ?_) (fun c_1 => ?_)
      · refine v_iload_n X dX4_strengthOf_47 rfl ?_
        exact v_reti X hr hk rfl (by unfold r_X4_strengthOf; rw [hNc]) rfl (Nat.le_of_ble_eq_true rfl) (Nat.le_of_ble_eq_true rfl) dX4_strengthOf_48
      · exact absurd (by rw [hN]; exact nI_le (Nat.le_refl _) (by omega)) c_1
    | succ d_1 ih_1 =>
      intro k_1 i_1 b2_1 hk_1 ei_1 eb2_1
      subst ei_1 eb2_1
      have hlt_1 : k_1 < N := by omega
      refine v_iload_n X dX4_strengthOf_4 rfl ?_
      refine v_aload_n X dX4_strengthOf_5 rfl ?_
      refine v_getfield (ref := "TrumpvaultModel") (ci := 4) (index := 58) (v := .int (S 0 10)) X iX4 0 wM_g0 rfl 10 (by decide) (by decide +kernel) (fun _ h9 => h9) rfl dX4_strengthOf_6 ?_
      refine v_icmp_ge (tgt := 47) X dX4_strengthOf_9 (by decide) (fun c_2 => ?_) (fun c_2 => ?_)
      · exact absurd c_2 (by rw [hN]; exact nI_ge hlt_1 (by omega))
      · refine v_iload_n X dX4_strengthOf_12 rfl ?_
        refine v_aload_n X dX4_strengthOf_13 rfl ?_
        refine v_getfield (ref := "TrumpvaultModel") (ci := 4) (index := 46) (v := .ref (h 15)) X iX4 0 wM_g0 rfl 15 (by decide) (by decide +kernel) (fun _ h9 => h9) rfl dX4_strengthOf_14 ?_
        refine v_iload_n X dX4_strengthOf_17 rfl ?_
        refine v_iald X 13 0 wM_g15 rfl in1_5 dX4_strengthOf_18 ?_
        refine v_iload_n X dX4_strengthOf_19 rfl ?_
        refine v_ishr X dX4_strengthOf_20 ?_
        refine v_iconst (x := 1) X dX4_strengthOf_21 rfl ?_
        refine v_iand X dX4_strengthOf_22 ?_
        refine v_iconst (x := 1) X dX4_strengthOf_23 rfl ?_
        refine v_icmp_ne (tgt := 38) X dX4_strengthOf_24 (by decide) (fun c_3 => ?_) (fun c_3 => ?_)
        · refine v_iconst (x := 0) X dX4_strengthOf_38 rfl ?_
          refine v_iadd X dX4_strengthOf_39 ?_
          refine v_istore_n (lv' := [(2, .int ((lp1_X4_strengthOf S p1 k_1) + 0)), (3, .int (nI k_1)), (0, .ref (h 0)), (1, .int p1)]) X dX4_strengthOf_40 (by decide) rfl ?_
          refine v_iinc (y := ((nI k_1) + 1)) (lv' := [(3, .int ((nI k_1) + 1)), (2, .int ((lp1_X4_strengthOf S p1 k_1) + 0)), (0, .ref (h 0)), (1, .int p1)]) X dX4_strengthOf_41 rfl rfl (by decide) rfl ?_
          refine v_goto (tgt := 4) X dX4_strengthOf_44 (by decide) ?_
          refine v_lv [0, 1, 2, 3] rfl ?_
          exact ih_1 (k_1 + 1) ((nI k_1) + 1) ((lp1_X4_strengthOf S p1 k_1) + 0) (by omega) (nI_1 k_1) (by rw [e_lp1_X4_strengthOf]; unfold st1_X4_strengthOf; rw [if_neg c_3])
        · refine v_aload_n X dX4_strengthOf_27 rfl ?_
          refine v_getfield (ref := "TrumpvaultModel") (ci := 4) (index := 13) (v := .ref (h 2)) X iX4 0 wM_g0 rfl 2 (by decide) (by decide +kernel) (fun _ h9 => h9) rfl dX4_strengthOf_28 ?_
          refine v_iload_n X dX4_strengthOf_31 rfl ?_
          refine v_iald X 2 0 wM_g2 rfl (vp_in_nI (by omega) (by decide)) dX4_strengthOf_32 ?_
          refine v_iconst (x := 1) X dX4_strengthOf_33 rfl ?_
          refine v_iadd X dX4_strengthOf_34 ?_
          refine v_goto (tgt := 39) X dX4_strengthOf_35 (by decide) ?_
          refine v_iadd X dX4_strengthOf_39 ?_
          refine v_istore_n (lv' := [(2, .int ((lp1_X4_strengthOf S p1 k_1) + ((S 2 (nI k_1).toNatClampNeg) + 1))), (3, .int (nI k_1)), (0, .ref (h 0)), (1, .int p1)]) X dX4_strengthOf_40 (by decide) rfl ?_
          refine v_iinc (y := ((nI k_1) + 1)) (lv' := [(3, .int ((nI k_1) + 1)), (2, .int ((lp1_X4_strengthOf S p1 k_1) + ((S 2 (nI k_1).toNatClampNeg) + 1))), (0, .ref (h 0)), (1, .int p1)]) X dX4_strengthOf_41 rfl rfl (by decide) rfl ?_
          refine v_goto (tgt := 4) X dX4_strengthOf_44 (by decide) ?_
          refine v_lv [0, 1, 2, 3] rfl ?_
          exact ih_1 (k_1 + 1) ((nI k_1) + 1) ((lp1_X4_strengthOf S p1 k_1) + ((S 2 (nI k_1).toNatClampNeg) + 1)) (by omega) (nI_1 k_1) (by rw [e_lp1_X4_strengthOf]; unfold st1_X4_strengthOf; rw [if_pos c_3])
  exact L_1 N 0 0 0 (Nat.zero_add _) (by exact nI_0.symm) rfl

def r_X4_isRight (S : St) (p1 : Int32) : Int32 :=
  (let S_1 : St := (s_X4_asked S (r_X4_isPlayer p1)); (if (r_X4_asked S (r_X4_isPlayer p1)) = 0 then 0 else (if (r_X4_right S_1 p1) = 0 then 0 else 1)))
def s_X4_isRight (S : St) (p1 : Int32) : St :=
  (let S_1 : St := (s_X4_asked S (r_X4_isPlayer p1)); (if (r_X4_asked S (r_X4_isPlayer p1)) = 0 then S_1 else (if (r_X4_right S_1 p1) = 0 then S_1 else S_1)))
theorem b_X4_isRight (S : St) (p1 : Int32) : (r_X4_isRight S p1) = 0 ∨ (r_X4_isRight S p1) = 1 := by
  unfold r_X4_isRight
  (try dsimp only)
  repeat' split
  all_goals first | exact Or.inl rfl | exact Or.inr rfl | exact b_X4_isPlayer _ | exact b_X4_asked _ _ | exact b_X4_right _ _
set_option maxHeartbeats 1000000 in
set_option maxRecDepth 100000 in
theorem c_X4_isRight (l : Launch) (D : va_G) (cI cII cL : ClassId) (h : Nat → Nat) (S : St) (p1 : Int32) (hmc : cntM S) (hmkin : ∀ j, vp_in (S 2 j) 8) : v_Mi l D vwCl (tyl cI cII cL) yX4_isRight wsX4_isRight { frames := 2, cells := 0, slots := 0, locals := 47 } [.ref (h 0), .int p1] (wM h cI S) (r_X4_isRight S p1) (wM h cI (s_X4_isRight S p1)) := by
  refine v_ofMi (cc := cX4_isRight) (maxL := 2) (ret := (some .boolean)) (own := RX4) (lv0 := [(0, .ref (h 0)), (1, .int p1)]) (by decide) rfl rfl rfl (Nat.le_of_ble_eq_true rfl) ?_
  intro p e s m below meth c X hr hk hin
  refine v_aload_n X dX4_isRight_0 rfl ?_
  refine v_iload_n X dX4_isRight_1 rfl ?_
  refine v_callSi0 (As := [.int p1]) (rest := [.ref (h 0)]) X (c_X4_isPlayer l D cI cII cL p1) (cwS 1 X.2.2.2.1 gX4_isRight_X4_isPlayer rfl rfl rfl (by decide +kernel) ⟨Nat.le_of_ble_eq_true rfl, Nat.le_of_ble_eq_true rfl⟩) rfl rfl (Nat.le_of_ble_eq_true rfl) dX4_isRight_2 ⟨Nat.le_of_ble_eq_true rfl, Nat.le_of_ble_eq_true rfl⟩ ?_
  refine v_callVi (As := [.int (r_X4_isPlayer p1)]) (rest := []) (w' := (wM h cI (s_X4_asked S (r_X4_isPlayer p1)))) X (c_X4_asked l D cI cII cL h S (r_X4_isPlayer p1) (b_X4_isPlayer _)) (cwV 1 X.2.2.2.1 gX4_isRight_X4_asked rfl rfl rfl (by decide +kernel) ⟨Nat.le_of_ble_eq_true rfl, Nat.le_of_ble_eq_true rfl⟩) 0 4 rfl rfl wM_g0 rfl rfl (Nat.le_of_ble_eq_true rfl) dX4_isRight_5 ⟨Nat.le_of_ble_eq_true rfl, Nat.le_of_ble_eq_true rfl⟩ ?_
  obtain ⟨S_1, eS_1⟩ : ∃ z : St, z = (s_X4_asked S (r_X4_isPlayer p1)) := ⟨_, rfl⟩
  refine v_w (congrArg (fun z => (wM h cI z)) eS_1.symm) ?_
  refine v_if_eq (tgt := 23) X dX4_isRight_8 (by decide) (fun c_1 => ?_) (fun c_1 => ?_)
  · refine v_iconst (x := 0) X dX4_isRight_23 rfl ?_
    exact v_reti X hr hk rfl (by subst eS_1; unfold r_X4_isRight; dsimp only; rw [if_pos c_1]) (congrArg (fun z => (wM h cI z)) (by subst eS_1; unfold s_X4_isRight; dsimp only; rw [if_pos c_1])) (Nat.le_of_ble_eq_true rfl) (Nat.le_of_ble_eq_true rfl) dX4_isRight_24
  · refine v_aload_n X dX4_isRight_11 rfl ?_
    refine v_iload_n X dX4_isRight_12 rfl ?_
    refine v_callVi (As := [.int p1]) (rest := []) (w' := (wM h cI S_1)) X (c_X4_right l D cI cII cL h S_1 p1 (isPlayer_in (asked1 c_1)) (cm_of ((congrFun (congrFun eS_1 0) 10).trans (cma_X4_asked S (r_X4_isPlayer p1))) hmc) (own_of ((congrFun eS_1 2).trans (fr_X4_asked S (r_X4_isPlayer p1) 2 (by decide))) hmkin)) (cwV 1 X.2.2.2.1 gX4_isRight_X4_right rfl rfl rfl (by decide +kernel) ⟨Nat.le_of_ble_eq_true rfl, Nat.le_of_ble_eq_true rfl⟩) 0 4 rfl rfl wM_g0 rfl rfl (Nat.le_of_ble_eq_true rfl) dX4_isRight_13 ⟨Nat.le_of_ble_eq_true rfl, Nat.le_of_ble_eq_true rfl⟩ ?_
    refine v_if_eq (tgt := 23) X dX4_isRight_16 (by decide) (fun c_2 => ?_) (fun c_2 => ?_)
    · refine v_iconst (x := 0) X dX4_isRight_23 rfl ?_
      exact v_reti X hr hk rfl (by subst eS_1; unfold r_X4_isRight; dsimp only; rw [if_neg c_1, if_pos c_2]) (congrArg (fun z => (wM h cI z)) (by subst eS_1; unfold s_X4_isRight; dsimp only; rw [if_neg c_1, if_pos c_2])) (Nat.le_of_ble_eq_true rfl) (Nat.le_of_ble_eq_true rfl) dX4_isRight_24
    · refine v_iconst (x := 1) X dX4_isRight_19 rfl ?_
      refine v_goto (tgt := 24) X dX4_isRight_20 (by decide) ?_
      exact v_reti X hr hk rfl (by subst eS_1; unfold r_X4_isRight; dsimp only; rw [if_neg c_1, if_neg c_2]) (congrArg (fun z => (wM h cI z)) (by subst eS_1; unfold s_X4_isRight; dsimp only; rw [if_neg c_1, if_neg c_2])) (Nat.le_of_ble_eq_true rfl) (Nat.le_of_ble_eq_true rfl) dX4_isRight_24

def r_X4_strength (S : St) (p1 : Int32) : Int32 :=
  (let S_1 : St := (s_X4_asked S (r_X4_isPlayer p1)); (if (r_X4_asked S (r_X4_isPlayer p1)) = 0 then 0 else (r_X4_strengthOf S_1 p1)))
def s_X4_strength (S : St) (p1 : Int32) : St :=
  (let S_1 : St := (s_X4_asked S (r_X4_isPlayer p1)); (if (r_X4_asked S (r_X4_isPlayer p1)) = 0 then S_1 else S_1))
set_option maxHeartbeats 1000000 in
set_option maxRecDepth 100000 in
theorem c_X4_strength (l : Launch) (D : va_G) (cI cII cL : ClassId) (h : Nat → Nat) (S : St) (p1 : Int32) (hmc : cntM S) : v_Mi l D vwCl (tyl cI cII cL) yX4_strength wsX4_strength { frames := 2, cells := 0, slots := 0, locals := 42 } [.ref (h 0), .int p1] (wM h cI S) (r_X4_strength S p1) (wM h cI (s_X4_strength S p1)) := by
  refine v_ofMi (cc := cX4_strength) (maxL := 2) (ret := (some .int)) (own := RX4) (lv0 := [(0, .ref (h 0)), (1, .int p1)]) (by decide) rfl rfl rfl (Nat.le_of_ble_eq_true rfl) ?_
  intro p e s m below meth c X hr hk hin
  refine v_aload_n X dX4_strength_0 rfl ?_
  refine v_iload_n X dX4_strength_1 rfl ?_
  refine v_callSi0 (As := [.int p1]) (rest := [.ref (h 0)]) X (c_X4_isPlayer l D cI cII cL p1) (cwS 1 X.2.2.2.1 gX4_strength_X4_isPlayer rfl rfl rfl (by decide +kernel) ⟨Nat.le_of_ble_eq_true rfl, Nat.le_of_ble_eq_true rfl⟩) rfl rfl (Nat.le_of_ble_eq_true rfl) dX4_strength_2 ⟨Nat.le_of_ble_eq_true rfl, Nat.le_of_ble_eq_true rfl⟩ ?_
  refine v_callVi (As := [.int (r_X4_isPlayer p1)]) (rest := []) (w' := (wM h cI (s_X4_asked S (r_X4_isPlayer p1)))) X (c_X4_asked l D cI cII cL h S (r_X4_isPlayer p1) (b_X4_isPlayer _)) (cwV 1 X.2.2.2.1 gX4_strength_X4_asked rfl rfl rfl (by decide +kernel) ⟨Nat.le_of_ble_eq_true rfl, Nat.le_of_ble_eq_true rfl⟩) 0 4 rfl rfl wM_g0 rfl rfl (Nat.le_of_ble_eq_true rfl) dX4_strength_5 ⟨Nat.le_of_ble_eq_true rfl, Nat.le_of_ble_eq_true rfl⟩ ?_
  obtain ⟨S_1, eS_1⟩ : ∃ z : St, z = (s_X4_asked S (r_X4_isPlayer p1)) := ⟨_, rfl⟩
  refine v_w (congrArg (fun z => (wM h cI z)) eS_1.symm) ?_
  refine v_if_eq (tgt := 19) X dX4_strength_8 (by decide) (fun c_1 => ?_) (fun c_1 => ?_)
  · refine v_iconst (x := 0) X dX4_strength_19 rfl ?_
    exact v_reti X hr hk rfl (by subst eS_1; unfold r_X4_strength; dsimp only; rw [if_pos c_1]) (congrArg (fun z => (wM h cI z)) (by subst eS_1; unfold s_X4_strength; dsimp only; rw [if_pos c_1])) (Nat.le_of_ble_eq_true rfl) (Nat.le_of_ble_eq_true rfl) dX4_strength_20
  · refine v_aload_n X dX4_strength_11 rfl ?_
    refine v_iload_n X dX4_strength_12 rfl ?_
    refine v_callVi (As := [.int p1]) (rest := []) (w' := (wM h cI S_1)) X (c_X4_strengthOf l D cI cII cL h S_1 p1 (isPlayer_in (asked1 c_1)) (cm_of ((congrFun (congrFun eS_1 0) 10).trans (cma_X4_asked S (r_X4_isPlayer p1))) hmc)) (cwV 1 X.2.2.2.1 gX4_strength_X4_strengthOf rfl rfl rfl (by decide +kernel) ⟨Nat.le_of_ble_eq_true rfl, Nat.le_of_ble_eq_true rfl⟩) 0 4 rfl rfl wM_g0 rfl rfl (Nat.le_of_ble_eq_true rfl) dX4_strength_13 ⟨Nat.le_of_ble_eq_true rfl, Nat.le_of_ble_eq_true rfl⟩ ?_
    refine v_goto (tgt := 20) X dX4_strength_16 (by decide) ?_
    exact v_reti X hr hk rfl (by subst eS_1; unfold r_X4_strength; dsimp only; rw [if_neg c_1]) (congrArg (fun z => (wM h cI z)) (by subst eS_1; unfold s_X4_strength; dsimp only; rw [if_neg c_1])) (Nat.le_of_ble_eq_true rfl) (Nat.le_of_ble_eq_true rfl) dX4_strength_20

def r_X4_play (S : St) (p1 p2 : Int32) : Int32 :=
  (let T_1 : Int32 := (if (r_X4_isPlayer p1) = 0 then 0 else (if (r_X4_isPlayer p2) = 0 then 0 else 1) : Int32); (let T_2 : Int32 := (if p1 = p2 then 0 else 1 : Int32); (let T_5 : Int32 := (if T_1 = 0 then 0 else (if (r_X4_right S p1) = 0 then 0 else (if (r_X4_right S p2) = 0 then 0 else 1)) : Int32); (let S_6 : St := (s_X4_asked__ S T_1 T_2 T_5); (if (r_X4_asked__ S T_1 T_2 T_5) = 0 then 0 else (if (r_X4_strengthOf S_6 p2) ≤ (r_X4_strengthOf S_6 p1) then p1 else p2))))))
def s_X4_play (S : St) (p1 p2 : Int32) : St :=
  (let T_1 : Int32 := (if (r_X4_isPlayer p1) = 0 then 0 else (if (r_X4_isPlayer p2) = 0 then 0 else 1) : Int32); (let T_2 : Int32 := (if p1 = p2 then 0 else 1 : Int32); (let T_5 : Int32 := (if T_1 = 0 then 0 else (if (r_X4_right S p1) = 0 then 0 else (if (r_X4_right S p2) = 0 then 0 else 1)) : Int32); (let S_6 : St := (s_X4_asked__ S T_1 T_2 T_5); (if (r_X4_asked__ S T_1 T_2 T_5) = 0 then S_6 else (if (r_X4_strengthOf S_6 p2) ≤ (r_X4_strengthOf S_6 p1) then (let S_15 : St := (sU S_6 1 p1.toNatClampNeg ((S_6 1 p1.toNatClampNeg) + 5)); S_15) else (let S_16 : St := (sU S_6 1 p2.toNatClampNeg ((S_6 1 p2.toNatClampNeg) + 5)); S_16)))))))
set_option maxHeartbeats 1000000 in
set_option maxRecDepth 100000 in
theorem c_X4_play (l : Launch) (D : va_G) (cI cII cL : ClassId) (h : Nat → Nat) (S : St) (p1 p2 : Int32) (hmc : cntM S) (hmkin : ∀ j, vp_in (S 2 j) 8) : v_Mi l D vwCl (tyl cI cII cL) yX4_play wsX4_play { frames := 2, cells := 0, slots := 0, locals := 47 } [.ref (h 0), .int p1, .int p2] (wM h cI S) (r_X4_play S p1 p2) (wM h cI (s_X4_play S p1 p2)) := by
  refine v_ofMi (cc := cX4_play) (maxL := 5) (ret := (some .int)) (own := RX4) (lv0 := [(0, .ref (h 0)), (1, .int p1), (2, .int p2)]) (by decide) rfl rfl rfl (Nat.le_of_ble_eq_true rfl) ?_
  intro p e s m below meth c X hr hk hin
  have iX4 : ∀ w ∈ wsX40, w ∈ wsX4_play := by decide +kernel
  refine v_iload_n X dX4_play_0 rfl ?_
  refine v_callSi0 (As := [.int p1]) (rest := []) X (c_X4_isPlayer l D cI cII cL p1) (cwS 1 X.2.2.2.1 gX4_play_X4_isPlayer rfl rfl rfl (by decide +kernel) ⟨Nat.le_of_ble_eq_true rfl, Nat.le_of_ble_eq_true rfl⟩) rfl rfl (Nat.le_of_ble_eq_true rfl) dX4_play_1 ⟨Nat.le_of_ble_eq_true rfl, Nat.le_of_ble_eq_true rfl⟩ ?_
  refine v_mrgn (T := (if (r_X4_isPlayer p1) = 0 then 0 else (if (r_X4_isPlayer p2) = 0 then 0 else 1) : Int32)) 19 [] (fun hJ1 => ?_) (fun T_1 eT_1 => ?_)
  · refine v_if_eq (tgt := 18) X dX4_play_4 (by decide) (fun c_1 => ?_) (fun c_1 => ?_)
    · refine v_iconst (x := 0) X dX4_play_18 rfl ?_
      exact hJ1 _ (by rw [if_pos c_1])
    · refine v_iload_n X dX4_play_7 rfl ?_
      refine v_callSi0 (As := [.int p2]) (rest := []) X (c_X4_isPlayer l D cI cII cL p2) (cwS 1 X.2.2.2.1 gX4_play_X4_isPlayer rfl rfl rfl (by decide +kernel) ⟨Nat.le_of_ble_eq_true rfl, Nat.le_of_ble_eq_true rfl⟩) rfl rfl (Nat.le_of_ble_eq_true rfl) dX4_play_8 ⟨Nat.le_of_ble_eq_true rfl, Nat.le_of_ble_eq_true rfl⟩ ?_
      refine v_if_eq (tgt := 18) X dX4_play_11 (by decide) (fun c_2 => ?_) (fun c_2 => ?_)
      · refine v_iconst (x := 0) X dX4_play_18 rfl ?_
        exact hJ1 _ (by rw [if_neg c_1, if_pos c_2])
      · refine v_iconst (x := 1) X dX4_play_14 rfl ?_
        refine v_goto (tgt := 19) X dX4_play_15 (by decide) ?_
        exact hJ1 _ (by rw [if_neg c_1, if_neg c_2])
  · refine v_istore_n (lv' := [(3, .int T_1), (0, .ref (h 0)), (1, .int p1), (2, .int p2)]) X dX4_play_19 (by decide) rfl ?_
    refine v_aload_n X dX4_play_20 rfl ?_
    refine v_iload_n X dX4_play_21 rfl ?_
    refine v_iload_n X dX4_play_22 rfl ?_
    refine v_iload_n X dX4_play_23 rfl ?_
    refine v_mrgn (T := (if p1 = p2 then 0 else 1 : Int32)) 32 [.int T_1, .ref (h 0)] (fun hJ2 => ?_) (fun T_2 eT_2 => ?_)
    · refine v_icmp_eq (tgt := 31) X dX4_play_24 (by decide) (fun c_3 => ?_) (fun c_3 => ?_)
      · refine v_iconst (x := 0) X dX4_play_31 rfl ?_
        exact hJ2 _ (by rw [if_pos c_3])
      · refine v_iconst (x := 1) X dX4_play_27 rfl ?_
        refine v_goto (tgt := 32) X dX4_play_28 (by decide) ?_
        exact hJ2 _ (by rw [if_neg c_3])
    · refine v_iload_n X dX4_play_32 rfl ?_
      refine v_mrgn (T := (if T_1 = 0 then 0 else (if (r_X4_right S p1) = 0 then 0 else (if (r_X4_right S p2) = 0 then 0 else 1)) : Int32)) 57 [.int T_2, .int T_1, .ref (h 0)] (fun hJ3 => ?_) (fun T_5 eT_5 => ?_)
      · refine v_if_eq (tgt := 56) X dX4_play_33 (by decide) (fun c_4 => ?_) (fun c_4 => ?_)
        · refine v_iconst (x := 0) X dX4_play_56 rfl ?_
          exact hJ3 _ (by rw [if_pos c_4])
        · have n_3 := nz_else (fun q => c_4 (eT_1.trans q))
          have n_4 := nz_else n_3.2
          refine v_aload_n X dX4_play_36 rfl ?_
          refine v_iload_n X dX4_play_37 rfl ?_
          refine v_callVi (As := [.int p1]) (rest := [.int T_2, .int T_1, .ref (h 0)]) (w' := (wM h cI S)) X (c_X4_right l D cI cII cL h S p1 (isPlayer_in n_3.1) hmc hmkin) (cwV 1 X.2.2.2.1 gX4_play_X4_right rfl rfl rfl (by decide +kernel) ⟨Nat.le_of_ble_eq_true rfl, Nat.le_of_ble_eq_true rfl⟩) 0 4 rfl rfl wM_g0 rfl rfl (Nat.le_of_ble_eq_true rfl) dX4_play_38 ⟨Nat.le_of_ble_eq_true rfl, Nat.le_of_ble_eq_true rfl⟩ ?_
          refine v_if_eq (tgt := 56) X dX4_play_41 (by decide) (fun c_5 => ?_) (fun c_5 => ?_)
          · refine v_iconst (x := 0) X dX4_play_56 rfl ?_
            exact hJ3 _ (by rw [if_neg c_4, if_pos c_5])
          · refine v_aload_n X dX4_play_44 rfl ?_
            refine v_iload_n X dX4_play_45 rfl ?_
            refine v_callVi (As := [.int p2]) (rest := [.int T_2, .int T_1, .ref (h 0)]) (w' := (wM h cI S)) X (c_X4_right l D cI cII cL h S p2 (isPlayer_in n_4.1) hmc hmkin) (cwV 1 X.2.2.2.1 gX4_play_X4_right rfl rfl rfl (by decide +kernel) ⟨Nat.le_of_ble_eq_true rfl, Nat.le_of_ble_eq_true rfl⟩) 0 4 rfl rfl wM_g0 rfl rfl (Nat.le_of_ble_eq_true rfl) dX4_play_46 ⟨Nat.le_of_ble_eq_true rfl, Nat.le_of_ble_eq_true rfl⟩ ?_
            refine v_if_eq (tgt := 56) X dX4_play_49 (by decide) (fun c_6 => ?_) (fun c_6 => ?_)
            · refine v_iconst (x := 0) X dX4_play_56 rfl ?_
              exact hJ3 _ (by rw [if_neg c_4, if_neg c_5, if_pos c_6])
            · refine v_iconst (x := 1) X dX4_play_52 rfl ?_
              refine v_goto (tgt := 57) X dX4_play_53 (by decide) ?_
              exact hJ3 _ (by rw [if_neg c_4, if_neg c_5, if_neg c_6])
      · refine v_callVi (As := [.int T_1, .int T_2, .int T_5]) (rest := []) (w' := (wM h cI (s_X4_asked__ S T_1 T_2 T_5))) X (c_X4_asked__ l D cI cII cL h S T_1 T_2 T_5) (cwV 3 X.2.2.2.1 gX4_play_X4_asked__ rfl rfl rfl (by decide +kernel) ⟨Nat.le_of_ble_eq_true rfl, Nat.le_of_ble_eq_true rfl⟩) 0 4 rfl rfl wM_g0 rfl rfl (Nat.le_of_ble_eq_true rfl) dX4_play_57 ⟨Nat.le_of_ble_eq_true rfl, Nat.le_of_ble_eq_true rfl⟩ ?_
        obtain ⟨S_6, eS_6⟩ : ∃ z : St, z = (s_X4_asked__ S T_1 T_2 T_5) := ⟨_, rfl⟩
        refine v_w (congrArg (fun z => (wM h cI z)) eS_6.symm) ?_
        refine v_if_ne (tgt := 65) X dX4_play_60 (by decide) (fun c_7 => ?_) (fun c_7 => ?_)
        · have n_7 := nz_else (fun q => (asked3 c_7).1 (eT_1.trans q))
          have n_8 := nz_else n_7.2
          have n_9 := nz_else (fun q => (asked3 c_7).2.1 (eT_2.trans q))
          have n_10 := nz_else (fun q => (asked3 c_7).2.2 (eT_5.trans q))
          have n_11 := nz_else (fun q => n_10.1 (eT_1.trans q))
          have n_12 := nz_else n_11.2
          have n_13 := nz_else n_10.2
          have n_14 := nz_else n_13.2
          refine v_aload_n X dX4_play_65 rfl ?_
          refine v_iload_n X dX4_play_66 rfl ?_
          refine v_callVi (As := [.int p2]) (rest := []) (w' := (wM h cI S_6)) X (c_X4_strengthOf l D cI cII cL h S_6 p2 (isPlayer_in n_12.1) (cm_of ((congrFun (congrFun eS_6 0) 10).trans (cma_X4_asked__ S T_1 T_2 T_5)) hmc)) (cwV 1 X.2.2.2.1 gX4_play_X4_strengthOf rfl rfl rfl (by decide +kernel) ⟨Nat.le_of_ble_eq_true rfl, Nat.le_of_ble_eq_true rfl⟩) 0 4 rfl rfl wM_g0 rfl rfl (Nat.le_of_ble_eq_true rfl) dX4_play_67 ⟨Nat.le_of_ble_eq_true rfl, Nat.le_of_ble_eq_true rfl⟩ ?_
          refine v_aload_n X dX4_play_70 rfl ?_
          refine v_iload_n X dX4_play_71 rfl ?_
          refine v_callVi (As := [.int p1]) (rest := [.int (r_X4_strengthOf S_6 p2)]) (w' := (wM h cI S_6)) X (c_X4_strengthOf l D cI cII cL h S_6 p1 (isPlayer_in n_11.1) (cm_of ((congrFun (congrFun eS_6 0) 10).trans (cma_X4_asked__ S T_1 T_2 T_5)) hmc)) (cwV 1 X.2.2.2.1 gX4_play_X4_strengthOf rfl rfl rfl (by decide +kernel) ⟨Nat.le_of_ble_eq_true rfl, Nat.le_of_ble_eq_true rfl⟩) 0 4 rfl rfl wM_g0 rfl rfl (Nat.le_of_ble_eq_true rfl) dX4_play_72 ⟨Nat.le_of_ble_eq_true rfl, Nat.le_of_ble_eq_true rfl⟩ ?_
          refine v_icmp_le (tgt := 82) X dX4_play_75 (by decide) (fun c_8 => ?_) (fun c_8 => ?_)
          · refine v_iload_n X dX4_play_82 rfl ?_
            refine v_istore (lv' := [(4, .int p1), (3, .int T_1), (0, .ref (h 0)), (1, .int p1), (2, .int p2)]) X dX4_play_83 (by decide) rfl ?_
            refine v_aload_n X dX4_play_85 rfl ?_
            refine v_getfield (ref := "TrumpvaultModel") (ci := 4) (index := 7) (v := .ref (h 1)) X iX4 0 wM_g0 rfl 1 (by decide) (by decide +kernel) (fun _ h9 => h9) rfl dX4_play_86 ?_
            refine v_iload X dX4_play_89 rfl ?_
            refine v_dup2 X dX4_play_91 rfl rfl ?_
            refine v_iald X 1 0 wM_g1 rfl (isPlayer_in n_11.1) dX4_play_92 ?_
            refine v_iconst (x := 5) X dX4_play_93 rfl ?_
            refine v_iadd X dX4_play_94 ?_
            refine v_iast (w' := (wM h cI (sU S_6 1 p1.toNatClampNeg ((S_6 1 p1.toNatClampNeg) + 5)))) X 1 0 wM_g1 rfl (isPlayer_in n_11.1) dX4_play_95 wM_s1 ?_
            obtain ⟨S_15, eS_15⟩ : ∃ z : St, z = (sU S_6 1 p1.toNatClampNeg ((S_6 1 p1.toNatClampNeg) + 5)) := ⟨_, rfl⟩
            refine v_w (congrArg (fun z => (wM h cI z)) eS_15.symm) ?_
            refine v_iload X dX4_play_96 rfl ?_
            exact v_reti X hr hk rfl (by subst eS_15; subst eS_6; subst eT_5; subst eT_2; subst eT_1; unfold r_X4_play; dsimp only; rw [if_neg c_7, if_pos c_8]) (congrArg (fun z => (wM h cI z)) (by subst eS_15; subst eS_6; subst eT_5; subst eT_2; subst eT_1; unfold s_X4_play; dsimp only; rw [if_neg c_7, if_pos c_8])) (Nat.le_of_ble_eq_true rfl) (Nat.le_of_ble_eq_true rfl) dX4_play_98
          · refine v_iload_n X dX4_play_78 rfl ?_
            refine v_goto (tgt := 83) X dX4_play_79 (by decide) ?_
            refine v_istore (lv' := [(4, .int p2), (3, .int T_1), (0, .ref (h 0)), (1, .int p1), (2, .int p2)]) X dX4_play_83 (by decide) rfl ?_
            refine v_aload_n X dX4_play_85 rfl ?_
            refine v_getfield (ref := "TrumpvaultModel") (ci := 4) (index := 7) (v := .ref (h 1)) X iX4 0 wM_g0 rfl 1 (by decide) (by decide +kernel) (fun _ h9 => h9) rfl dX4_play_86 ?_
            refine v_iload X dX4_play_89 rfl ?_
            refine v_dup2 X dX4_play_91 rfl rfl ?_
            refine v_iald X 1 0 wM_g1 rfl (isPlayer_in n_12.1) dX4_play_92 ?_
            refine v_iconst (x := 5) X dX4_play_93 rfl ?_
            refine v_iadd X dX4_play_94 ?_
            refine v_iast (w' := (wM h cI (sU S_6 1 p2.toNatClampNeg ((S_6 1 p2.toNatClampNeg) + 5)))) X 1 0 wM_g1 rfl (isPlayer_in n_12.1) dX4_play_95 wM_s1 ?_
            obtain ⟨S_16, eS_16⟩ : ∃ z : St, z = (sU S_6 1 p2.toNatClampNeg ((S_6 1 p2.toNatClampNeg) + 5)) := ⟨_, rfl⟩
            refine v_w (congrArg (fun z => (wM h cI z)) eS_16.symm) ?_
            refine v_iload X dX4_play_96 rfl ?_
            exact v_reti X hr hk rfl (by subst eS_16; subst eS_6; subst eT_5; subst eT_2; subst eT_1; unfold r_X4_play; dsimp only; rw [if_neg c_7, if_neg c_8]) (congrArg (fun z => (wM h cI z)) (by subst eS_16; subst eS_6; subst eT_5; subst eT_2; subst eT_1; unfold s_X4_play; dsimp only; rw [if_neg c_7, if_neg c_8])) (Nat.le_of_ble_eq_true rfl) (Nat.le_of_ble_eq_true rfl) dX4_play_98
        · refine v_iconst (x := 0) X dX4_play_63 rfl ?_
          exact v_reti X hr hk rfl (by subst eS_6; subst eT_5; subst eT_2; subst eT_1; unfold r_X4_play; dsimp only; rw [if_pos c_7]) (congrArg (fun z => (wM h cI z)) (by subst eS_6; subst eT_5; subst eT_2; subst eT_1; unfold s_X4_play; dsimp only; rw [if_pos c_7])) (Nat.le_of_ble_eq_true rfl) (Nat.le_of_ble_eq_true rfl) dX4_play_64
