def r_X4_sell (S : St) (p1 p2 : Int32) : Int32 :=
  (let T_1 : Int32 := (if (r_X4_isCard S p1) = 0 then 0 else (if (S 4 p1.toNatClampNeg) = 0 then (if (r_X4_banned S (S 2 p1.toNatClampNeg)) = 0 then 1 else 0) else 0) : Int32); (let S_2 : St := (s_X4_asked__ S (r_X4_isCard S p1) (r_X4_in p2 1 1000) T_1); (if (r_X4_asked__ S (r_X4_isCard S p1) (r_X4_in p2 1 1000) T_1) = 0 then 0 else (let S_6 : St := (sU S_2 0 13 ((S_2 0 13) + 1)); (if (r_X4_bidder S_6 (S_6 2 p1.toNatClampNeg) (S_6 3 p1.toNatClampNeg)) = (-1) then 0 else (if (S_6 11 ((8 * (r_X4_bidder S_6 (S_6 2 p1.toNatClampNeg) (S_6 3 p1.toNatClampNeg))) + (S_6 2 p1.toNatClampNeg)).toNatClampNeg) < p2 then 0 else (S_6 11 ((8 * (r_X4_bidder S_6 (S_6 2 p1.toNatClampNeg) (S_6 3 p1.toNatClampNeg))) + (S_6 2 p1.toNatClampNeg)).toNatClampNeg)))))))
def s_X4_sell (S : St) (p1 p2 : Int32) : St :=
  (let T_1 : Int32 := (if (r_X4_isCard S p1) = 0 then 0 else (if (S 4 p1.toNatClampNeg) = 0 then (if (r_X4_banned S (S 2 p1.toNatClampNeg)) = 0 then 1 else 0) else 0) : Int32); (let S_2 : St := (s_X4_asked__ S (r_X4_isCard S p1) (r_X4_in p2 1 1000) T_1); (if (r_X4_asked__ S (r_X4_isCard S p1) (r_X4_in p2 1 1000) T_1) = 0 then S_2 else (let S_6 : St := (sU S_2 0 13 ((S_2 0 13) + 1)); (if (r_X4_bidder S_6 (S_6 2 p1.toNatClampNeg) (S_6 3 p1.toNatClampNeg)) = (-1) then (let S_13 : St := (sU S_6 4 p1.toNatClampNeg 1); (let S_14 : St := (sU S_13 5 p1.toNatClampNeg p2); (let S_15 : St := (sU S_14 6 p1.toNatClampNeg (S_14 0 13)); S_15))) else (if (S_6 11 ((8 * (r_X4_bidder S_6 (S_6 2 p1.toNatClampNeg) (S_6 3 p1.toNatClampNeg))) + (S_6 2 p1.toNatClampNeg)).toNatClampNeg) < p2 then (let S_7 : St := (sU S_6 4 p1.toNatClampNeg 1); (let S_8 : St := (sU S_7 5 p1.toNatClampNeg p2); (let S_9 : St := (sU S_8 6 p1.toNatClampNeg (S_8 0 13)); S_9))) else (let S_10 : St := (sU S_6 1 (S_6 3 p1.toNatClampNeg).toNatClampNeg ((S_6 1 (S_6 3 p1.toNatClampNeg).toNatClampNeg) + (S_6 11 ((8 * (r_X4_bidder S_6 (S_6 2 p1.toNatClampNeg) (S_6 3 p1.toNatClampNeg))) + (S_6 2 p1.toNatClampNeg)).toNatClampNeg))); (let S_11 : St := (sU S_10 3 p1.toNatClampNeg (r_X4_bidder S_6 (S_6 2 p1.toNatClampNeg) (S_6 3 p1.toNatClampNeg))); (let S_12 : St := (sU S_11 11 ((8 * (r_X4_bidder S_6 (S_6 2 p1.toNatClampNeg) (S_6 3 p1.toNatClampNeg))) + (S_6 2 p1.toNatClampNeg)).toNatClampNeg 0); S_12)))))))))
set_option maxHeartbeats 1000000 in
set_option maxRecDepth 100000 in
theorem c_X4_sell (l : Launch) (D : va_G) (cI cII cL : ClassId) (h : Nat → Nat) (S : St) (p1 p2 : Int32) (hmc : cntM S) (hmkin : ∀ j, vp_in (S 2 j) 8) (hmown : ∀ j, vp_in (S 3 j) 5) : v_Mi l D vwCl (tyl cI cII cL) yX4_sell wsX4_sell { frames := 2, cells := 0, slots := 0, locals := 43 } [.ref (h 0), .int p1, .int p2] (wM h cI S) (r_X4_sell S p1 p2) (wM h cI (s_X4_sell S p1 p2)) := by
  refine v_ofMi (cc := cX4_sell) (maxL := 7) (ret := (some .int)) (own := RX4) (lv0 := [(0, .ref (h 0)), (1, .int p1), (2, .int p2)]) (by decide) rfl rfl rfl (Nat.le_of_ble_eq_true rfl) ?_
  intro p e s m below meth c X hr hk hin
  have iX4 : ∀ w ∈ wsX40, w ∈ wsX4_sell := by decide +kernel
  refine v_aload_n X dX4_sell_0 rfl ?_
  refine v_iload_n X dX4_sell_1 rfl ?_
  refine v_callVi (As := [.int p1]) (rest := []) (w' := (wM h cI S)) X (c_X4_isCard l D cI cII cL h S p1) (cwV 1 X.2.2.2.1 gX4_sell_X4_isCard rfl rfl rfl (by decide +kernel) ⟨Nat.le_of_ble_eq_true rfl, Nat.le_of_ble_eq_true rfl⟩) 0 4 rfl rfl wM_g0 rfl rfl (Nat.le_of_ble_eq_true rfl) dX4_sell_2 ⟨Nat.le_of_ble_eq_true rfl, Nat.le_of_ble_eq_true rfl⟩ ?_
  refine v_istore_n (lv' := [(3, .int (r_X4_isCard S p1)), (0, .ref (h 0)), (1, .int p1), (2, .int p2)]) X dX4_sell_5 (by decide) rfl ?_
  refine v_aload_n X dX4_sell_6 rfl ?_
  refine v_iload_n X dX4_sell_7 rfl ?_
  refine v_iload_n X dX4_sell_8 rfl ?_
  refine v_iconst (x := 1) X dX4_sell_9 rfl ?_
  refine v_sipush (x := 1000) X dX4_sell_10 rfl ?_
  refine v_callSi0 (As := [.int p2, .int 1, .int 1000]) (rest := [.int (r_X4_isCard S p1), .ref (h 0)]) X (c_X4_in l D cI cII cL p2 1 1000) (cwS 3 X.2.2.2.1 gX4_sell_X4_in rfl rfl rfl (by decide +kernel) ⟨Nat.le_of_ble_eq_true rfl, Nat.le_of_ble_eq_true rfl⟩) rfl rfl (Nat.le_of_ble_eq_true rfl) dX4_sell_13 ⟨Nat.le_of_ble_eq_true rfl, Nat.le_of_ble_eq_true rfl⟩ ?_
  refine v_iload_n X dX4_sell_16 rfl ?_
  refine v_mrgn (T := (if (r_X4_isCard S p1) = 0 then 0 else (if (S 4 p1.toNatClampNeg) = 0 then (if (r_X4_banned S (S 2 p1.toNatClampNeg)) = 0 then 1 else 0) else 0) : Int32)) 47 [.int (r_X4_in p2 1 1000), .int (r_X4_isCard S p1), .ref (h 0)] (fun hJ1 => ?_) (fun T_1 eT_1 => ?_)
  · refine v_if_eq (tgt := 46) X dX4_sell_17 (by decide) (fun c_1 => ?_) (fun c_1 => ?_)
    · refine v_iconst (x := 0) X dX4_sell_46 rfl ?_
      exact hJ1 _ (by rw [if_pos c_1])
    · refine v_aload_n X dX4_sell_20 rfl ?_
      refine v_getfield (ref := "TrumpvaultModel") (ci := 4) (index := 19) (v := .ref (h 4)) X iX4 0 wM_g0 rfl 4 (by decide) (by decide +kernel) (fun _ h9 => h9) rfl dX4_sell_21 ?_
      refine v_iload_n X dX4_sell_24 rfl ?_
      refine v_iald X 4 0 wM_g4 rfl (isCard_in hmc c_1) dX4_sell_25 ?_
      refine v_if_ne (tgt := 46) X dX4_sell_26 (by decide) (fun c_2 => ?_) (fun c_2 => ?_)
      · refine v_iconst (x := 0) X dX4_sell_46 rfl ?_
        exact hJ1 _ (by rw [if_neg c_1, if_neg c_2])
      · refine v_aload_n X dX4_sell_29 rfl ?_
        refine v_aload_n X dX4_sell_30 rfl ?_
        refine v_getfield (ref := "TrumpvaultModel") (ci := 4) (index := 13) (v := .ref (h 2)) X iX4 0 wM_g0 rfl 2 (by decide) (by decide +kernel) (fun _ h9 => h9) rfl dX4_sell_31 ?_
        refine v_iload_n X dX4_sell_34 rfl ?_
        refine v_iald X 2 0 wM_g2 rfl (isCard_in hmc c_1) dX4_sell_35 ?_
        refine v_callVi (As := [.int (S 2 p1.toNatClampNeg)]) (rest := [.int (r_X4_in p2 1 1000), .int (r_X4_isCard S p1), .ref (h 0)]) (w' := (wM h cI S)) X (c_X4_banned l D cI cII cL h S (S 2 p1.toNatClampNeg) (hmkin _)) (cwV 1 X.2.2.2.1 gX4_sell_X4_banned rfl rfl rfl (by decide +kernel) ⟨Nat.le_of_ble_eq_true rfl, Nat.le_of_ble_eq_true rfl⟩) 0 4 rfl rfl wM_g0 rfl rfl (Nat.le_of_ble_eq_true rfl) dX4_sell_36 ⟨Nat.le_of_ble_eq_true rfl, Nat.le_of_ble_eq_true rfl⟩ ?_
        refine v_if_ne (tgt := 46) X dX4_sell_39 (by decide) (fun c_3 => ?_) (fun c_3 => ?_)
        · refine v_iconst (x := 0) X dX4_sell_46 rfl ?_
          exact hJ1 _ (by rw [if_neg c_1, if_pos c_2, if_neg c_3])
        · refine v_iconst (x := 1) X dX4_sell_42 rfl ?_
          refine v_goto (tgt := 47) X dX4_sell_43 (by decide) ?_
          exact hJ1 _ (by rw [if_neg c_1, if_pos c_2, if_pos c_3])
  · refine v_callVi (As := [.int (r_X4_isCard S p1), .int (r_X4_in p2 1 1000), .int T_1]) (rest := []) (w' := (wM h cI (s_X4_asked__ S (r_X4_isCard S p1) (r_X4_in p2 1 1000) T_1))) X (c_X4_asked__ l D cI cII cL h S (r_X4_isCard S p1) (r_X4_in p2 1 1000) T_1) (cwV 3 X.2.2.2.1 gX4_sell_X4_asked__ rfl rfl rfl (by decide +kernel) ⟨Nat.le_of_ble_eq_true rfl, Nat.le_of_ble_eq_true rfl⟩) 0 4 rfl rfl wM_g0 rfl rfl (Nat.le_of_ble_eq_true rfl) dX4_sell_47 ⟨Nat.le_of_ble_eq_true rfl, Nat.le_of_ble_eq_true rfl⟩ ?_
    obtain ⟨S_2, eS_2⟩ : ∃ z : St, z = (s_X4_asked__ S (r_X4_isCard S p1) (r_X4_in p2 1 1000) T_1) := ⟨_, rfl⟩
    refine v_w (congrArg (fun z => (wM h cI z)) eS_2.symm) ?_
    refine v_if_ne (tgt := 55) X dX4_sell_50 (by decide) (fun c_4 => ?_) (fun c_4 => ?_)
    · have n_3 := nz_else (fun q => (asked3 c_4).2.2 (eT_1.trans q))
      have n_4 := nz_then n_3.2
      have n_5 := nz_then n_4.2
      refine v_aload_n X dX4_sell_55 rfl ?_
      refine v_dup X dX4_sell_56 rfl ?_
      refine v_getfield (ref := "TrumpvaultModel") (ci := 4) (index := 93) (v := .int (S_2 0 13)) X iX4 0 wM_g0 rfl 13 (by decide) (by decide +kernel) (fun _ h9 => h9) rfl dX4_sell_57 ?_
      refine v_iconst (x := 1) X dX4_sell_60 rfl ?_
      refine v_iadd X dX4_sell_61 ?_
      refine v_putfield (w' := (wM h cI (sU S_2 0 13 ((S_2 0 13) + 1)))) (ref := "TrumpvaultModel") (ci := 4) (index := 93) (ty := .int) X iX4 tyX4 tyX4_ok nmX4 0 wM_g0 rfl 13 (by decide) (by decide +kernel) (fun _ h9 => h9) rfl (by decide +kernel) rfl rfl (Nat.le_of_ble_eq_true rfl) dX4_sell_62 wM_f0_13 ?_
      obtain ⟨S_6, eS_6⟩ : ∃ z : St, z = (sU S_2 0 13 ((S_2 0 13) + 1)) := ⟨_, rfl⟩
      refine v_w (congrArg (fun z => (wM h cI z)) eS_6.symm) ?_
      refine v_aload_n X dX4_sell_65 rfl ?_
      refine v_aload_n X dX4_sell_66 rfl ?_
      refine v_getfield (ref := "TrumpvaultModel") (ci := 4) (index := 13) (v := .ref (h 2)) X iX4 0 wM_g0 rfl 2 (by decide) (by decide +kernel) (fun _ h9 => h9) rfl dX4_sell_67 ?_
      refine v_iload_n X dX4_sell_70 rfl ?_
      refine v_iald X 2 0 wM_g2 rfl (isCard_in hmc n_3.1) dX4_sell_71 ?_
      refine v_aload_n X dX4_sell_72 rfl ?_
      refine v_getfield (ref := "TrumpvaultModel") (ci := 4) (index := 16) (v := .ref (h 3)) X iX4 0 wM_g0 rfl 3 (by decide) (by decide +kernel) (fun _ h9 => h9) rfl dX4_sell_73 ?_
      refine v_iload_n X dX4_sell_76 rfl ?_
      refine v_iald X 3 0 wM_g3 rfl (isCard_in hmc n_3.1) dX4_sell_77 ?_
      refine v_callVi (As := [.int (S_6 2 p1.toNatClampNeg), .int (S_6 3 p1.toNatClampNeg)]) (rest := []) (w' := (wM h cI S_6)) X (c_X4_bidder l D cI cII cL h S_6 (S_6 2 p1.toNatClampNeg) (S_6 3 p1.toNatClampNeg) (own_of ((congrFun eS_6 2).trans ((sU_ne (by decide)).trans ((congrFun eS_2 2).trans (fr_X4_asked__ S (r_X4_isCard S p1) (r_X4_in p2 1 1000) T_1 2 (by decide))))) hmkin _)) (cwV 2 X.2.2.2.1 gX4_sell_X4_bidder rfl rfl rfl (by decide +kernel) ⟨Nat.le_of_ble_eq_true rfl, Nat.le_of_ble_eq_true rfl⟩) 0 4 rfl rfl wM_g0 rfl rfl (Nat.le_of_ble_eq_true rfl) dX4_sell_78 ⟨Nat.le_of_ble_eq_true rfl, Nat.le_of_ble_eq_true rfl⟩ ?_
      refine v_istore (lv' := [(4, .int (r_X4_bidder S_6 (S_6 2 p1.toNatClampNeg) (S_6 3 p1.toNatClampNeg))), (3, .int (r_X4_isCard S p1)), (0, .ref (h 0)), (1, .int p1), (2, .int p2)]) X dX4_sell_81 (by decide) rfl ?_
      refine v_iload X dX4_sell_83 rfl ?_
      refine v_iconst (x := (-1)) X dX4_sell_85 rfl ?_
      refine v_icmp_ne (tgt := 93) X dX4_sell_86 (by decide) (fun c_5 => ?_) (fun c_5 => ?_)
      · refine v_bipush (x := 8) X dX4_sell_93 rfl ?_
        refine v_iload X dX4_sell_95 rfl ?_
        refine v_imul X dX4_sell_97 ?_
        refine v_aload_n X dX4_sell_98 rfl ?_
        refine v_getfield (ref := "TrumpvaultModel") (ci := 4) (index := 13) (v := .ref (h 2)) X iX4 0 wM_g0 rfl 2 (by decide) (by decide +kernel) (fun _ h9 => h9) rfl dX4_sell_99 ?_
        refine v_iload_n X dX4_sell_102 rfl ?_
        refine v_iald X 2 0 wM_g2 rfl (isCard_in hmc n_3.1) dX4_sell_103 ?_
        refine v_iadd X dX4_sell_104 ?_
        refine v_istore (lv' := [(5, .int ((8 * (r_X4_bidder S_6 (S_6 2 p1.toNatClampNeg) (S_6 3 p1.toNatClampNeg))) + (S_6 2 p1.toNatClampNeg))), (4, .int (r_X4_bidder S_6 (S_6 2 p1.toNatClampNeg) (S_6 3 p1.toNatClampNeg))), (3, .int (r_X4_isCard S p1)), (0, .ref (h 0)), (1, .int p1), (2, .int p2)]) X dX4_sell_105 (by decide) rfl ?_
        refine v_iload X dX4_sell_107 rfl ?_
        refine v_iconst (x := (-1)) X dX4_sell_109 rfl ?_
        refine v_icmp_eq (tgt := 168) X dX4_sell_110 (by decide) (fun c_6 => ?_) (fun c_6 => ?_)
        · exact absurd c_6 c_5
        · refine v_aload_n X dX4_sell_113 rfl ?_
          refine v_getfield (ref := "TrumpvaultModel") (ci := 4) (index := 37) (v := .ref (h 11)) X iX4 0 wM_g0 rfl 11 (by decide) (by decide +kernel) (fun _ h9 => h9) rfl dX4_sell_114 ?_
          refine v_iload X dX4_sell_117 rfl ?_
          refine v_iald X 10 0 wM_g11 rfl (vp_8 ((rngr_X4_bidder _ _ _).resolve_left c_5) (own_of ((congrFun eS_6 2).trans ((sU_ne (by decide)).trans ((congrFun eS_2 2).trans (fr_X4_asked__ S (r_X4_isCard S p1) (r_X4_in p2 1 1000) T_1 2 (by decide))))) hmkin _)) dX4_sell_119 ?_
          refine v_iload_n X dX4_sell_120 rfl ?_
          refine v_icmp_lt (tgt := 168) X dX4_sell_121 (by decide) (fun c_7 => ?_) (fun c_7 => ?_)
          · refine v_aload_n X dX4_sell_168 rfl ?_
            refine v_getfield (ref := "TrumpvaultModel") (ci := 4) (index := 19) (v := .ref (h 4)) X iX4 0 wM_g0 rfl 4 (by decide) (by decide +kernel) (fun _ h9 => h9) rfl dX4_sell_169 ?_
            refine v_iload_n X dX4_sell_172 rfl ?_
            refine v_iconst (x := 1) X dX4_sell_173 rfl ?_
            refine v_iast (w' := (wM h cI (sU S_6 4 p1.toNatClampNeg 1))) X 4 0 wM_g4 rfl (isCard_in hmc n_3.1) dX4_sell_174 wM_s4 ?_
            obtain ⟨S_7, eS_7⟩ : ∃ z : St, z = (sU S_6 4 p1.toNatClampNeg 1) := ⟨_, rfl⟩
            refine v_w (congrArg (fun z => (wM h cI z)) eS_7.symm) ?_
            refine v_aload_n X dX4_sell_175 rfl ?_
            refine v_getfield (ref := "TrumpvaultModel") (ci := 4) (index := 22) (v := .ref (h 5)) X iX4 0 wM_g0 rfl 5 (by decide) (by decide +kernel) (fun _ h9 => h9) rfl dX4_sell_176 ?_
            refine v_iload_n X dX4_sell_179 rfl ?_
            refine v_iload_n X dX4_sell_180 rfl ?_
            refine v_iast (w' := (wM h cI (sU S_7 5 p1.toNatClampNeg p2))) X 5 0 wM_g5 rfl (isCard_in hmc n_3.1) dX4_sell_181 wM_s5 ?_
            obtain ⟨S_8, eS_8⟩ : ∃ z : St, z = (sU S_7 5 p1.toNatClampNeg p2) := ⟨_, rfl⟩
            refine v_w (congrArg (fun z => (wM h cI z)) eS_8.symm) ?_
            refine v_aload_n X dX4_sell_182 rfl ?_
            refine v_getfield (ref := "TrumpvaultModel") (ci := 4) (index := 25) (v := .ref (h 6)) X iX4 0 wM_g0 rfl 6 (by decide) (by decide +kernel) (fun _ h9 => h9) rfl dX4_sell_183 ?_
            refine v_iload_n X dX4_sell_186 rfl ?_
            refine v_aload_n X dX4_sell_187 rfl ?_
            refine v_getfield (ref := "TrumpvaultModel") (ci := 4) (index := 93) (v := .int (S_8 0 13)) X iX4 0 wM_g0 rfl 13 (by decide) (by decide +kernel) (fun _ h9 => h9) rfl dX4_sell_188 ?_
            refine v_iast (w' := (wM h cI (sU S_8 6 p1.toNatClampNeg (S_8 0 13)))) X 6 0 wM_g6 rfl (isCard_in hmc n_3.1) dX4_sell_191 wM_s6 ?_
            obtain ⟨S_9, eS_9⟩ : ∃ z : St, z = (sU S_8 6 p1.toNatClampNeg (S_8 0 13)) := ⟨_, rfl⟩
            refine v_w (congrArg (fun z => (wM h cI z)) eS_9.symm) ?_
            refine v_iconst (x := 0) X dX4_sell_192 rfl ?_
            exact v_reti X hr hk rfl (by subst eS_9; subst eS_8; subst eS_7; subst eS_6; subst eS_2; subst eT_1; unfold r_X4_sell; dsimp only; rw [if_neg c_4, if_neg c_5, if_pos c_7]) (congrArg (fun z => (wM h cI z)) (by subst eS_9; subst eS_8; subst eS_7; subst eS_6; subst eS_2; subst eT_1; unfold s_X4_sell; dsimp only; rw [if_neg c_4, if_neg c_5, if_pos c_7])) (Nat.le_of_ble_eq_true rfl) (Nat.le_of_ble_eq_true rfl) dX4_sell_193
          · refine v_aload_n X dX4_sell_124 rfl ?_
            refine v_getfield (ref := "TrumpvaultModel") (ci := 4) (index := 37) (v := .ref (h 11)) X iX4 0 wM_g0 rfl 11 (by decide) (by decide +kernel) (fun _ h9 => h9) rfl dX4_sell_125 ?_
            refine v_iload X dX4_sell_128 rfl ?_
            refine v_iald X 10 0 wM_g11 rfl (vp_8 ((rngr_X4_bidder _ _ _).resolve_left c_5) (own_of ((congrFun eS_6 2).trans ((sU_ne (by decide)).trans ((congrFun eS_2 2).trans (fr_X4_asked__ S (r_X4_isCard S p1) (r_X4_in p2 1 1000) T_1 2 (by decide))))) hmkin _)) dX4_sell_130 ?_
            refine v_istore (lv' := [(6, .int (S_6 11 ((8 * (r_X4_bidder S_6 (S_6 2 p1.toNatClampNeg) (S_6 3 p1.toNatClampNeg))) + (S_6 2 p1.toNatClampNeg)).toNatClampNeg)), (5, .int ((8 * (r_X4_bidder S_6 (S_6 2 p1.toNatClampNeg) (S_6 3 p1.toNatClampNeg))) + (S_6 2 p1.toNatClampNeg))), (4, .int (r_X4_bidder S_6 (S_6 2 p1.toNatClampNeg) (S_6 3 p1.toNatClampNeg))), (3, .int (r_X4_isCard S p1)), (0, .ref (h 0)), (1, .int p1), (2, .int p2)]) X dX4_sell_131 (by decide) rfl ?_
            refine v_aload_n X dX4_sell_133 rfl ?_
            refine v_getfield (ref := "TrumpvaultModel") (ci := 4) (index := 7) (v := .ref (h 1)) X iX4 0 wM_g0 rfl 1 (by decide) (by decide +kernel) (fun _ h9 => h9) rfl dX4_sell_134 ?_
            refine v_aload_n X dX4_sell_137 rfl ?_
            refine v_getfield (ref := "TrumpvaultModel") (ci := 4) (index := 16) (v := .ref (h 3)) X iX4 0 wM_g0 rfl 3 (by decide) (by decide +kernel) (fun _ h9 => h9) rfl dX4_sell_138 ?_
            refine v_iload_n X dX4_sell_141 rfl ?_
            refine v_iald X 3 0 wM_g3 rfl (isCard_in hmc n_3.1) dX4_sell_142 ?_
            refine v_dup2 X dX4_sell_143 rfl rfl ?_
            refine v_iald X 1 0 wM_g1 rfl (own_of ((congrFun eS_6 3).trans ((sU_ne (by decide)).trans ((congrFun eS_2 3).trans (fr_X4_asked__ S (r_X4_isCard S p1) (r_X4_in p2 1 1000) T_1 3 (by decide))))) hmown _) dX4_sell_144 ?_
            refine v_iload X dX4_sell_145 rfl ?_
            refine v_iadd X dX4_sell_147 ?_
            refine v_iast (w' := (wM h cI (sU S_6 1 (S_6 3 p1.toNatClampNeg).toNatClampNeg ((S_6 1 (S_6 3 p1.toNatClampNeg).toNatClampNeg) + (S_6 11 ((8 * (r_X4_bidder S_6 (S_6 2 p1.toNatClampNeg) (S_6 3 p1.toNatClampNeg))) + (S_6 2 p1.toNatClampNeg)).toNatClampNeg))))) X 1 0 wM_g1 rfl (own_of ((congrFun eS_6 3).trans ((sU_ne (by decide)).trans ((congrFun eS_2 3).trans (fr_X4_asked__ S (r_X4_isCard S p1) (r_X4_in p2 1 1000) T_1 3 (by decide))))) hmown _) dX4_sell_148 wM_s1 ?_
            obtain ⟨S_10, eS_10⟩ : ∃ z : St, z = (sU S_6 1 (S_6 3 p1.toNatClampNeg).toNatClampNeg ((S_6 1 (S_6 3 p1.toNatClampNeg).toNatClampNeg) + (S_6 11 ((8 * (r_X4_bidder S_6 (S_6 2 p1.toNatClampNeg) (S_6 3 p1.toNatClampNeg))) + (S_6 2 p1.toNatClampNeg)).toNatClampNeg))) := ⟨_, rfl⟩
            refine v_w (congrArg (fun z => (wM h cI z)) eS_10.symm) ?_
            refine v_aload_n X dX4_sell_149 rfl ?_
            refine v_getfield (ref := "TrumpvaultModel") (ci := 4) (index := 16) (v := .ref (h 3)) X iX4 0 wM_g0 rfl 3 (by decide) (by decide +kernel) (fun _ h9 => h9) rfl dX4_sell_150 ?_
            refine v_iload_n X dX4_sell_153 rfl ?_
            refine v_iload X dX4_sell_154 rfl ?_
            refine v_iast (w' := (wM h cI (sU S_10 3 p1.toNatClampNeg (r_X4_bidder S_6 (S_6 2 p1.toNatClampNeg) (S_6 3 p1.toNatClampNeg))))) X 3 0 wM_g3 rfl (isCard_in hmc n_3.1) dX4_sell_156 wM_s3 ?_
            obtain ⟨S_11, eS_11⟩ : ∃ z : St, z = (sU S_10 3 p1.toNatClampNeg (r_X4_bidder S_6 (S_6 2 p1.toNatClampNeg) (S_6 3 p1.toNatClampNeg))) := ⟨_, rfl⟩
            refine v_w (congrArg (fun z => (wM h cI z)) eS_11.symm) ?_
            refine v_aload_n X dX4_sell_157 rfl ?_
            refine v_getfield (ref := "TrumpvaultModel") (ci := 4) (index := 37) (v := .ref (h 11)) X iX4 0 wM_g0 rfl 11 (by decide) (by decide +kernel) (fun _ h9 => h9) rfl dX4_sell_158 ?_
            refine v_iload X dX4_sell_161 rfl ?_
            refine v_iconst (x := 0) X dX4_sell_163 rfl ?_
            refine v_iast (w' := (wM h cI (sU S_11 11 ((8 * (r_X4_bidder S_6 (S_6 2 p1.toNatClampNeg) (S_6 3 p1.toNatClampNeg))) + (S_6 2 p1.toNatClampNeg)).toNatClampNeg 0))) X 10 0 wM_g11 rfl (vp_8 ((rngr_X4_bidder _ _ _).resolve_left c_5) (own_of ((congrFun eS_6 2).trans ((sU_ne (by decide)).trans ((congrFun eS_2 2).trans (fr_X4_asked__ S (r_X4_isCard S p1) (r_X4_in p2 1 1000) T_1 2 (by decide))))) hmkin _)) dX4_sell_164 wM_s11 ?_
            obtain ⟨S_12, eS_12⟩ : ∃ z : St, z = (sU S_11 11 ((8 * (r_X4_bidder S_6 (S_6 2 p1.toNatClampNeg) (S_6 3 p1.toNatClampNeg))) + (S_6 2 p1.toNatClampNeg)).toNatClampNeg 0) := ⟨_, rfl⟩
            refine v_w (congrArg (fun z => (wM h cI z)) eS_12.symm) ?_
            refine v_iload X dX4_sell_165 rfl ?_
            exact v_reti X hr hk rfl (by subst eS_12; subst eS_11; subst eS_10; subst eS_6; subst eS_2; subst eT_1; unfold r_X4_sell; dsimp only; rw [if_neg c_4, if_neg c_5, if_neg c_7]) (congrArg (fun z => (wM h cI z)) (by subst eS_12; subst eS_11; subst eS_10; subst eS_6; subst eS_2; subst eT_1; unfold s_X4_sell; dsimp only; rw [if_neg c_4, if_neg c_5, if_neg c_7])) (Nat.le_of_ble_eq_true rfl) (Nat.le_of_ble_eq_true rfl) dX4_sell_167
      · refine v_iconst (x := 0) X dX4_sell_89 rfl ?_
        refine v_goto (tgt := 105) X dX4_sell_90 (by decide) ?_
        refine v_istore (lv' := [(5, .int 0), (4, .int (r_X4_bidder S_6 (S_6 2 p1.toNatClampNeg) (S_6 3 p1.toNatClampNeg))), (3, .int (r_X4_isCard S p1)), (0, .ref (h 0)), (1, .int p1), (2, .int p2)]) X dX4_sell_105 (by decide) rfl ?_
        refine v_iload X dX4_sell_107 rfl ?_
        refine v_iconst (x := (-1)) X dX4_sell_109 rfl ?_
        refine v_icmp_eq (tgt := 168) X dX4_sell_110 (by decide) (fun c_8 => ?_) (fun c_8 => ?_)
        · refine v_aload_n X dX4_sell_168 rfl ?_
          refine v_getfield (ref := "TrumpvaultModel") (ci := 4) (index := 19) (v := .ref (h 4)) X iX4 0 wM_g0 rfl 4 (by decide) (by decide +kernel) (fun _ h9 => h9) rfl dX4_sell_169 ?_
          refine v_iload_n X dX4_sell_172 rfl ?_
          refine v_iconst (x := 1) X dX4_sell_173 rfl ?_
          refine v_iast (w' := (wM h cI (sU S_6 4 p1.toNatClampNeg 1))) X 4 0 wM_g4 rfl (isCard_in hmc n_3.1) dX4_sell_174 wM_s4 ?_
          obtain ⟨S_13, eS_13⟩ : ∃ z : St, z = (sU S_6 4 p1.toNatClampNeg 1) := ⟨_, rfl⟩
          refine v_w (congrArg (fun z => (wM h cI z)) eS_13.symm) ?_
          refine v_aload_n X dX4_sell_175 rfl ?_
          refine v_getfield (ref := "TrumpvaultModel") (ci := 4) (index := 22) (v := .ref (h 5)) X iX4 0 wM_g0 rfl 5 (by decide) (by decide +kernel) (fun _ h9 => h9) rfl dX4_sell_176 ?_
          refine v_iload_n X dX4_sell_179 rfl ?_
          refine v_iload_n X dX4_sell_180 rfl ?_
          refine v_iast (w' := (wM h cI (sU S_13 5 p1.toNatClampNeg p2))) X 5 0 wM_g5 rfl (isCard_in hmc n_3.1) dX4_sell_181 wM_s5 ?_
          obtain ⟨S_14, eS_14⟩ : ∃ z : St, z = (sU S_13 5 p1.toNatClampNeg p2) := ⟨_, rfl⟩
          refine v_w (congrArg (fun z => (wM h cI z)) eS_14.symm) ?_
          refine v_aload_n X dX4_sell_182 rfl ?_
          refine v_getfield (ref := "TrumpvaultModel") (ci := 4) (index := 25) (v := .ref (h 6)) X iX4 0 wM_g0 rfl 6 (by decide) (by decide +kernel) (fun _ h9 => h9) rfl dX4_sell_183 ?_
          refine v_iload_n X dX4_sell_186 rfl ?_
          refine v_aload_n X dX4_sell_187 rfl ?_
          refine v_getfield (ref := "TrumpvaultModel") (ci := 4) (index := 93) (v := .int (S_14 0 13)) X iX4 0 wM_g0 rfl 13 (by decide) (by decide +kernel) (fun _ h9 => h9) rfl dX4_sell_188 ?_
          refine v_iast (w' := (wM h cI (sU S_14 6 p1.toNatClampNeg (S_14 0 13)))) X 6 0 wM_g6 rfl (isCard_in hmc n_3.1) dX4_sell_191 wM_s6 ?_
          obtain ⟨S_15, eS_15⟩ : ∃ z : St, z = (sU S_14 6 p1.toNatClampNeg (S_14 0 13)) := ⟨_, rfl⟩
          refine v_w (congrArg (fun z => (wM h cI z)) eS_15.symm) ?_
          refine v_iconst (x := 0) X dX4_sell_192 rfl ?_
          exact v_reti X hr hk rfl (by subst eS_15; subst eS_14; subst eS_13; subst eS_6; subst eS_2; subst eT_1; unfold r_X4_sell; dsimp only; rw [if_neg c_4, if_pos c_5]) (congrArg (fun z => (wM h cI z)) (by subst eS_15; subst eS_14; subst eS_13; subst eS_6; subst eS_2; subst eT_1; unfold s_X4_sell; dsimp only; rw [if_neg c_4, if_pos c_5])) (Nat.le_of_ble_eq_true rfl) (Nat.le_of_ble_eq_true rfl) dX4_sell_193
        · exact absurd c_5 c_8
    · refine v_iconst (x := 0) X dX4_sell_53 rfl ?_
      exact v_reti X hr hk rfl (by subst eS_2; subst eT_1; unfold r_X4_sell; dsimp only; rw [if_pos c_4]) (congrArg (fun z => (wM h cI z)) (by subst eS_2; subst eT_1; unfold s_X4_sell; dsimp only; rw [if_pos c_4])) (Nat.le_of_ble_eq_true rfl) (Nat.le_of_ble_eq_true rfl) dX4_sell_54

def r_X4_bid (S : St) (p1 p2 p3 : Int32) : Int32 :=
  (let T_1 : Int32 := (if (r_X4_isPlayer p1) = 0 then 0 else (if (r_X4_isKind p2) = 0 then 0 else 1) : Int32); (let T_4 : Int32 := (if T_1 = 0 then 0 else (if (S 1 p1.toNatClampNeg) < p3 then 0 else (if (S 11 ((8 * p1) + p2).toNatClampNeg) = 0 then (if (r_X4_banned S p2) = 0 then 1 else 0) else 0)) : Int32); (let S_5 : St := (s_X4_asked__ S T_1 (r_X4_in p3 1 1000) T_4); (if (r_X4_asked__ S T_1 (r_X4_in p3 1 1000) T_4) = 0 then 0 else (let S_14 : St := (sU S_5 0 13 ((S_5 0 13) + 1)); (if (r_X4_offer S_14 p2 p1) = (-1) then (-1) else (if p3 < (S_14 5 (r_X4_offer S_14 p2 p1).toNatClampNeg) then (-1) else (r_X4_offer S_14 p2 p1))))))))
def s_X4_bid (S : St) (p1 p2 p3 : Int32) : St :=
  (let T_1 : Int32 := (if (r_X4_isPlayer p1) = 0 then 0 else (if (r_X4_isKind p2) = 0 then 0 else 1) : Int32); (let T_4 : Int32 := (if T_1 = 0 then 0 else (if (S 1 p1.toNatClampNeg) < p3 then 0 else (if (S 11 ((8 * p1) + p2).toNatClampNeg) = 0 then (if (r_X4_banned S p2) = 0 then 1 else 0) else 0)) : Int32); (let S_5 : St := (s_X4_asked__ S T_1 (r_X4_in p3 1 1000) T_4); (if (r_X4_asked__ S T_1 (r_X4_in p3 1 1000) T_4) = 0 then S_5 else (let S_14 : St := (sU S_5 0 13 ((S_5 0 13) + 1)); (if (r_X4_offer S_14 p2 p1) = (-1) then (let S_15 : St := (sU S_14 1 p1.toNatClampNeg ((S_14 1 p1.toNatClampNeg) - p3)); (let S_16 : St := (sU S_15 11 ((8 * p1) + p2).toNatClampNeg p3); (let S_17 : St := (sU S_16 12 ((8 * p1) + p2).toNatClampNeg (S_16 0 13)); S_17))) else (if p3 < (S_14 5 (r_X4_offer S_14 p2 p1).toNatClampNeg) then (let S_18 : St := (sU S_14 1 p1.toNatClampNeg ((S_14 1 p1.toNatClampNeg) - p3)); (let S_19 : St := (sU S_18 11 ((8 * p1) + p2).toNatClampNeg p3); (let S_20 : St := (sU S_19 12 ((8 * p1) + p2).toNatClampNeg (S_19 0 13)); S_20))) else (let S_21 : St := (sU S_14 1 p1.toNatClampNeg ((S_14 1 p1.toNatClampNeg) - (S_14 5 (r_X4_offer S_14 p2 p1).toNatClampNeg))); (let S_22 : St := (sU S_21 1 (S_21 3 (r_X4_offer S_14 p2 p1).toNatClampNeg).toNatClampNeg ((S_21 1 (S_21 3 (r_X4_offer S_14 p2 p1).toNatClampNeg).toNatClampNeg) + (S_21 5 (r_X4_offer S_14 p2 p1).toNatClampNeg))); (let S_23 : St := (sU S_22 3 (r_X4_offer S_14 p2 p1).toNatClampNeg p1); (let S_24 : St := (sU S_23 4 (r_X4_offer S_14 p2 p1).toNatClampNeg 0); S_24)))))))))))
set_option maxHeartbeats 1000000 in
set_option maxRecDepth 100000 in
theorem c_X4_bid (l : Launch) (D : va_G) (cI cII cL : ClassId) (h : Nat → Nat) (S : St) (p1 p2 p3 : Int32) (hmc : cntM S) (hmown : ∀ j, vp_in (S 3 j) 5) : v_Mi l D vwCl (tyl cI cII cL) yX4_bid wsX4_bid { frames := 2, cells := 0, slots := 0, locals := 42 } [.ref (h 0), .int p1, .int p2, .int p3] (wM h cI S) (r_X4_bid S p1 p2 p3) (wM h cI (s_X4_bid S p1 p2 p3)) := by
  refine v_ofMi (cc := cX4_bid) (maxL := 6) (ret := (some .int)) (own := RX4) (lv0 := [(0, .ref (h 0)), (1, .int p1), (2, .int p2), (3, .int p3)]) (by decide) rfl rfl rfl (Nat.le_of_ble_eq_true rfl) ?_
  intro p e s m below meth c X hr hk hin
  have iX4 : ∀ w ∈ wsX40, w ∈ wsX4_bid := by decide +kernel
  refine v_iload_n X dX4_bid_0 rfl ?_
  refine v_callSi0 (As := [.int p1]) (rest := []) X (c_X4_isPlayer l D cI cII cL p1) (cwS 1 X.2.2.2.1 gX4_bid_X4_isPlayer rfl rfl rfl (by decide +kernel) ⟨Nat.le_of_ble_eq_true rfl, Nat.le_of_ble_eq_true rfl⟩) rfl rfl (Nat.le_of_ble_eq_true rfl) dX4_bid_1 ⟨Nat.le_of_ble_eq_true rfl, Nat.le_of_ble_eq_true rfl⟩ ?_
  refine v_mrgn (T := (if (r_X4_isPlayer p1) = 0 then 0 else (if (r_X4_isKind p2) = 0 then 0 else 1) : Int32)) 19 [] (fun hJ1 => ?_) (fun T_1 eT_1 => ?_)
  · refine v_if_eq (tgt := 18) X dX4_bid_4 (by decide) (fun c_1 => ?_) (fun c_1 => ?_)
    · refine v_iconst (x := 0) X dX4_bid_18 rfl ?_
      exact hJ1 _ (by rw [if_pos c_1])
    · refine v_iload_n X dX4_bid_7 rfl ?_
      refine v_callSi0 (As := [.int p2]) (rest := []) X (c_X4_isKind l D cI cII cL p2) (cwS 1 X.2.2.2.1 gX4_bid_X4_isKind rfl rfl rfl (by decide +kernel) ⟨Nat.le_of_ble_eq_true rfl, Nat.le_of_ble_eq_true rfl⟩) rfl rfl (Nat.le_of_ble_eq_true rfl) dX4_bid_8 ⟨Nat.le_of_ble_eq_true rfl, Nat.le_of_ble_eq_true rfl⟩ ?_
      refine v_if_eq (tgt := 18) X dX4_bid_11 (by decide) (fun c_2 => ?_) (fun c_2 => ?_)
      · refine v_iconst (x := 0) X dX4_bid_18 rfl ?_
        exact hJ1 _ (by rw [if_neg c_1, if_pos c_2])
      · refine v_iconst (x := 1) X dX4_bid_14 rfl ?_
        refine v_goto (tgt := 19) X dX4_bid_15 (by decide) ?_
        exact hJ1 _ (by rw [if_neg c_1, if_neg c_2])
  · refine v_istore (lv' := [(4, .int T_1), (0, .ref (h 0)), (1, .int p1), (2, .int p2), (3, .int p3)]) X dX4_bid_19 (by decide) rfl ?_
    refine v_aload_n X dX4_bid_21 rfl ?_
    refine v_iload X dX4_bid_22 rfl ?_
    refine v_iload_n X dX4_bid_24 rfl ?_
    refine v_iconst (x := 1) X dX4_bid_25 rfl ?_
    refine v_sipush (x := 1000) X dX4_bid_26 rfl ?_
    refine v_callSi0 (As := [.int p3, .int 1, .int 1000]) (rest := [.int T_1, .ref (h 0)]) X (c_X4_in l D cI cII cL p3 1 1000) (cwS 3 X.2.2.2.1 gX4_bid_X4_in rfl rfl rfl (by decide +kernel) ⟨Nat.le_of_ble_eq_true rfl, Nat.le_of_ble_eq_true rfl⟩) rfl rfl (Nat.le_of_ble_eq_true rfl) dX4_bid_29 ⟨Nat.le_of_ble_eq_true rfl, Nat.le_of_ble_eq_true rfl⟩ ?_
    refine v_iload X dX4_bid_32 rfl ?_
    refine v_mrgn (T := (if T_1 = 0 then 0 else (if (S 1 p1.toNatClampNeg) < p3 then 0 else (if (S 11 ((8 * p1) + p2).toNatClampNeg) = 0 then (if (r_X4_banned S p2) = 0 then 1 else 0) else 0)) : Int32)) 74 [.int (r_X4_in p3 1 1000), .int T_1, .ref (h 0)] (fun hJ2 => ?_) (fun T_4 eT_4 => ?_)
    · refine v_if_eq (tgt := 73) X dX4_bid_34 (by decide) (fun c_3 => ?_) (fun c_3 => ?_)
      · refine v_iconst (x := 0) X dX4_bid_73 rfl ?_
        exact hJ2 _ (by rw [if_pos c_3])
      · have n_2 := nz_else (fun q => c_3 (eT_1.trans q))
        have n_3 := nz_else n_2.2
        refine v_aload_n X dX4_bid_37 rfl ?_
        refine v_getfield (ref := "TrumpvaultModel") (ci := 4) (index := 7) (v := .ref (h 1)) X iX4 0 wM_g0 rfl 1 (by decide) (by decide +kernel) (fun _ h9 => h9) rfl dX4_bid_38 ?_
        refine v_iload_n X dX4_bid_41 rfl ?_
        refine v_iald X 1 0 wM_g1 rfl (isPlayer_in n_2.1) dX4_bid_42 ?_
        refine v_iload_n X dX4_bid_43 rfl ?_
        refine v_icmp_lt (tgt := 73) X dX4_bid_44 (by decide) (fun c_4 => ?_) (fun c_4 => ?_)
        · refine v_iconst (x := 0) X dX4_bid_73 rfl ?_
          exact hJ2 _ (by rw [if_neg c_3, if_pos c_4])
        · refine v_aload_n X dX4_bid_47 rfl ?_
          refine v_getfield (ref := "TrumpvaultModel") (ci := 4) (index := 37) (v := .ref (h 11)) X iX4 0 wM_g0 rfl 11 (by decide) (by decide +kernel) (fun _ h9 => h9) rfl dX4_bid_48 ?_
          refine v_bipush (x := 8) X dX4_bid_51 rfl ?_
          refine v_iload_n X dX4_bid_53 rfl ?_
          refine v_imul X dX4_bid_54 ?_
          refine v_iload_n X dX4_bid_55 rfl ?_
          refine v_iadd X dX4_bid_56 ?_
          refine v_iald X 10 0 wM_g11 rfl (vp_8 (isPlayer_in n_2.1) (isKind_in n_3.1)) dX4_bid_57 ?_
          refine v_if_ne (tgt := 73) X dX4_bid_58 (by decide) (fun c_5 => ?_) (fun c_5 => ?_)
          · refine v_iconst (x := 0) X dX4_bid_73 rfl ?_
            exact hJ2 _ (by rw [if_neg c_3, if_neg c_4, if_neg c_5])
          · refine v_aload_n X dX4_bid_61 rfl ?_
            refine v_iload_n X dX4_bid_62 rfl ?_
            refine v_callVi (As := [.int p2]) (rest := [.int (r_X4_in p3 1 1000), .int T_1, .ref (h 0)]) (w' := (wM h cI S)) X (c_X4_banned l D cI cII cL h S p2 (isKind_in n_3.1)) (cwV 1 X.2.2.2.1 gX4_bid_X4_banned rfl rfl rfl (by decide +kernel) ⟨Nat.le_of_ble_eq_true rfl, Nat.le_of_ble_eq_true rfl⟩) 0 4 rfl rfl wM_g0 rfl rfl (Nat.le_of_ble_eq_true rfl) dX4_bid_63 ⟨Nat.le_of_ble_eq_true rfl, Nat.le_of_ble_eq_true rfl⟩ ?_
            refine v_if_ne (tgt := 73) X dX4_bid_66 (by decide) (fun c_6 => ?_) (fun c_6 => ?_)
            · refine v_iconst (x := 0) X dX4_bid_73 rfl ?_
              exact hJ2 _ (by rw [if_neg c_3, if_neg c_4, if_pos c_5, if_neg c_6])
            · refine v_iconst (x := 1) X dX4_bid_69 rfl ?_
              refine v_goto (tgt := 74) X dX4_bid_70 (by decide) ?_
              exact hJ2 _ (by rw [if_neg c_3, if_neg c_4, if_pos c_5, if_pos c_6])
    · refine v_callVi (As := [.int T_1, .int (r_X4_in p3 1 1000), .int T_4]) (rest := []) (w' := (wM h cI (s_X4_asked__ S T_1 (r_X4_in p3 1 1000) T_4))) X (c_X4_asked__ l D cI cII cL h S T_1 (r_X4_in p3 1 1000) T_4) (cwV 3 X.2.2.2.1 gX4_bid_X4_asked__ rfl rfl rfl (by decide +kernel) ⟨Nat.le_of_ble_eq_true rfl, Nat.le_of_ble_eq_true rfl⟩) 0 4 rfl rfl wM_g0 rfl rfl (Nat.le_of_ble_eq_true rfl) dX4_bid_74 ⟨Nat.le_of_ble_eq_true rfl, Nat.le_of_ble_eq_true rfl⟩ ?_
      obtain ⟨S_5, eS_5⟩ : ∃ z : St, z = (s_X4_asked__ S T_1 (r_X4_in p3 1 1000) T_4) := ⟨_, rfl⟩
      refine v_w (congrArg (fun z => (wM h cI z)) eS_5.symm) ?_
      refine v_if_ne (tgt := 82) X dX4_bid_77 (by decide) (fun c_7 => ?_) (fun c_7 => ?_)
      · have n_6 := nz_else (fun q => (asked3 c_7).1 (eT_1.trans q))
        have n_7 := nz_else n_6.2
        have n_8 := nz_else (fun q => (asked3 c_7).2.2 (eT_4.trans q))
        have n_9 := nz_else (fun q => n_8.1 (eT_1.trans q))
        have n_10 := nz_else n_9.2
        have n_11 := nz_else n_8.2
        have n_12 := nz_then n_11.2
        have n_13 := nz_then n_12.2
        refine v_aload_n X dX4_bid_82 rfl ?_
        refine v_dup X dX4_bid_83 rfl ?_
        refine v_getfield (ref := "TrumpvaultModel") (ci := 4) (index := 93) (v := .int (S_5 0 13)) X iX4 0 wM_g0 rfl 13 (by decide) (by decide +kernel) (fun _ h9 => h9) rfl dX4_bid_84 ?_
        refine v_iconst (x := 1) X dX4_bid_87 rfl ?_
        refine v_iadd X dX4_bid_88 ?_
        refine v_putfield (w' := (wM h cI (sU S_5 0 13 ((S_5 0 13) + 1)))) (ref := "TrumpvaultModel") (ci := 4) (index := 93) (ty := .int) X iX4 tyX4 tyX4_ok nmX4 0 wM_g0 rfl 13 (by decide) (by decide +kernel) (fun _ h9 => h9) rfl (by decide +kernel) rfl rfl (Nat.le_of_ble_eq_true rfl) dX4_bid_89 wM_f0_13 ?_
        obtain ⟨S_14, eS_14⟩ : ∃ z : St, z = (sU S_5 0 13 ((S_5 0 13) + 1)) := ⟨_, rfl⟩
        refine v_w (congrArg (fun z => (wM h cI z)) eS_14.symm) ?_
        refine v_aload_n X dX4_bid_92 rfl ?_
        refine v_iload_n X dX4_bid_93 rfl ?_
        refine v_iload_n X dX4_bid_94 rfl ?_
        refine v_callVi (As := [.int p2, .int p1]) (rest := []) (w' := (wM h cI S_14)) X (c_X4_offer l D cI cII cL h S_14 p2 p1 (cm_of ((congrFun (congrFun eS_14 0) 10).trans ((show (sU S_5 0 13 ((S_5 0 13) + 1)) 0 10 = S_5 0 10 from rfl).trans ((congrFun (congrFun eS_5 0) 10).trans (cma_X4_asked__ S T_1 (r_X4_in p3 1 1000) T_4)))) hmc)) (cwV 2 X.2.2.2.1 gX4_bid_X4_offer rfl rfl rfl (by decide +kernel) ⟨Nat.le_of_ble_eq_true rfl, Nat.le_of_ble_eq_true rfl⟩) 0 4 rfl rfl wM_g0 rfl rfl (Nat.le_of_ble_eq_true rfl) dX4_bid_95 ⟨Nat.le_of_ble_eq_true rfl, Nat.le_of_ble_eq_true rfl⟩ ?_
        refine v_istore (lv' := [(5, .int (r_X4_offer S_14 p2 p1)), (4, .int T_1), (0, .ref (h 0)), (1, .int p1), (2, .int p2), (3, .int p3)]) X dX4_bid_98 (by decide) rfl ?_
        refine v_iload X dX4_bid_100 rfl ?_
        refine v_iconst (x := (-1)) X dX4_bid_102 rfl ?_
        refine v_icmp_eq (tgt := 174) X dX4_bid_103 (by decide) (fun c_8 => ?_) (fun c_8 => ?_)
        · refine v_aload_n X dX4_bid_174 rfl ?_
          refine v_getfield (ref := "TrumpvaultModel") (ci := 4) (index := 7) (v := .ref (h 1)) X iX4 0 wM_g0 rfl 1 (by decide) (by decide +kernel) (fun _ h9 => h9) rfl dX4_bid_175 ?_
          refine v_iload_n X dX4_bid_178 rfl ?_
          refine v_dup2 X dX4_bid_179 rfl rfl ?_
          refine v_iald X 1 0 wM_g1 rfl (isPlayer_in n_9.1) dX4_bid_180 ?_
          refine v_iload_n X dX4_bid_181 rfl ?_
          refine v_isub X dX4_bid_182 ?_
          refine v_iast (w' := (wM h cI (sU S_14 1 p1.toNatClampNeg ((S_14 1 p1.toNatClampNeg) - p3)))) X 1 0 wM_g1 rfl (isPlayer_in n_9.1) dX4_bid_183 wM_s1 ?_
          obtain ⟨S_15, eS_15⟩ : ∃ z : St, z = (sU S_14 1 p1.toNatClampNeg ((S_14 1 p1.toNatClampNeg) - p3)) := ⟨_, rfl⟩
          refine v_w (congrArg (fun z => (wM h cI z)) eS_15.symm) ?_
          refine v_aload_n X dX4_bid_184 rfl ?_
          refine v_getfield (ref := "TrumpvaultModel") (ci := 4) (index := 37) (v := .ref (h 11)) X iX4 0 wM_g0 rfl 11 (by decide) (by decide +kernel) (fun _ h9 => h9) rfl dX4_bid_185 ?_
          refine v_bipush (x := 8) X dX4_bid_188 rfl ?_
          refine v_iload_n X dX4_bid_190 rfl ?_
          refine v_imul X dX4_bid_191 ?_
          refine v_iload_n X dX4_bid_192 rfl ?_
          refine v_iadd X dX4_bid_193 ?_
          refine v_iload_n X dX4_bid_194 rfl ?_
          refine v_iast (w' := (wM h cI (sU S_15 11 ((8 * p1) + p2).toNatClampNeg p3))) X 10 0 wM_g11 rfl (vp_8 (isPlayer_in n_9.1) (isKind_in n_10.1)) dX4_bid_195 wM_s11 ?_
          obtain ⟨S_16, eS_16⟩ : ∃ z : St, z = (sU S_15 11 ((8 * p1) + p2).toNatClampNeg p3) := ⟨_, rfl⟩
          refine v_w (congrArg (fun z => (wM h cI z)) eS_16.symm) ?_
          refine v_aload_n X dX4_bid_196 rfl ?_
          refine v_getfield (ref := "TrumpvaultModel") (ci := 4) (index := 40) (v := .ref (h 12)) X iX4 0 wM_g0 rfl 12 (by decide) (by decide +kernel) (fun _ h9 => h9) rfl dX4_bid_197 ?_
          refine v_bipush (x := 8) X dX4_bid_200 rfl ?_
          refine v_iload_n X dX4_bid_202 rfl ?_
          refine v_imul X dX4_bid_203 ?_
          refine v_iload_n X dX4_bid_204 rfl ?_
          refine v_iadd X dX4_bid_205 ?_
          refine v_aload_n X dX4_bid_206 rfl ?_
          refine v_getfield (ref := "TrumpvaultModel") (ci := 4) (index := 93) (v := .int (S_16 0 13)) X iX4 0 wM_g0 rfl 13 (by decide) (by decide +kernel) (fun _ h9 => h9) rfl dX4_bid_207 ?_
          refine v_iast (w' := (wM h cI (sU S_16 12 ((8 * p1) + p2).toNatClampNeg (S_16 0 13)))) X 11 0 wM_g12 rfl (vp_8 (isPlayer_in n_9.1) (isKind_in n_10.1)) dX4_bid_210 wM_s12 ?_
          obtain ⟨S_17, eS_17⟩ : ∃ z : St, z = (sU S_16 12 ((8 * p1) + p2).toNatClampNeg (S_16 0 13)) := ⟨_, rfl⟩
          refine v_w (congrArg (fun z => (wM h cI z)) eS_17.symm) ?_
          refine v_iconst (x := (-1)) X dX4_bid_211 rfl ?_
          exact v_reti X hr hk rfl (by subst eS_17; subst eS_16; subst eS_15; subst eS_14; subst eS_5; subst eT_4; subst eT_1; unfold r_X4_bid; dsimp only; rw [if_neg c_7, if_pos c_8]) (congrArg (fun z => (wM h cI z)) (by subst eS_17; subst eS_16; subst eS_15; subst eS_14; subst eS_5; subst eT_4; subst eT_1; unfold s_X4_bid; dsimp only; rw [if_neg c_7, if_pos c_8])) (Nat.le_of_ble_eq_true rfl) (Nat.le_of_ble_eq_true rfl) dX4_bid_212
        · refine v_aload_n X dX4_bid_106 rfl ?_
          refine v_getfield (ref := "TrumpvaultModel") (ci := 4) (index := 22) (v := .ref (h 5)) X iX4 0 wM_g0 rfl 5 (by decide) (by decide +kernel) (fun _ h9 => h9) rfl dX4_bid_107 ?_
          refine v_iload X dX4_bid_110 rfl ?_
          refine v_iald X 5 0 wM_g5 rfl ((rngr_X4_offer (cm_of ((congrFun (congrFun eS_14 0) 10).trans ((show (sU S_5 0 13 ((S_5 0 13) + 1)) 0 10 = S_5 0 10 from rfl).trans ((congrFun (congrFun eS_5 0) 10).trans (cma_X4_asked__ S T_1 (r_X4_in p3 1 1000) T_4)))) hmc) _ _).resolve_left c_8) dX4_bid_112 ?_
          refine v_iload_n X dX4_bid_113 rfl ?_
          refine v_icmp_gt (tgt := 174) X dX4_bid_114 (by decide) (fun c_9 => ?_) (fun c_9 => ?_)
          · refine v_aload_n X dX4_bid_174 rfl ?_
            refine v_getfield (ref := "TrumpvaultModel") (ci := 4) (index := 7) (v := .ref (h 1)) X iX4 0 wM_g0 rfl 1 (by decide) (by decide +kernel) (fun _ h9 => h9) rfl dX4_bid_175 ?_
            refine v_iload_n X dX4_bid_178 rfl ?_
            refine v_dup2 X dX4_bid_179 rfl rfl ?_
            refine v_iald X 1 0 wM_g1 rfl (isPlayer_in n_9.1) dX4_bid_180 ?_
            refine v_iload_n X dX4_bid_181 rfl ?_
            refine v_isub X dX4_bid_182 ?_
            refine v_iast (w' := (wM h cI (sU S_14 1 p1.toNatClampNeg ((S_14 1 p1.toNatClampNeg) - p3)))) X 1 0 wM_g1 rfl (isPlayer_in n_9.1) dX4_bid_183 wM_s1 ?_
            obtain ⟨S_18, eS_18⟩ : ∃ z : St, z = (sU S_14 1 p1.toNatClampNeg ((S_14 1 p1.toNatClampNeg) - p3)) := ⟨_, rfl⟩
            refine v_w (congrArg (fun z => (wM h cI z)) eS_18.symm) ?_
            refine v_aload_n X dX4_bid_184 rfl ?_
            refine v_getfield (ref := "TrumpvaultModel") (ci := 4) (index := 37) (v := .ref (h 11)) X iX4 0 wM_g0 rfl 11 (by decide) (by decide +kernel) (fun _ h9 => h9) rfl dX4_bid_185 ?_
            refine v_bipush (x := 8) X dX4_bid_188 rfl ?_
            refine v_iload_n X dX4_bid_190 rfl ?_
            refine v_imul X dX4_bid_191 ?_
            refine v_iload_n X dX4_bid_192 rfl ?_
            refine v_iadd X dX4_bid_193 ?_
            refine v_iload_n X dX4_bid_194 rfl ?_
            refine v_iast (w' := (wM h cI (sU S_18 11 ((8 * p1) + p2).toNatClampNeg p3))) X 10 0 wM_g11 rfl (vp_8 (isPlayer_in n_9.1) (isKind_in n_10.1)) dX4_bid_195 wM_s11 ?_
            obtain ⟨S_19, eS_19⟩ : ∃ z : St, z = (sU S_18 11 ((8 * p1) + p2).toNatClampNeg p3) := ⟨_, rfl⟩
            refine v_w (congrArg (fun z => (wM h cI z)) eS_19.symm) ?_
            refine v_aload_n X dX4_bid_196 rfl ?_
            refine v_getfield (ref := "TrumpvaultModel") (ci := 4) (index := 40) (v := .ref (h 12)) X iX4 0 wM_g0 rfl 12 (by decide) (by decide +kernel) (fun _ h9 => h9) rfl dX4_bid_197 ?_
            refine v_bipush (x := 8) X dX4_bid_200 rfl ?_
            refine v_iload_n X dX4_bid_202 rfl ?_
            refine v_imul X dX4_bid_203 ?_
            refine v_iload_n X dX4_bid_204 rfl ?_
            refine v_iadd X dX4_bid_205 ?_
            refine v_aload_n X dX4_bid_206 rfl ?_
            refine v_getfield (ref := "TrumpvaultModel") (ci := 4) (index := 93) (v := .int (S_19 0 13)) X iX4 0 wM_g0 rfl 13 (by decide) (by decide +kernel) (fun _ h9 => h9) rfl dX4_bid_207 ?_
            refine v_iast (w' := (wM h cI (sU S_19 12 ((8 * p1) + p2).toNatClampNeg (S_19 0 13)))) X 11 0 wM_g12 rfl (vp_8 (isPlayer_in n_9.1) (isKind_in n_10.1)) dX4_bid_210 wM_s12 ?_
            obtain ⟨S_20, eS_20⟩ : ∃ z : St, z = (sU S_19 12 ((8 * p1) + p2).toNatClampNeg (S_19 0 13)) := ⟨_, rfl⟩
            refine v_w (congrArg (fun z => (wM h cI z)) eS_20.symm) ?_
            refine v_iconst (x := (-1)) X dX4_bid_211 rfl ?_
            exact v_reti X hr hk rfl (by subst eS_20; subst eS_19; subst eS_18; subst eS_14; subst eS_5; subst eT_4; subst eT_1; unfold r_X4_bid; dsimp only; rw [if_neg c_7, if_neg c_8, if_pos c_9]) (congrArg (fun z => (wM h cI z)) (by subst eS_20; subst eS_19; subst eS_18; subst eS_14; subst eS_5; subst eT_4; subst eT_1; unfold s_X4_bid; dsimp only; rw [if_neg c_7, if_neg c_8, if_pos c_9])) (Nat.le_of_ble_eq_true rfl) (Nat.le_of_ble_eq_true rfl) dX4_bid_212
          · refine v_aload_n X dX4_bid_117 rfl ?_
            refine v_getfield (ref := "TrumpvaultModel") (ci := 4) (index := 7) (v := .ref (h 1)) X iX4 0 wM_g0 rfl 1 (by decide) (by decide +kernel) (fun _ h9 => h9) rfl dX4_bid_118 ?_
            refine v_iload_n X dX4_bid_121 rfl ?_
            refine v_dup2 X dX4_bid_122 rfl rfl ?_
            refine v_iald X 1 0 wM_g1 rfl (isPlayer_in n_9.1) dX4_bid_123 ?_
            refine v_aload_n X dX4_bid_124 rfl ?_
            refine v_getfield (ref := "TrumpvaultModel") (ci := 4) (index := 22) (v := .ref (h 5)) X iX4 0 wM_g0 rfl 5 (by decide) (by decide +kernel) (fun _ h9 => h9) rfl dX4_bid_125 ?_
            refine v_iload X dX4_bid_128 rfl ?_
            refine v_iald X 5 0 wM_g5 rfl ((rngr_X4_offer (cm_of ((congrFun (congrFun eS_14 0) 10).trans ((show (sU S_5 0 13 ((S_5 0 13) + 1)) 0 10 = S_5 0 10 from rfl).trans ((congrFun (congrFun eS_5 0) 10).trans (cma_X4_asked__ S T_1 (r_X4_in p3 1 1000) T_4)))) hmc) _ _).resolve_left c_8) dX4_bid_130 ?_
            refine v_isub X dX4_bid_131 ?_
            refine v_iast (w' := (wM h cI (sU S_14 1 p1.toNatClampNeg ((S_14 1 p1.toNatClampNeg) - (S_14 5 (r_X4_offer S_14 p2 p1).toNatClampNeg))))) X 1 0 wM_g1 rfl (isPlayer_in n_9.1) dX4_bid_132 wM_s1 ?_
            obtain ⟨S_21, eS_21⟩ : ∃ z : St, z = (sU S_14 1 p1.toNatClampNeg ((S_14 1 p1.toNatClampNeg) - (S_14 5 (r_X4_offer S_14 p2 p1).toNatClampNeg))) := ⟨_, rfl⟩
            refine v_w (congrArg (fun z => (wM h cI z)) eS_21.symm) ?_
            refine v_aload_n X dX4_bid_133 rfl ?_
            refine v_getfield (ref := "TrumpvaultModel") (ci := 4) (index := 7) (v := .ref (h 1)) X iX4 0 wM_g0 rfl 1 (by decide) (by decide +kernel) (fun _ h9 => h9) rfl dX4_bid_134 ?_
            refine v_aload_n X dX4_bid_137 rfl ?_
            refine v_getfield (ref := "TrumpvaultModel") (ci := 4) (index := 16) (v := .ref (h 3)) X iX4 0 wM_g0 rfl 3 (by decide) (by decide +kernel) (fun _ h9 => h9) rfl dX4_bid_138 ?_
            refine v_iload X dX4_bid_141 rfl ?_
            refine v_iald X 3 0 wM_g3 rfl ((rngr_X4_offer (cm_of ((congrFun (congrFun eS_14 0) 10).trans ((show (sU S_5 0 13 ((S_5 0 13) + 1)) 0 10 = S_5 0 10 from rfl).trans ((congrFun (congrFun eS_5 0) 10).trans (cma_X4_asked__ S T_1 (r_X4_in p3 1 1000) T_4)))) hmc) _ _).resolve_left c_8) dX4_bid_143 ?_
            refine v_dup2 X dX4_bid_144 rfl rfl ?_
            refine v_iald X 1 0 wM_g1 rfl (own_of ((congrFun eS_21 3).trans ((sU_ne (by decide)).trans ((congrFun eS_14 3).trans ((sU_ne (by decide)).trans ((congrFun eS_5 3).trans (fr_X4_asked__ S T_1 (r_X4_in p3 1 1000) T_4 3 (by decide))))))) hmown _) dX4_bid_145 ?_
            refine v_aload_n X dX4_bid_146 rfl ?_
            refine v_getfield (ref := "TrumpvaultModel") (ci := 4) (index := 22) (v := .ref (h 5)) X iX4 0 wM_g0 rfl 5 (by decide) (by decide +kernel) (fun _ h9 => h9) rfl dX4_bid_147 ?_
            refine v_iload X dX4_bid_150 rfl ?_
            refine v_iald X 5 0 wM_g5 rfl ((rngr_X4_offer (cm_of ((congrFun (congrFun eS_14 0) 10).trans ((show (sU S_5 0 13 ((S_5 0 13) + 1)) 0 10 = S_5 0 10 from rfl).trans ((congrFun (congrFun eS_5 0) 10).trans (cma_X4_asked__ S T_1 (r_X4_in p3 1 1000) T_4)))) hmc) _ _).resolve_left c_8) dX4_bid_152 ?_
            refine v_iadd X dX4_bid_153 ?_
            refine v_iast (w' := (wM h cI (sU S_21 1 (S_21 3 (r_X4_offer S_14 p2 p1).toNatClampNeg).toNatClampNeg ((S_21 1 (S_21 3 (r_X4_offer S_14 p2 p1).toNatClampNeg).toNatClampNeg) + (S_21 5 (r_X4_offer S_14 p2 p1).toNatClampNeg))))) X 1 0 wM_g1 rfl (own_of ((congrFun eS_21 3).trans ((sU_ne (by decide)).trans ((congrFun eS_14 3).trans ((sU_ne (by decide)).trans ((congrFun eS_5 3).trans (fr_X4_asked__ S T_1 (r_X4_in p3 1 1000) T_4 3 (by decide))))))) hmown _) dX4_bid_154 wM_s1 ?_
            obtain ⟨S_22, eS_22⟩ : ∃ z : St, z = (sU S_21 1 (S_21 3 (r_X4_offer S_14 p2 p1).toNatClampNeg).toNatClampNeg ((S_21 1 (S_21 3 (r_X4_offer S_14 p2 p1).toNatClampNeg).toNatClampNeg) + (S_21 5 (r_X4_offer S_14 p2 p1).toNatClampNeg))) := ⟨_, rfl⟩
            refine v_w (congrArg (fun z => (wM h cI z)) eS_22.symm) ?_
            refine v_aload_n X dX4_bid_155 rfl ?_
            refine v_getfield (ref := "TrumpvaultModel") (ci := 4) (index := 16) (v := .ref (h 3)) X iX4 0 wM_g0 rfl 3 (by decide) (by decide +kernel) (fun _ h9 => h9) rfl dX4_bid_156 ?_
            refine v_iload X dX4_bid_159 rfl ?_
            refine v_iload_n X dX4_bid_161 rfl ?_
            refine v_iast (w' := (wM h cI (sU S_22 3 (r_X4_offer S_14 p2 p1).toNatClampNeg p1))) X 3 0 wM_g3 rfl ((rngr_X4_offer (cm_of ((congrFun (congrFun eS_14 0) 10).trans ((show (sU S_5 0 13 ((S_5 0 13) + 1)) 0 10 = S_5 0 10 from rfl).trans ((congrFun (congrFun eS_5 0) 10).trans (cma_X4_asked__ S T_1 (r_X4_in p3 1 1000) T_4)))) hmc) _ _).resolve_left c_8) dX4_bid_162 wM_s3 ?_
            obtain ⟨S_23, eS_23⟩ : ∃ z : St, z = (sU S_22 3 (r_X4_offer S_14 p2 p1).toNatClampNeg p1) := ⟨_, rfl⟩
            refine v_w (congrArg (fun z => (wM h cI z)) eS_23.symm) ?_
            refine v_aload_n X dX4_bid_163 rfl ?_
            refine v_getfield (ref := "TrumpvaultModel") (ci := 4) (index := 19) (v := .ref (h 4)) X iX4 0 wM_g0 rfl 4 (by decide) (by decide +kernel) (fun _ h9 => h9) rfl dX4_bid_164 ?_
            refine v_iload X dX4_bid_167 rfl ?_
            refine v_iconst (x := 0) X dX4_bid_169 rfl ?_
            refine v_iast (w' := (wM h cI (sU S_23 4 (r_X4_offer S_14 p2 p1).toNatClampNeg 0))) X 4 0 wM_g4 rfl ((rngr_X4_offer (cm_of ((congrFun (congrFun eS_14 0) 10).trans ((show (sU S_5 0 13 ((S_5 0 13) + 1)) 0 10 = S_5 0 10 from rfl).trans ((congrFun (congrFun eS_5 0) 10).trans (cma_X4_asked__ S T_1 (r_X4_in p3 1 1000) T_4)))) hmc) _ _).resolve_left c_8) dX4_bid_170 wM_s4 ?_
            obtain ⟨S_24, eS_24⟩ : ∃ z : St, z = (sU S_23 4 (r_X4_offer S_14 p2 p1).toNatClampNeg 0) := ⟨_, rfl⟩
            refine v_w (congrArg (fun z => (wM h cI z)) eS_24.symm) ?_
            refine v_iload X dX4_bid_171 rfl ?_
            exact v_reti X hr hk rfl (by subst eS_24; subst eS_23; subst eS_22; subst eS_21; subst eS_14; subst eS_5; subst eT_4; subst eT_1; unfold r_X4_bid; dsimp only; rw [if_neg c_7, if_neg c_8, if_neg c_9]) (congrArg (fun z => (wM h cI z)) (by subst eS_24; subst eS_23; subst eS_22; subst eS_21; subst eS_14; subst eS_5; subst eT_4; subst eT_1; unfold s_X4_bid; dsimp only; rw [if_neg c_7, if_neg c_8, if_neg c_9])) (Nat.le_of_ble_eq_true rfl) (Nat.le_of_ble_eq_true rfl) dX4_bid_173
      · refine v_iconst (x := 0) X dX4_bid_80 rfl ?_
        exact v_reti X hr hk rfl (by subst eS_5; subst eT_4; subst eT_1; unfold r_X4_bid; dsimp only; rw [if_pos c_7]) (congrArg (fun z => (wM h cI z)) (by subst eS_5; subst eT_4; subst eT_1; unfold s_X4_bid; dsimp only; rw [if_pos c_7])) (Nat.le_of_ble_eq_true rfl) (Nat.le_of_ble_eq_true rfl) dX4_bid_81

def r_X4_cancelSale (S : St) (p1 : Int32) : Int32 :=
  (let T_1 : Int32 := (if (r_X4_isCard S p1) = 0 then 0 else (if (S 4 p1.toNatClampNeg) = 1 then 1 else 0) : Int32); (let S_2 : St := (s_X4_asked_ S (r_X4_isCard S p1) T_1); (if (r_X4_asked_ S (r_X4_isCard S p1) T_1) = 0 then 0 else (let S_5 : St := (sU S_2 4 p1.toNatClampNeg 0); (S_5 5 p1.toNatClampNeg)))))
def s_X4_cancelSale (S : St) (p1 : Int32) : St :=
  (let T_1 : Int32 := (if (r_X4_isCard S p1) = 0 then 0 else (if (S 4 p1.toNatClampNeg) = 1 then 1 else 0) : Int32); (let S_2 : St := (s_X4_asked_ S (r_X4_isCard S p1) T_1); (if (r_X4_asked_ S (r_X4_isCard S p1) T_1) = 0 then S_2 else (let S_5 : St := (sU S_2 4 p1.toNatClampNeg 0); S_5))))
set_option maxHeartbeats 1000000 in
set_option maxRecDepth 100000 in
theorem c_X4_cancelSale (l : Launch) (D : va_G) (cI cII cL : ClassId) (h : Nat → Nat) (S : St) (p1 : Int32) (hmc : cntM S) : v_Mi l D vwCl (tyl cI cII cL) yX4_cancelSale wsX4_cancelSale { frames := 2, cells := 0, slots := 0, locals := 43 } [.ref (h 0), .int p1] (wM h cI S) (r_X4_cancelSale S p1) (wM h cI (s_X4_cancelSale S p1)) := by
  refine v_ofMi (cc := cX4_cancelSale) (maxL := 3) (ret := (some .int)) (own := RX4) (lv0 := [(0, .ref (h 0)), (1, .int p1)]) (by decide) rfl rfl rfl (Nat.le_of_ble_eq_true rfl) ?_
  intro p e s m below meth c X hr hk hin
  have iX4 : ∀ w ∈ wsX40, w ∈ wsX4_cancelSale := by decide +kernel
  refine v_aload_n X dX4_cancelSale_0 rfl ?_
  refine v_iload_n X dX4_cancelSale_1 rfl ?_
  refine v_callVi (As := [.int p1]) (rest := []) (w' := (wM h cI S)) X (c_X4_isCard l D cI cII cL h S p1) (cwV 1 X.2.2.2.1 gX4_cancelSale_X4_isCard rfl rfl rfl (by decide +kernel) ⟨Nat.le_of_ble_eq_true rfl, Nat.le_of_ble_eq_true rfl⟩) 0 4 rfl rfl wM_g0 rfl rfl (Nat.le_of_ble_eq_true rfl) dX4_cancelSale_2 ⟨Nat.le_of_ble_eq_true rfl, Nat.le_of_ble_eq_true rfl⟩ ?_
  refine v_istore_n (lv' := [(2, .int (r_X4_isCard S p1)), (0, .ref (h 0)), (1, .int p1)]) X dX4_cancelSale_5 (by decide) rfl ?_
  refine v_aload_n X dX4_cancelSale_6 rfl ?_
  refine v_iload_n X dX4_cancelSale_7 rfl ?_
  refine v_iload_n X dX4_cancelSale_8 rfl ?_
  refine v_mrgn (T := (if (r_X4_isCard S p1) = 0 then 0 else (if (S 4 p1.toNatClampNeg) = 1 then 1 else 0) : Int32)) 27 [.int (r_X4_isCard S p1), .ref (h 0)] (fun hJ1 => ?_) (fun T_1 eT_1 => ?_)
  · refine v_if_eq (tgt := 26) X dX4_cancelSale_9 (by decide) (fun c_1 => ?_) (fun c_1 => ?_)
    · refine v_iconst (x := 0) X dX4_cancelSale_26 rfl ?_
      exact hJ1 _ (by rw [if_pos c_1])
    · refine v_aload_n X dX4_cancelSale_12 rfl ?_
      refine v_getfield (ref := "TrumpvaultModel") (ci := 4) (index := 19) (v := .ref (h 4)) X iX4 0 wM_g0 rfl 4 (by decide) (by decide +kernel) (fun _ h9 => h9) rfl dX4_cancelSale_13 ?_
      refine v_iload_n X dX4_cancelSale_16 rfl ?_
      refine v_iald X 4 0 wM_g4 rfl (isCard_in hmc c_1) dX4_cancelSale_17 ?_
      refine v_iconst (x := 1) X dX4_cancelSale_18 rfl ?_
      refine v_icmp_ne (tgt := 26) X dX4_cancelSale_19 (by decide) (fun c_2 => ?_) (fun c_2 => ?_)
      · refine v_iconst (x := 0) X dX4_cancelSale_26 rfl ?_
        exact hJ1 _ (by rw [if_neg c_1, if_neg c_2])
      · refine v_iconst (x := 1) X dX4_cancelSale_22 rfl ?_
        refine v_goto (tgt := 27) X dX4_cancelSale_23 (by decide) ?_
        exact hJ1 _ (by rw [if_neg c_1, if_pos c_2])
  · refine v_callVi (As := [.int (r_X4_isCard S p1), .int T_1]) (rest := []) (w' := (wM h cI (s_X4_asked_ S (r_X4_isCard S p1) T_1))) X (c_X4_asked_ l D cI cII cL h S (r_X4_isCard S p1) T_1) (cwV 2 X.2.2.2.1 gX4_cancelSale_X4_asked_ rfl rfl rfl (by decide +kernel) ⟨Nat.le_of_ble_eq_true rfl, Nat.le_of_ble_eq_true rfl⟩) 0 4 rfl rfl wM_g0 rfl rfl (Nat.le_of_ble_eq_true rfl) dX4_cancelSale_27 ⟨Nat.le_of_ble_eq_true rfl, Nat.le_of_ble_eq_true rfl⟩ ?_
    obtain ⟨S_2, eS_2⟩ : ∃ z : St, z = (s_X4_asked_ S (r_X4_isCard S p1) T_1) := ⟨_, rfl⟩
    refine v_w (congrArg (fun z => (wM h cI z)) eS_2.symm) ?_
    refine v_if_ne (tgt := 35) X dX4_cancelSale_30 (by decide) (fun c_3 => ?_) (fun c_3 => ?_)
    · have n_3 := nz_else (fun q => (asked2 c_3).2 (eT_1.trans q))
      have n_4 := nz_then n_3.2
      refine v_aload_n X dX4_cancelSale_35 rfl ?_
      refine v_getfield (ref := "TrumpvaultModel") (ci := 4) (index := 19) (v := .ref (h 4)) X iX4 0 wM_g0 rfl 4 (by decide) (by decide +kernel) (fun _ h9 => h9) rfl dX4_cancelSale_36 ?_
      refine v_iload_n X dX4_cancelSale_39 rfl ?_
      refine v_iconst (x := 0) X dX4_cancelSale_40 rfl ?_
      refine v_iast (w' := (wM h cI (sU S_2 4 p1.toNatClampNeg 0))) X 4 0 wM_g4 rfl (isCard_in hmc n_3.1) dX4_cancelSale_41 wM_s4 ?_
      obtain ⟨S_5, eS_5⟩ : ∃ z : St, z = (sU S_2 4 p1.toNatClampNeg 0) := ⟨_, rfl⟩
      refine v_w (congrArg (fun z => (wM h cI z)) eS_5.symm) ?_
      refine v_aload_n X dX4_cancelSale_42 rfl ?_
      refine v_getfield (ref := "TrumpvaultModel") (ci := 4) (index := 22) (v := .ref (h 5)) X iX4 0 wM_g0 rfl 5 (by decide) (by decide +kernel) (fun _ h9 => h9) rfl dX4_cancelSale_43 ?_
      refine v_iload_n X dX4_cancelSale_46 rfl ?_
      refine v_iald X 5 0 wM_g5 rfl (isCard_in hmc n_3.1) dX4_cancelSale_47 ?_
      exact v_reti X hr hk rfl (by subst eS_5; subst eS_2; subst eT_1; unfold r_X4_cancelSale; dsimp only; rw [if_neg c_3]) (congrArg (fun z => (wM h cI z)) (by subst eS_5; subst eS_2; subst eT_1; unfold s_X4_cancelSale; dsimp only; rw [if_neg c_3])) (Nat.le_of_ble_eq_true rfl) (Nat.le_of_ble_eq_true rfl) dX4_cancelSale_48
    · refine v_iconst (x := 0) X dX4_cancelSale_33 rfl ?_
      exact v_reti X hr hk rfl (by subst eS_2; subst eT_1; unfold r_X4_cancelSale; dsimp only; rw [if_pos c_3]) (congrArg (fun z => (wM h cI z)) (by subst eS_2; subst eT_1; unfold s_X4_cancelSale; dsimp only; rw [if_pos c_3])) (Nat.le_of_ble_eq_true rfl) (Nat.le_of_ble_eq_true rfl) dX4_cancelSale_34

def r_X4_cancelBid (S : St) (p1 p2 : Int32) : Int32 :=
  (let T_1 : Int32 := (if (r_X4_isPlayer p1) = 0 then 0 else (if (r_X4_isKind p2) = 0 then 0 else 1) : Int32); (let T_4 : Int32 := (if T_1 = 0 then 0 else (if (S 11 ((8 * p1) + p2).toNatClampNeg) ≤ 0 then 0 else 1) : Int32); (let S_5 : St := (s_X4_asked_ S T_1 T_4); (if (r_X4_asked_ S T_1 T_4) = 0 then 0 else (S_5 11 ((8 * p1) + p2).toNatClampNeg)))))
def s_X4_cancelBid (S : St) (p1 p2 : Int32) : St :=
  (let T_1 : Int32 := (if (r_X4_isPlayer p1) = 0 then 0 else (if (r_X4_isKind p2) = 0 then 0 else 1) : Int32); (let T_4 : Int32 := (if T_1 = 0 then 0 else (if (S 11 ((8 * p1) + p2).toNatClampNeg) ≤ 0 then 0 else 1) : Int32); (let S_5 : St := (s_X4_asked_ S T_1 T_4); (if (r_X4_asked_ S T_1 T_4) = 0 then S_5 else (let S_12 : St := (sU S_5 1 p1.toNatClampNeg ((S_5 1 p1.toNatClampNeg) + (S_5 11 ((8 * p1) + p2).toNatClampNeg))); (let S_13 : St := (sU S_12 11 ((8 * p1) + p2).toNatClampNeg 0); S_13))))))
set_option maxHeartbeats 1000000 in
set_option maxRecDepth 100000 in
theorem c_X4_cancelBid (l : Launch) (D : va_G) (cI cII cL : ClassId) (h : Nat → Nat) (S : St) (p1 p2 : Int32) : v_Mi l D vwCl (tyl cI cII cL) yX4_cancelBid wsX4_cancelBid { frames := 2, cells := 0, slots := 0, locals := 42 } [.ref (h 0), .int p1, .int p2] (wM h cI S) (r_X4_cancelBid S p1 p2) (wM h cI (s_X4_cancelBid S p1 p2)) := by
  refine v_ofMi (cc := cX4_cancelBid) (maxL := 5) (ret := (some .int)) (own := RX4) (lv0 := [(0, .ref (h 0)), (1, .int p1), (2, .int p2)]) (by decide) rfl rfl rfl (Nat.le_of_ble_eq_true rfl) ?_
  intro p e s m below meth c X hr hk hin
  have iX4 : ∀ w ∈ wsX40, w ∈ wsX4_cancelBid := by decide +kernel
  refine v_iload_n X dX4_cancelBid_0 rfl ?_
  refine v_callSi0 (As := [.int p1]) (rest := []) X (c_X4_isPlayer l D cI cII cL p1) (cwS 1 X.2.2.2.1 gX4_cancelBid_X4_isPlayer rfl rfl rfl (by decide +kernel) ⟨Nat.le_of_ble_eq_true rfl, Nat.le_of_ble_eq_true rfl⟩) rfl rfl (Nat.le_of_ble_eq_true rfl) dX4_cancelBid_1 ⟨Nat.le_of_ble_eq_true rfl, Nat.le_of_ble_eq_true rfl⟩ ?_
  refine v_mrgn (T := (if (r_X4_isPlayer p1) = 0 then 0 else (if (r_X4_isKind p2) = 0 then 0 else 1) : Int32)) 19 [] (fun hJ1 => ?_) (fun T_1 eT_1 => ?_)
  · refine v_if_eq (tgt := 18) X dX4_cancelBid_4 (by decide) (fun c_1 => ?_) (fun c_1 => ?_)
    · refine v_iconst (x := 0) X dX4_cancelBid_18 rfl ?_
      exact hJ1 _ (by rw [if_pos c_1])
    · refine v_iload_n X dX4_cancelBid_7 rfl ?_
      refine v_callSi0 (As := [.int p2]) (rest := []) X (c_X4_isKind l D cI cII cL p2) (cwS 1 X.2.2.2.1 gX4_cancelBid_X4_isKind rfl rfl rfl (by decide +kernel) ⟨Nat.le_of_ble_eq_true rfl, Nat.le_of_ble_eq_true rfl⟩) rfl rfl (Nat.le_of_ble_eq_true rfl) dX4_cancelBid_8 ⟨Nat.le_of_ble_eq_true rfl, Nat.le_of_ble_eq_true rfl⟩ ?_
      refine v_if_eq (tgt := 18) X dX4_cancelBid_11 (by decide) (fun c_2 => ?_) (fun c_2 => ?_)
      · refine v_iconst (x := 0) X dX4_cancelBid_18 rfl ?_
        exact hJ1 _ (by rw [if_neg c_1, if_pos c_2])
      · refine v_iconst (x := 1) X dX4_cancelBid_14 rfl ?_
        refine v_goto (tgt := 19) X dX4_cancelBid_15 (by decide) ?_
        exact hJ1 _ (by rw [if_neg c_1, if_neg c_2])
  · refine v_istore_n (lv' := [(3, .int T_1), (0, .ref (h 0)), (1, .int p1), (2, .int p2)]) X dX4_cancelBid_19 (by decide) rfl ?_
    refine v_aload_n X dX4_cancelBid_20 rfl ?_
    refine v_iload_n X dX4_cancelBid_21 rfl ?_
    refine v_iload_n X dX4_cancelBid_22 rfl ?_
    refine v_mrgn (T := (if T_1 = 0 then 0 else (if (S 11 ((8 * p1) + p2).toNatClampNeg) ≤ 0 then 0 else 1) : Int32)) 45 [.int T_1, .ref (h 0)] (fun hJ2 => ?_) (fun T_4 eT_4 => ?_)
    · refine v_if_eq (tgt := 44) X dX4_cancelBid_23 (by decide) (fun c_3 => ?_) (fun c_3 => ?_)
      · refine v_iconst (x := 0) X dX4_cancelBid_44 rfl ?_
        exact hJ2 _ (by rw [if_pos c_3])
      · have n_2 := nz_else (fun q => c_3 (eT_1.trans q))
        have n_3 := nz_else n_2.2
        refine v_aload_n X dX4_cancelBid_26 rfl ?_
        refine v_getfield (ref := "TrumpvaultModel") (ci := 4) (index := 37) (v := .ref (h 11)) X iX4 0 wM_g0 rfl 11 (by decide) (by decide +kernel) (fun _ h9 => h9) rfl dX4_cancelBid_27 ?_
        refine v_bipush (x := 8) X dX4_cancelBid_30 rfl ?_
        refine v_iload_n X dX4_cancelBid_32 rfl ?_
        refine v_imul X dX4_cancelBid_33 ?_
        refine v_iload_n X dX4_cancelBid_34 rfl ?_
        refine v_iadd X dX4_cancelBid_35 ?_
        refine v_iald X 10 0 wM_g11 rfl (vp_8 (isPlayer_in n_2.1) (isKind_in n_3.1)) dX4_cancelBid_36 ?_
        refine v_if_le (tgt := 44) X dX4_cancelBid_37 (by decide) (fun c_4 => ?_) (fun c_4 => ?_)
        · refine v_iconst (x := 0) X dX4_cancelBid_44 rfl ?_
          exact hJ2 _ (by rw [if_neg c_3, if_pos c_4])
        · refine v_iconst (x := 1) X dX4_cancelBid_40 rfl ?_
          refine v_goto (tgt := 45) X dX4_cancelBid_41 (by decide) ?_
          exact hJ2 _ (by rw [if_neg c_3, if_neg c_4])
    · refine v_callVi (As := [.int T_1, .int T_4]) (rest := []) (w' := (wM h cI (s_X4_asked_ S T_1 T_4))) X (c_X4_asked_ l D cI cII cL h S T_1 T_4) (cwV 2 X.2.2.2.1 gX4_cancelBid_X4_asked_ rfl rfl rfl (by decide +kernel) ⟨Nat.le_of_ble_eq_true rfl, Nat.le_of_ble_eq_true rfl⟩) 0 4 rfl rfl wM_g0 rfl rfl (Nat.le_of_ble_eq_true rfl) dX4_cancelBid_45 ⟨Nat.le_of_ble_eq_true rfl, Nat.le_of_ble_eq_true rfl⟩ ?_
      obtain ⟨S_5, eS_5⟩ : ∃ z : St, z = (s_X4_asked_ S T_1 T_4) := ⟨_, rfl⟩
      refine v_w (congrArg (fun z => (wM h cI z)) eS_5.symm) ?_
      refine v_if_ne (tgt := 53) X dX4_cancelBid_48 (by decide) (fun c_5 => ?_) (fun c_5 => ?_)
      · have n_6 := nz_else (fun q => (asked2 c_5).1 (eT_1.trans q))
        have n_7 := nz_else n_6.2
        have n_8 := nz_else (fun q => (asked2 c_5).2 (eT_4.trans q))
        have n_9 := nz_else (fun q => n_8.1 (eT_1.trans q))
        have n_10 := nz_else n_9.2
        have n_11 := nz_else n_8.2
        refine v_aload_n X dX4_cancelBid_53 rfl ?_
        refine v_getfield (ref := "TrumpvaultModel") (ci := 4) (index := 37) (v := .ref (h 11)) X iX4 0 wM_g0 rfl 11 (by decide) (by decide +kernel) (fun _ h9 => h9) rfl dX4_cancelBid_54 ?_
        refine v_bipush (x := 8) X dX4_cancelBid_57 rfl ?_
        refine v_iload_n X dX4_cancelBid_59 rfl ?_
        refine v_imul X dX4_cancelBid_60 ?_
        refine v_iload_n X dX4_cancelBid_61 rfl ?_
        refine v_iadd X dX4_cancelBid_62 ?_
        refine v_iald X 10 0 wM_g11 rfl (vp_8 (isPlayer_in n_9.1) (isKind_in n_10.1)) dX4_cancelBid_63 ?_
        refine v_istore (lv' := [(4, .int (S_5 11 ((8 * p1) + p2).toNatClampNeg)), (3, .int T_1), (0, .ref (h 0)), (1, .int p1), (2, .int p2)]) X dX4_cancelBid_64 (by decide) rfl ?_
        refine v_aload_n X dX4_cancelBid_66 rfl ?_
        refine v_getfield (ref := "TrumpvaultModel") (ci := 4) (index := 7) (v := .ref (h 1)) X iX4 0 wM_g0 rfl 1 (by decide) (by decide +kernel) (fun _ h9 => h9) rfl dX4_cancelBid_67 ?_
        refine v_iload_n X dX4_cancelBid_70 rfl ?_
        refine v_dup2 X dX4_cancelBid_71 rfl rfl ?_
        refine v_iald X 1 0 wM_g1 rfl (isPlayer_in n_9.1) dX4_cancelBid_72 ?_
        refine v_iload X dX4_cancelBid_73 rfl ?_
        refine v_iadd X dX4_cancelBid_75 ?_
        refine v_iast (w' := (wM h cI (sU S_5 1 p1.toNatClampNeg ((S_5 1 p1.toNatClampNeg) + (S_5 11 ((8 * p1) + p2).toNatClampNeg))))) X 1 0 wM_g1 rfl (isPlayer_in n_9.1) dX4_cancelBid_76 wM_s1 ?_
        obtain ⟨S_12, eS_12⟩ : ∃ z : St, z = (sU S_5 1 p1.toNatClampNeg ((S_5 1 p1.toNatClampNeg) + (S_5 11 ((8 * p1) + p2).toNatClampNeg))) := ⟨_, rfl⟩
        refine v_w (congrArg (fun z => (wM h cI z)) eS_12.symm) ?_
        refine v_aload_n X dX4_cancelBid_77 rfl ?_
        refine v_getfield (ref := "TrumpvaultModel") (ci := 4) (index := 37) (v := .ref (h 11)) X iX4 0 wM_g0 rfl 11 (by decide) (by decide +kernel) (fun _ h9 => h9) rfl dX4_cancelBid_78 ?_
        refine v_bipush (x := 8) X dX4_cancelBid_81 rfl ?_
        refine v_iload_n X dX4_cancelBid_83 rfl ?_
        refine v_imul X dX4_cancelBid_84 ?_
        refine v_iload_n X dX4_cancelBid_85 rfl ?_
        refine v_iadd X dX4_cancelBid_86 ?_
        refine v_iconst (x := 0) X dX4_cancelBid_87 rfl ?_
        refine v_iast (w' := (wM h cI (sU S_12 11 ((8 * p1) + p2).toNatClampNeg 0))) X 10 0 wM_g11 rfl (vp_8 (isPlayer_in n_9.1) (isKind_in n_10.1)) dX4_cancelBid_88 wM_s11 ?_
        obtain ⟨S_13, eS_13⟩ : ∃ z : St, z = (sU S_12 11 ((8 * p1) + p2).toNatClampNeg 0) := ⟨_, rfl⟩
        refine v_w (congrArg (fun z => (wM h cI z)) eS_13.symm) ?_
        refine v_iload X dX4_cancelBid_89 rfl ?_
        exact v_reti X hr hk rfl (by subst eS_13; subst eS_12; subst eS_5; subst eT_4; subst eT_1; unfold r_X4_cancelBid; dsimp only; rw [if_neg c_5]) (congrArg (fun z => (wM h cI z)) (by subst eS_13; subst eS_12; subst eS_5; subst eT_4; subst eT_1; unfold s_X4_cancelBid; dsimp only; rw [if_neg c_5])) (Nat.le_of_ble_eq_true rfl) (Nat.le_of_ble_eq_true rfl) dX4_cancelBid_91
      · refine v_iconst (x := 0) X dX4_cancelBid_51 rfl ?_
        exact v_reti X hr hk rfl (by subst eS_5; subst eT_4; subst eT_1; unfold r_X4_cancelBid; dsimp only; rw [if_pos c_5]) (congrArg (fun z => (wM h cI z)) (by subst eS_5; subst eT_4; subst eT_1; unfold s_X4_cancelBid; dsimp only; rw [if_pos c_5])) (Nat.le_of_ble_eq_true rfl) (Nat.le_of_ble_eq_true rfl) dX4_cancelBid_52

def r_X4_leastSale (S : St) (p1 : Int32) : Int32 :=
  (let S_1 : St := (s_X4_asked S (r_X4_isKind p1)); (if (r_X4_asked S (r_X4_isKind p1)) = 0 then 0 else (if (r_X4_offer S_1 p1 (-1)) = (-1) then (-1) else (S_1 5 (r_X4_offer S_1 p1 (-1)).toNatClampNeg))))
def s_X4_leastSale (S : St) (p1 : Int32) : St :=
  (let S_1 : St := (s_X4_asked S (r_X4_isKind p1)); (if (r_X4_asked S (r_X4_isKind p1)) = 0 then S_1 else (if (r_X4_offer S_1 p1 (-1)) = (-1) then S_1 else S_1)))
set_option maxHeartbeats 1000000 in
set_option maxRecDepth 100000 in
theorem c_X4_leastSale (l : Launch) (D : va_G) (cI cII cL : ClassId) (h : Nat → Nat) (S : St) (p1 : Int32) (hmc : cntM S) : v_Mi l D vwCl (tyl cI cII cL) yX4_leastSale wsX4_leastSale { frames := 2, cells := 0, slots := 0, locals := 42 } [.ref (h 0), .int p1] (wM h cI S) (r_X4_leastSale S p1) (wM h cI (s_X4_leastSale S p1)) := by
  refine v_ofMi (cc := cX4_leastSale) (maxL := 3) (ret := (some .int)) (own := RX4) (lv0 := [(0, .ref (h 0)), (1, .int p1)]) (by decide) rfl rfl rfl (Nat.le_of_ble_eq_true rfl) ?_
  intro p e s m below meth c X hr hk hin
  have iX4 : ∀ w ∈ wsX40, w ∈ wsX4_leastSale := by decide +kernel
  refine v_aload_n X dX4_leastSale_0 rfl ?_
  refine v_iload_n X dX4_leastSale_1 rfl ?_
  refine v_callSi0 (As := [.int p1]) (rest := [.ref (h 0)]) X (c_X4_isKind l D cI cII cL p1) (cwS 1 X.2.2.2.1 gX4_leastSale_X4_isKind rfl rfl rfl (by decide +kernel) ⟨Nat.le_of_ble_eq_true rfl, Nat.le_of_ble_eq_true rfl⟩) rfl rfl (Nat.le_of_ble_eq_true rfl) dX4_leastSale_2 ⟨Nat.le_of_ble_eq_true rfl, Nat.le_of_ble_eq_true rfl⟩ ?_
  refine v_callVi (As := [.int (r_X4_isKind p1)]) (rest := []) (w' := (wM h cI (s_X4_asked S (r_X4_isKind p1)))) X (c_X4_asked l D cI cII cL h S (r_X4_isKind p1) (b_X4_isKind _)) (cwV 1 X.2.2.2.1 gX4_leastSale_X4_asked rfl rfl rfl (by decide +kernel) ⟨Nat.le_of_ble_eq_true rfl, Nat.le_of_ble_eq_true rfl⟩) 0 4 rfl rfl wM_g0 rfl rfl (Nat.le_of_ble_eq_true rfl) dX4_leastSale_5 ⟨Nat.le_of_ble_eq_true rfl, Nat.le_of_ble_eq_true rfl⟩ ?_
  obtain ⟨S_1, eS_1⟩ : ∃ z : St, z = (s_X4_asked S (r_X4_isKind p1)) := ⟨_, rfl⟩
  refine v_w (congrArg (fun z => (wM h cI z)) eS_1.symm) ?_
  refine v_if_ne (tgt := 13) X dX4_leastSale_8 (by decide) (fun c_1 => ?_) (fun c_1 => ?_)
  · refine v_aload_n X dX4_leastSale_13 rfl ?_
    refine v_iload_n X dX4_leastSale_14 rfl ?_
    refine v_iconst (x := (-1)) X dX4_leastSale_15 rfl ?_
    refine v_callVi (As := [.int p1, .int (-1)]) (rest := []) (w' := (wM h cI S_1)) X (c_X4_offer l D cI cII cL h S_1 p1 (-1) (cm_of ((congrFun (congrFun eS_1 0) 10).trans (cma_X4_asked S (r_X4_isKind p1))) hmc)) (cwV 2 X.2.2.2.1 gX4_leastSale_X4_offer rfl rfl rfl (by decide +kernel) ⟨Nat.le_of_ble_eq_true rfl, Nat.le_of_ble_eq_true rfl⟩) 0 4 rfl rfl wM_g0 rfl rfl (Nat.le_of_ble_eq_true rfl) dX4_leastSale_16 ⟨Nat.le_of_ble_eq_true rfl, Nat.le_of_ble_eq_true rfl⟩ ?_
    refine v_istore_n (lv' := [(2, .int (r_X4_offer S_1 p1 (-1))), (0, .ref (h 0)), (1, .int p1)]) X dX4_leastSale_19 (by decide) rfl ?_
    refine v_iload_n X dX4_leastSale_20 rfl ?_
    refine v_iconst (x := (-1)) X dX4_leastSale_21 rfl ?_
    refine v_icmp_ne (tgt := 29) X dX4_leastSale_22 (by decide) (fun c_2 => ?_) (fun c_2 => ?_)
    · refine v_aload_n X dX4_leastSale_29 rfl ?_
      refine v_getfield (ref := "TrumpvaultModel") (ci := 4) (index := 22) (v := .ref (h 5)) X iX4 0 wM_g0 rfl 5 (by decide) (by decide +kernel) (fun _ h9 => h9) rfl dX4_leastSale_30 ?_
      refine v_iload_n X dX4_leastSale_33 rfl ?_
      refine v_iald X 5 0 wM_g5 rfl ((rngr_X4_offer (cm_of ((congrFun (congrFun eS_1 0) 10).trans (cma_X4_asked S (r_X4_isKind p1))) hmc) _ _).resolve_left c_2) dX4_leastSale_34 ?_
      exact v_reti X hr hk rfl (by subst eS_1; unfold r_X4_leastSale; dsimp only; rw [if_neg c_1, if_neg c_2]) (congrArg (fun z => (wM h cI z)) (by subst eS_1; unfold s_X4_leastSale; dsimp only; rw [if_neg c_1, if_neg c_2])) (Nat.le_of_ble_eq_true rfl) (Nat.le_of_ble_eq_true rfl) dX4_leastSale_35
    · refine v_iconst (x := (-1)) X dX4_leastSale_25 rfl ?_
      refine v_goto (tgt := 35) X dX4_leastSale_26 (by decide) ?_
      exact v_reti X hr hk rfl (by subst eS_1; unfold r_X4_leastSale; dsimp only; rw [if_neg c_1, if_pos c_2]) (congrArg (fun z => (wM h cI z)) (by subst eS_1; unfold s_X4_leastSale; dsimp only; rw [if_neg c_1, if_pos c_2])) (Nat.le_of_ble_eq_true rfl) (Nat.le_of_ble_eq_true rfl) dX4_leastSale_35
  · refine v_iconst (x := 0) X dX4_leastSale_11 rfl ?_
    exact v_reti X hr hk rfl (by subst eS_1; unfold r_X4_leastSale; dsimp only; rw [if_pos c_1]) (congrArg (fun z => (wM h cI z)) (by subst eS_1; unfold s_X4_leastSale; dsimp only; rw [if_pos c_1])) (Nat.le_of_ble_eq_true rfl) (Nat.le_of_ble_eq_true rfl) dX4_leastSale_12

def r_X4_greatestBid (S : St) (p1 : Int32) : Int32 :=
  (let S_1 : St := (s_X4_asked S (r_X4_isKind p1)); (if (r_X4_asked S (r_X4_isKind p1)) = 0 then 0 else (if (r_X4_bidder S_1 p1 (-1)) = (-1) then (-1) else (S_1 11 ((8 * (r_X4_bidder S_1 p1 (-1))) + p1).toNatClampNeg))))
def s_X4_greatestBid (S : St) (p1 : Int32) : St :=
  (let S_1 : St := (s_X4_asked S (r_X4_isKind p1)); (if (r_X4_asked S (r_X4_isKind p1)) = 0 then S_1 else (if (r_X4_bidder S_1 p1 (-1)) = (-1) then S_1 else S_1)))
set_option maxHeartbeats 1000000 in
set_option maxRecDepth 100000 in
theorem c_X4_greatestBid (l : Launch) (D : va_G) (cI cII cL : ClassId) (h : Nat → Nat) (S : St) (p1 : Int32) : v_Mi l D vwCl (tyl cI cII cL) yX4_greatestBid wsX4_greatestBid { frames := 2, cells := 0, slots := 0, locals := 42 } [.ref (h 0), .int p1] (wM h cI S) (r_X4_greatestBid S p1) (wM h cI (s_X4_greatestBid S p1)) := by
  refine v_ofMi (cc := cX4_greatestBid) (maxL := 3) (ret := (some .int)) (own := RX4) (lv0 := [(0, .ref (h 0)), (1, .int p1)]) (by decide) rfl rfl rfl (Nat.le_of_ble_eq_true rfl) ?_
  intro p e s m below meth c X hr hk hin
  have iX4 : ∀ w ∈ wsX40, w ∈ wsX4_greatestBid := by decide +kernel
  refine v_aload_n X dX4_greatestBid_0 rfl ?_
  refine v_iload_n X dX4_greatestBid_1 rfl ?_
  refine v_callSi0 (As := [.int p1]) (rest := [.ref (h 0)]) X (c_X4_isKind l D cI cII cL p1) (cwS 1 X.2.2.2.1 gX4_greatestBid_X4_isKind rfl rfl rfl (by decide +kernel) ⟨Nat.le_of_ble_eq_true rfl, Nat.le_of_ble_eq_true rfl⟩) rfl rfl (Nat.le_of_ble_eq_true rfl) dX4_greatestBid_2 ⟨Nat.le_of_ble_eq_true rfl, Nat.le_of_ble_eq_true rfl⟩ ?_
  refine v_callVi (As := [.int (r_X4_isKind p1)]) (rest := []) (w' := (wM h cI (s_X4_asked S (r_X4_isKind p1)))) X (c_X4_asked l D cI cII cL h S (r_X4_isKind p1) (b_X4_isKind _)) (cwV 1 X.2.2.2.1 gX4_greatestBid_X4_asked rfl rfl rfl (by decide +kernel) ⟨Nat.le_of_ble_eq_true rfl, Nat.le_of_ble_eq_true rfl⟩) 0 4 rfl rfl wM_g0 rfl rfl (Nat.le_of_ble_eq_true rfl) dX4_greatestBid_5 ⟨Nat.le_of_ble_eq_true rfl, Nat.le_of_ble_eq_true rfl⟩ ?_
  obtain ⟨S_1, eS_1⟩ : ∃ z : St, z = (s_X4_asked S (r_X4_isKind p1)) := ⟨_, rfl⟩
  refine v_w (congrArg (fun z => (wM h cI z)) eS_1.symm) ?_
  refine v_if_ne (tgt := 13) X dX4_greatestBid_8 (by decide) (fun c_1 => ?_) (fun c_1 => ?_)
  · refine v_aload_n X dX4_greatestBid_13 rfl ?_
    refine v_iload_n X dX4_greatestBid_14 rfl ?_
    refine v_iconst (x := (-1)) X dX4_greatestBid_15 rfl ?_
    refine v_callVi (As := [.int p1, .int (-1)]) (rest := []) (w' := (wM h cI S_1)) X (c_X4_bidder l D cI cII cL h S_1 p1 (-1) (isKind_in (asked1 c_1))) (cwV 2 X.2.2.2.1 gX4_greatestBid_X4_bidder rfl rfl rfl (by decide +kernel) ⟨Nat.le_of_ble_eq_true rfl, Nat.le_of_ble_eq_true rfl⟩) 0 4 rfl rfl wM_g0 rfl rfl (Nat.le_of_ble_eq_true rfl) dX4_greatestBid_16 ⟨Nat.le_of_ble_eq_true rfl, Nat.le_of_ble_eq_true rfl⟩ ?_
    refine v_istore_n (lv' := [(2, .int (r_X4_bidder S_1 p1 (-1))), (0, .ref (h 0)), (1, .int p1)]) X dX4_greatestBid_19 (by decide) rfl ?_
    refine v_iload_n X dX4_greatestBid_20 rfl ?_
    refine v_iconst (x := (-1)) X dX4_greatestBid_21 rfl ?_
    refine v_icmp_ne (tgt := 29) X dX4_greatestBid_22 (by decide) (fun c_2 => ?_) (fun c_2 => ?_)
    · refine v_aload_n X dX4_greatestBid_29 rfl ?_
      refine v_getfield (ref := "TrumpvaultModel") (ci := 4) (index := 37) (v := .ref (h 11)) X iX4 0 wM_g0 rfl 11 (by decide) (by decide +kernel) (fun _ h9 => h9) rfl dX4_greatestBid_30 ?_
      refine v_bipush (x := 8) X dX4_greatestBid_33 rfl ?_
      refine v_iload_n X dX4_greatestBid_35 rfl ?_
      refine v_imul X dX4_greatestBid_36 ?_
      refine v_iload_n X dX4_greatestBid_37 rfl ?_
      refine v_iadd X dX4_greatestBid_38 ?_
      refine v_iald X 10 0 wM_g11 rfl (vp_8 ((rngr_X4_bidder _ _ _).resolve_left c_2) (isKind_in (asked1 c_1))) dX4_greatestBid_39 ?_
      exact v_reti X hr hk rfl (by subst eS_1; unfold r_X4_greatestBid; dsimp only; rw [if_neg c_1, if_neg c_2]) (congrArg (fun z => (wM h cI z)) (by subst eS_1; unfold s_X4_greatestBid; dsimp only; rw [if_neg c_1, if_neg c_2])) (Nat.le_of_ble_eq_true rfl) (Nat.le_of_ble_eq_true rfl) dX4_greatestBid_40
    · refine v_iconst (x := (-1)) X dX4_greatestBid_25 rfl ?_
      refine v_goto (tgt := 40) X dX4_greatestBid_26 (by decide) ?_
      exact v_reti X hr hk rfl (by subst eS_1; unfold r_X4_greatestBid; dsimp only; rw [if_neg c_1, if_pos c_2]) (congrArg (fun z => (wM h cI z)) (by subst eS_1; unfold s_X4_greatestBid; dsimp only; rw [if_neg c_1, if_pos c_2])) (Nat.le_of_ble_eq_true rfl) (Nat.le_of_ble_eq_true rfl) dX4_greatestBid_40
  · refine v_iconst (x := 0) X dX4_greatestBid_11 rfl ?_
    exact v_reti X hr hk rfl (by subst eS_1; unfold r_X4_greatestBid; dsimp only; rw [if_pos c_1]) (congrArg (fun z => (wM h cI z)) (by subst eS_1; unfold s_X4_greatestBid; dsimp only; rw [if_pos c_1])) (Nat.le_of_ble_eq_true rfl) (Nat.le_of_ble_eq_true rfl) dX4_greatestBid_12
