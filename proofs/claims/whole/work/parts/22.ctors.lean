def Sz : St := fun _ _ => 0
def S0c : St := fun i j => if i = 1 then (if j < 5 then 100 else 0) else if i = 2 then (if j < 8 then (-1) else 0) else 0
def S0m : St := fun i j => if i = 1 then (if j < 5 then 100 else 0) else if i = 14 then (if j < 8 then 1000000 else 0) else 0
set_option maxHeartbeats 1000000 in
set_option maxRecDepth 100000 in
theorem c_J7_fill (l : Launch) (D : va_G) (cI cII cL : ClassId) (a N : Nat) (hN : N ≤ 30) (v : Int32) (f : Nat → Int32) : v_Mv l D vwCl (tyl cI cII cL) yJ7_fill_53178 wsJ7_fill_53178 { frames := 0, cells := 0, slots := 0, locals := 0 } [.ref a, .int v] [(a, .inl (cI, N, .inl f))] [(a, .inl (cI, N, .inl (fun j => if j < N then v else f j)))] := by
  refine v_ofMv (cc := cJ7_fill_53178) (maxL := 4) (ret := none) (own := RJ7) (lv0 := [(0, .ref a), (1, .int v)]) (by decide) rfl rfl rfl (Nat.le_of_ble_eq_true rfl) ?_
  intro p e s m below meth c X hr hk hin
  refine v_iconst (x := 0) X dJ7_fill_53178_0 rfl ?_
  refine v_istore_n (lv' := [(2, .int 0), (0, .ref a), (1, .int v)]) X dJ7_fill_53178_1 (by decide) rfl ?_
  refine v_aload_n X dJ7_fill_53178_2 rfl ?_
  refine v_alen (v := nI N) X 0 0 rfl rfl rfl dJ7_fill_53178_3 ?_
  refine v_istore_n (lv' := [(3, .int (nI N)), (2, .int 0), (0, .ref a), (1, .int v)]) X dJ7_fill_53178_4 (by decide) rfl ?_
  have L_1 : ∀ (d k : Nat) (i : Int32), k + d = N → i = nI k → v_V p l e { frames := 0, cells := 0, slots := 0, locals := 0 } s m [Value.ref a, .int v].toArray below meth c D vwCl (va_A [(a, .inl (cI, N, .inl f))] s.heap.size) 4 (v_Qv below s D vwCl (tyl cI cII cL) { frames := 0, cells := 0, slots := 0, locals := 0 } [.ref a, .int v] [(a, .inl (cI, N, .inl f))] [(a, .inl (cI, N, .inl (fun j => if j < N then v else f j)))]) 0 0 [(a, .inl (cI, N, .inl (fun j => if j < k then v else f j)))] 5 [(3, .int (nI N)), (2, .int i), (0, .ref a), (1, .int v)] [] := by
    intro d
    induction d with
    | zero =>
      intro k i hk1 ei
      subst ei
      obtain rfl : N = k := by omega
      refine v_iload_n X dJ7_fill_53178_5 rfl ?_
      refine v_iload_n X dJ7_fill_53178_6 rfl ?_
      refine v_icmp_ge (tgt := 20) X dJ7_fill_53178_7 (by decide) (fun c1 => ?_) (fun c1 => ?_)
      · exact v_retv X hr hk rfl (Nat.le_of_ble_eq_true rfl) (Nat.le_of_ble_eq_true rfl) dJ7_fill_53178_20
      · exact absurd (nI_le (Nat.le_refl N) (by omega)) c1
    | succ d ih =>
      intro k i hk1 ei
      subst ei
      refine v_iload_n X dJ7_fill_53178_5 rfl ?_
      refine v_iload_n X dJ7_fill_53178_6 rfl ?_
      refine v_icmp_ge (tgt := 20) X dJ7_fill_53178_7 (by decide) (fun c1 => ?_) (fun c1 => ?_)
      · exact absurd c1 (nI_ge (by omega) (by omega))
      · refine v_aload_n X dJ7_fill_53178_10 rfl ?_
        refine v_iload_n X dJ7_fill_53178_11 rfl ?_
        refine v_iload_n X dJ7_fill_53178_12 rfl ?_
        refine v_iast (w' := [(a, .inl (cI, N, .inl (fun j => if j < k + 1 then v else f j)))]) X 0 0 rfl rfl (vp_in_nI (by omega) (by omega)) dJ7_fill_53178_13 ?_ ?_
        · show [(a, (Sum.inl (cI, N, .inl (upd (fun j => if j < k then v else f j) (nI k).toNatClampNeg v)) : va_E))] = _
          rw [nI_clamp (by omega)]
          refine congrArg (fun z => [(a, (Sum.inl (cI, N, .inl z) : va_E))]) (funext fun j => ?_)
          unfold upd
          by_cases h1 : j = k
          · subst h1; simp
          · by_cases h2 : j < k
            · rw [if_neg h1]
              show (if j < k then v else f j) = _
              rw [if_pos h2, if_pos (by omega)]
            · rw [if_neg h1]
              show (if j < k then v else f j) = _
              rw [if_neg h2, if_neg (by omega)]
        refine v_iinc (y := nI k + 1) (lv' := [(2, .int (nI k + 1)), (3, .int (nI N)), (0, .ref a), (1, .int v)]) X dJ7_fill_53178_14 rfl rfl (by decide) rfl ?_
        refine v_goto (tgt := 5) X dJ7_fill_53178_17 (by decide) ?_
        refine v_lv [1, 0, 2, 3] rfl ?_
        exact ih (k + 1) _ (by omega) (nI_1 k)
  refine v_w (w' := [(a, .inl (cI, N, .inl (fun j => if j < 0 then v else f j)))]) (by simp) ?_
  exact L_1 N 0 0 (Nat.zero_add _) nI_0.symm
set_option maxHeartbeats 1000000 in
set_option maxRecDepth 100000 in
theorem c_X1_init (l : Launch) (D : va_G) (cI cII cL : ClassId) (a : Nat) : v_Ci l D vwCl (tyl cI cII cL) yX1_init wsX1_init { frames := 1, cells := 8, slots := 240, locals := 12 } [.ref a] [(a, .inr (1, [.null, .null, .null, .null, .null, .null, .null, .null, .int 0]))] (fun h => h 4 = a) (fun h => wC h cI Sz) := by
  refine v_ofCi (cc := cX1_init) (maxL := 1) (own := RX1) (lv0 := [(0, .ref a)]) (by decide) rfl rfl rfl (Nat.le_of_ble_eq_true rfl) rfl ?_
  intro p e s m below meth c X hIX hr hk hin
  have iX1 : ∀ w ∈ wsX10, w ∈ wsX1_init := by decide +kernel
  refine v_aload_n X dX1_init_0 rfl ?_
  refine v_objinit X (by decide +kernel) (by decide +kernel) (by decide +kernel) dX1_init_1 (Nat.le_of_ble_eq_true rfl) (Nat.le_of_ble_eq_true rfl) ?_
  refine v_aload_n X dX1_init_4 rfl ?_
  refine v_bipush (x := 30) X dX1_init_5 rfl ?_
  refine v_newarr (cI := cI) (N := 30) X (by decide +kernel) rfl rfl (by decide) (Nat.le_of_ble_eq_true rfl) (Nat.le_of_ble_eq_true rfl) (Nat.le_of_ble_eq_true rfl) dX1_init_7 (fun q1 => ?_)
  refine v_w (w' := [(a, .inr (1, [.null, .null, .null, .null, .null, .null, .null, .null, .int 0])), (q1, .inl (cI, 30, .inl (fun _ => 0)))]) rfl ?_
  refine v_putfieldF (w' := [(a, .inr (1, [.ref q1, .null, .null, .null, .null, .null, .null, .null, .int 0])), (q1, .inl (cI, 30, .inl (fun _ => 0)))]) (ref := "Trumpvault$Cards") (ci := 1) (index := 9) (ty := .array .int) X iX1 tyX1 tyX1_ok nmX1 0 rfl rfl 0 (by decide) (by decide +kernel) (fun _ h9 => h9) rfl hin rfl (by decide +kernel) rfl rfl (Nat.le_of_ble_eq_true rfl) dX1_init_9 rfl ?_
  refine v_aload_n X dX1_init_12 rfl ?_
  refine v_bipush (x := 30) X dX1_init_13 rfl ?_
  refine v_newarr (cI := cI) (N := 30) X (by decide +kernel) rfl rfl (by decide) (Nat.le_of_ble_eq_true rfl) (Nat.le_of_ble_eq_true rfl) (Nat.le_of_ble_eq_true rfl) dX1_init_15 (fun q2 => ?_)
  refine v_w (w' := [(a, .inr (1, [.ref q1, .null, .null, .null, .null, .null, .null, .null, .int 0])), (q1, .inl (cI, 30, .inl (fun _ => 0))), (q2, .inl (cI, 30, .inl (fun _ => 0)))]) rfl ?_
  refine v_putfieldF (w' := [(a, .inr (1, [.ref q1, .ref q2, .null, .null, .null, .null, .null, .null, .int 0])), (q1, .inl (cI, 30, .inl (fun _ => 0))), (q2, .inl (cI, 30, .inl (fun _ => 0)))]) (ref := "Trumpvault$Cards") (ci := 1) (index := 15) (ty := .array .int) X iX1 tyX1 tyX1_ok nmX1 0 rfl rfl 1 (by decide) (by decide +kernel) (fun _ h9 => h9) rfl hin rfl (by decide +kernel) rfl rfl (Nat.le_of_ble_eq_true rfl) dX1_init_17 rfl ?_
  refine v_aload_n X dX1_init_20 rfl ?_
  refine v_bipush (x := 30) X dX1_init_21 rfl ?_
  refine v_newarr (cI := cI) (N := 30) X (by decide +kernel) rfl rfl (by decide) (Nat.le_of_ble_eq_true rfl) (Nat.le_of_ble_eq_true rfl) (Nat.le_of_ble_eq_true rfl) dX1_init_23 (fun q3 => ?_)
  refine v_w (w' := [(a, .inr (1, [.ref q1, .ref q2, .null, .null, .null, .null, .null, .null, .int 0])), (q1, .inl (cI, 30, .inl (fun _ => 0))), (q2, .inl (cI, 30, .inl (fun _ => 0))), (q3, .inl (cI, 30, .inl (fun _ => 0)))]) rfl ?_
  refine v_putfieldF (w' := [(a, .inr (1, [.ref q1, .ref q2, .ref q3, .null, .null, .null, .null, .null, .int 0])), (q1, .inl (cI, 30, .inl (fun _ => 0))), (q2, .inl (cI, 30, .inl (fun _ => 0))), (q3, .inl (cI, 30, .inl (fun _ => 0)))]) (ref := "Trumpvault$Cards") (ci := 1) (index := 18) (ty := .array .int) X iX1 tyX1 tyX1_ok nmX1 0 rfl rfl 2 (by decide) (by decide +kernel) (fun _ h9 => h9) rfl hin rfl (by decide +kernel) rfl rfl (Nat.le_of_ble_eq_true rfl) dX1_init_25 rfl ?_
  refine v_aload_n X dX1_init_28 rfl ?_
  refine v_bipush (x := 30) X dX1_init_29 rfl ?_
  refine v_newarr (cI := cI) (N := 30) X (by decide +kernel) rfl rfl (by decide) (Nat.le_of_ble_eq_true rfl) (Nat.le_of_ble_eq_true rfl) (Nat.le_of_ble_eq_true rfl) dX1_init_31 (fun q4 => ?_)
  refine v_w (w' := [(a, .inr (1, [.ref q1, .ref q2, .ref q3, .null, .null, .null, .null, .null, .int 0])), (q1, .inl (cI, 30, .inl (fun _ => 0))), (q2, .inl (cI, 30, .inl (fun _ => 0))), (q3, .inl (cI, 30, .inl (fun _ => 0))), (q4, .inl (cI, 30, .inl (fun _ => 0)))]) rfl ?_
  refine v_putfieldF (w' := [(a, .inr (1, [.ref q1, .ref q2, .ref q3, .ref q4, .null, .null, .null, .null, .int 0])), (q1, .inl (cI, 30, .inl (fun _ => 0))), (q2, .inl (cI, 30, .inl (fun _ => 0))), (q3, .inl (cI, 30, .inl (fun _ => 0))), (q4, .inl (cI, 30, .inl (fun _ => 0)))]) (ref := "Trumpvault$Cards") (ci := 1) (index := 21) (ty := .array .int) X iX1 tyX1 tyX1_ok nmX1 0 rfl rfl 3 (by decide) (by decide +kernel) (fun _ h9 => h9) rfl hin rfl (by decide +kernel) rfl rfl (Nat.le_of_ble_eq_true rfl) dX1_init_33 rfl ?_
  refine v_aload_n X dX1_init_36 rfl ?_
  refine v_bipush (x := 30) X dX1_init_37 rfl ?_
  refine v_newarr (cI := cI) (N := 30) X (by decide +kernel) rfl rfl (by decide) (Nat.le_of_ble_eq_true rfl) (Nat.le_of_ble_eq_true rfl) (Nat.le_of_ble_eq_true rfl) dX1_init_39 (fun q5 => ?_)
  refine v_w (w' := [(a, .inr (1, [.ref q1, .ref q2, .ref q3, .ref q4, .null, .null, .null, .null, .int 0])), (q1, .inl (cI, 30, .inl (fun _ => 0))), (q2, .inl (cI, 30, .inl (fun _ => 0))), (q3, .inl (cI, 30, .inl (fun _ => 0))), (q4, .inl (cI, 30, .inl (fun _ => 0))), (q5, .inl (cI, 30, .inl (fun _ => 0)))]) rfl ?_
  refine v_putfieldF (w' := [(a, .inr (1, [.ref q1, .ref q2, .ref q3, .ref q4, .ref q5, .null, .null, .null, .int 0])), (q1, .inl (cI, 30, .inl (fun _ => 0))), (q2, .inl (cI, 30, .inl (fun _ => 0))), (q3, .inl (cI, 30, .inl (fun _ => 0))), (q4, .inl (cI, 30, .inl (fun _ => 0))), (q5, .inl (cI, 30, .inl (fun _ => 0)))]) (ref := "Trumpvault$Cards") (ci := 1) (index := 24) (ty := .array .int) X iX1 tyX1 tyX1_ok nmX1 0 rfl rfl 4 (by decide) (by decide +kernel) (fun _ h9 => h9) rfl hin rfl (by decide +kernel) rfl rfl (Nat.le_of_ble_eq_true rfl) dX1_init_41 rfl ?_
  refine v_aload_n X dX1_init_44 rfl ?_
  refine v_bipush (x := 30) X dX1_init_45 rfl ?_
  refine v_newarr (cI := cI) (N := 30) X (by decide +kernel) rfl rfl (by decide) (Nat.le_of_ble_eq_true rfl) (Nat.le_of_ble_eq_true rfl) (Nat.le_of_ble_eq_true rfl) dX1_init_47 (fun q6 => ?_)
  refine v_w (w' := [(a, .inr (1, [.ref q1, .ref q2, .ref q3, .ref q4, .ref q5, .null, .null, .null, .int 0])), (q1, .inl (cI, 30, .inl (fun _ => 0))), (q2, .inl (cI, 30, .inl (fun _ => 0))), (q3, .inl (cI, 30, .inl (fun _ => 0))), (q4, .inl (cI, 30, .inl (fun _ => 0))), (q5, .inl (cI, 30, .inl (fun _ => 0))), (q6, .inl (cI, 30, .inl (fun _ => 0)))]) rfl ?_
  refine v_putfieldF (w' := [(a, .inr (1, [.ref q1, .ref q2, .ref q3, .ref q4, .ref q5, .ref q6, .null, .null, .int 0])), (q1, .inl (cI, 30, .inl (fun _ => 0))), (q2, .inl (cI, 30, .inl (fun _ => 0))), (q3, .inl (cI, 30, .inl (fun _ => 0))), (q4, .inl (cI, 30, .inl (fun _ => 0))), (q5, .inl (cI, 30, .inl (fun _ => 0))), (q6, .inl (cI, 30, .inl (fun _ => 0)))]) (ref := "Trumpvault$Cards") (ci := 1) (index := 27) (ty := .array .int) X iX1 tyX1 tyX1_ok nmX1 0 rfl rfl 5 (by decide) (by decide +kernel) (fun _ h9 => h9) rfl hin rfl (by decide +kernel) rfl rfl (Nat.le_of_ble_eq_true rfl) dX1_init_49 rfl ?_
  refine v_aload_n X dX1_init_52 rfl ?_
  refine v_bipush (x := 30) X dX1_init_53 rfl ?_
  refine v_newarr (cI := cI) (N := 30) X (by decide +kernel) rfl rfl (by decide) (Nat.le_of_ble_eq_true rfl) (Nat.le_of_ble_eq_true rfl) (Nat.le_of_ble_eq_true rfl) dX1_init_55 (fun q7 => ?_)
  refine v_w (w' := [(a, .inr (1, [.ref q1, .ref q2, .ref q3, .ref q4, .ref q5, .ref q6, .null, .null, .int 0])), (q1, .inl (cI, 30, .inl (fun _ => 0))), (q2, .inl (cI, 30, .inl (fun _ => 0))), (q3, .inl (cI, 30, .inl (fun _ => 0))), (q4, .inl (cI, 30, .inl (fun _ => 0))), (q5, .inl (cI, 30, .inl (fun _ => 0))), (q6, .inl (cI, 30, .inl (fun _ => 0))), (q7, .inl (cI, 30, .inl (fun _ => 0)))]) rfl ?_
  refine v_putfieldF (w' := [(a, .inr (1, [.ref q1, .ref q2, .ref q3, .ref q4, .ref q5, .ref q6, .ref q7, .null, .int 0])), (q1, .inl (cI, 30, .inl (fun _ => 0))), (q2, .inl (cI, 30, .inl (fun _ => 0))), (q3, .inl (cI, 30, .inl (fun _ => 0))), (q4, .inl (cI, 30, .inl (fun _ => 0))), (q5, .inl (cI, 30, .inl (fun _ => 0))), (q6, .inl (cI, 30, .inl (fun _ => 0))), (q7, .inl (cI, 30, .inl (fun _ => 0)))]) (ref := "Trumpvault$Cards") (ci := 1) (index := 30) (ty := .array .int) X iX1 tyX1 tyX1_ok nmX1 0 rfl rfl 6 (by decide) (by decide +kernel) (fun _ h9 => h9) rfl hin rfl (by decide +kernel) rfl rfl (Nat.le_of_ble_eq_true rfl) dX1_init_57 rfl ?_
  refine v_aload_n X dX1_init_60 rfl ?_
  refine v_bipush (x := 30) X dX1_init_61 rfl ?_
  refine v_newarr (cI := cI) (N := 30) X (by decide +kernel) rfl rfl (by decide) (Nat.le_of_ble_eq_true rfl) (Nat.le_of_ble_eq_true rfl) (Nat.le_of_ble_eq_true rfl) dX1_init_63 (fun q8 => ?_)
  refine v_w (w' := [(a, .inr (1, [.ref q1, .ref q2, .ref q3, .ref q4, .ref q5, .ref q6, .ref q7, .null, .int 0])), (q1, .inl (cI, 30, .inl (fun _ => 0))), (q2, .inl (cI, 30, .inl (fun _ => 0))), (q3, .inl (cI, 30, .inl (fun _ => 0))), (q4, .inl (cI, 30, .inl (fun _ => 0))), (q5, .inl (cI, 30, .inl (fun _ => 0))), (q6, .inl (cI, 30, .inl (fun _ => 0))), (q7, .inl (cI, 30, .inl (fun _ => 0))), (q8, .inl (cI, 30, .inl (fun _ => 0)))]) rfl ?_
  refine v_putfieldF (w' := [(a, .inr (1, [.ref q1, .ref q2, .ref q3, .ref q4, .ref q5, .ref q6, .ref q7, .ref q8, .int 0])), (q1, .inl (cI, 30, .inl (fun _ => 0))), (q2, .inl (cI, 30, .inl (fun _ => 0))), (q3, .inl (cI, 30, .inl (fun _ => 0))), (q4, .inl (cI, 30, .inl (fun _ => 0))), (q5, .inl (cI, 30, .inl (fun _ => 0))), (q6, .inl (cI, 30, .inl (fun _ => 0))), (q7, .inl (cI, 30, .inl (fun _ => 0))), (q8, .inl (cI, 30, .inl (fun _ => 0)))]) (ref := "Trumpvault$Cards") (ci := 1) (index := 33) (ty := .array .int) X iX1 tyX1 tyX1_ok nmX1 0 rfl rfl 7 (by decide) (by decide +kernel) (fun _ h9 => h9) rfl hin rfl (by decide +kernel) rfl rfl (Nat.le_of_ble_eq_true rfl) dX1_init_65 rfl ?_
  refine v_aload_n X dX1_init_68 rfl ?_
  refine v_iconst (x := 0) X dX1_init_69 rfl ?_
  refine v_putfield (w' := [(a, .inr (1, [.ref q1, .ref q2, .ref q3, .ref q4, .ref q5, .ref q6, .ref q7, .ref q8, .int 0])), (q1, .inl (cI, 30, .inl (fun _ => 0))), (q2, .inl (cI, 30, .inl (fun _ => 0))), (q3, .inl (cI, 30, .inl (fun _ => 0))), (q4, .inl (cI, 30, .inl (fun _ => 0))), (q5, .inl (cI, 30, .inl (fun _ => 0))), (q6, .inl (cI, 30, .inl (fun _ => 0))), (q7, .inl (cI, 30, .inl (fun _ => 0))), (q8, .inl (cI, 30, .inl (fun _ => 0)))]) (ref := "Trumpvault$Cards") (ci := 1) (index := 36) (ty := .int) X iX1 tyX1 tyX1_ok nmX1 0 rfl rfl 8 (by decide) (by decide +kernel) (fun _ h9 => h9) rfl (by decide +kernel) rfl rfl (Nat.le_of_ble_eq_true rfl) dX1_init_70 rfl ?_
  exact v_retc X hr hk (fun i => if i = 4 then a else if i = 5 then q1 else if i = 6 then q2 else if i = 7 then q3 else if i = 8 then q4 else if i = 9 then q5 else if i = 10 then q6 else if i = 11 then q7 else q8) rfl rfl (Nat.le_of_ble_eq_true rfl) (Nat.le_of_ble_eq_true rfl) dX1_init_73

set_option maxHeartbeats 1000000 in
set_option maxRecDepth 100000 in
theorem c_X2_init (l : Launch) (D : va_G) (cI cII cL : ClassId) (a : Nat) : v_Ci l D vwCl (tyl cI cII cL) yX2_init wsX2_init { frames := 1, cells := 2, slots := 1024, locals := 12 } [.ref a] [(a, .inr (2, [.null, .null, .int 0]))] (fun h => h 26 = a) (fun h => wH h cI Sz) := by
  refine v_ofCi (cc := cX2_init) (maxL := 1) (own := RX2) (lv0 := [(0, .ref a)]) (by decide) rfl rfl rfl (Nat.le_of_ble_eq_true rfl) rfl ?_
  intro p e s m below meth c X hIX hr hk hin
  have iX2 : ∀ w ∈ wsX20, w ∈ wsX2_init := by decide +kernel
  refine v_aload_n X dX2_init_0 rfl ?_
  refine v_objinit X (by decide +kernel) (by decide +kernel) (by decide +kernel) dX2_init_1 (Nat.le_of_ble_eq_true rfl) (Nat.le_of_ble_eq_true rfl) ?_
  refine v_aload_n X dX2_init_4 rfl ?_
  refine v_sipush (x := 512) X dX2_init_5 rfl ?_
  refine v_newarr (cI := cI) (N := 512) X (by decide +kernel) rfl rfl (by decide) (Nat.le_of_ble_eq_true rfl) (Nat.le_of_ble_eq_true rfl) (Nat.le_of_ble_eq_true rfl) dX2_init_8 (fun q1 => ?_)
  refine v_w (w' := [(a, .inr (2, [.null, .null, .int 0])), (q1, .inl (cI, 512, .inl (fun _ => 0)))]) rfl ?_
  refine v_putfieldF (w' := [(a, .inr (2, [.ref q1, .null, .int 0])), (q1, .inl (cI, 512, .inl (fun _ => 0)))]) (ref := "Trumpvault$History") (ci := 2) (index := 9) (ty := .array .int) X iX2 tyX2 tyX2_ok nmX2 0 rfl rfl 0 (by decide) (by decide +kernel) (fun _ h9 => h9) rfl hin rfl (by decide +kernel) rfl rfl (Nat.le_of_ble_eq_true rfl) dX2_init_10 rfl ?_
  refine v_aload_n X dX2_init_13 rfl ?_
  refine v_sipush (x := 512) X dX2_init_14 rfl ?_
  refine v_newarr (cI := cI) (N := 512) X (by decide +kernel) rfl rfl (by decide) (Nat.le_of_ble_eq_true rfl) (Nat.le_of_ble_eq_true rfl) (Nat.le_of_ble_eq_true rfl) dX2_init_17 (fun q2 => ?_)
  refine v_w (w' := [(a, .inr (2, [.ref q1, .null, .int 0])), (q1, .inl (cI, 512, .inl (fun _ => 0))), (q2, .inl (cI, 512, .inl (fun _ => 0)))]) rfl ?_
  refine v_putfieldF (w' := [(a, .inr (2, [.ref q1, .ref q2, .int 0])), (q1, .inl (cI, 512, .inl (fun _ => 0))), (q2, .inl (cI, 512, .inl (fun _ => 0)))]) (ref := "Trumpvault$History") (ci := 2) (index := 15) (ty := .array .int) X iX2 tyX2 tyX2_ok nmX2 0 rfl rfl 1 (by decide) (by decide +kernel) (fun _ h9 => h9) rfl hin rfl (by decide +kernel) rfl rfl (Nat.le_of_ble_eq_true rfl) dX2_init_19 rfl ?_
  refine v_aload_n X dX2_init_22 rfl ?_
  refine v_iconst (x := 0) X dX2_init_23 rfl ?_
  refine v_putfield (w' := [(a, .inr (2, [.ref q1, .ref q2, .int 0])), (q1, .inl (cI, 512, .inl (fun _ => 0))), (q2, .inl (cI, 512, .inl (fun _ => 0)))]) (ref := "Trumpvault$History") (ci := 2) (index := 18) (ty := .int) X iX2 tyX2 tyX2_ok nmX2 0 rfl rfl 2 (by decide) (by decide +kernel) (fun _ h9 => h9) rfl (by decide +kernel) rfl rfl (Nat.le_of_ble_eq_true rfl) dX2_init_24 rfl ?_
  exact v_retc X hr hk (fun i => if i = 26 then a else if i = 27 then q1 else q2) rfl rfl (Nat.le_of_ble_eq_true rfl) (Nat.le_of_ble_eq_true rfl) dX2_init_27

set_option maxHeartbeats 1000000 in
set_option maxRecDepth 100000 in
theorem c_X0_init (l : Launch) (D : va_G) (cI cII cL : ClassId) (a : Nat) : v_Ci l D vwCl (tyl cI cII cL) yX0_init wsX0_init { frames := 1, cells := 12, slots := 90, locals := 12 } [.ref a] [(a, .inr (0, [.null, .null]))] (fun h => h 13 = a) (fun h => wB h cI cII Sz) := by
  refine v_ofCi (cc := cX0_init) (maxL := 1) (own := RX0) (lv0 := [(0, .ref a)]) (by decide) rfl rfl rfl (Nat.le_of_ble_eq_true rfl) rfl ?_
  intro p e s m below meth c X hIX hr hk hin
  have iX0 : ∀ w ∈ wsX00, w ∈ wsX0_init := by decide +kernel
  refine v_aload_n X dX0_init_0 rfl ?_
  refine v_objinit X (by decide +kernel) (by decide +kernel) (by decide +kernel) dX0_init_1 (Nat.le_of_ble_eq_true rfl) (Nat.le_of_ble_eq_true rfl) ?_
  refine v_aload_n X dX0_init_4 rfl ?_
  refine v_iconst (x := 5) X dX0_init_5 rfl ?_
  refine v_bipush (x := 8) X dX0_init_6 rfl ?_
  refine v_mna (cI := cI) (cII := cII) X hIX.1 (by decide +kernel) (by decide +kernel) rfl rfl (Nat.le_of_ble_eq_true rfl) (Nat.le_of_ble_eq_true rfl) dX0_init_8 (fun q1 r1 => ?_)
  refine v_w (w' := [(a, .inr (0, [.null, .null])), (q1, .inl (cII, 5, .inr (.inr (.inr (.inr (fun i => if i < 5 then some (r1 i) else none)))))), (r1 0, .inl (cI, 8, .inl (fun _ => 0))), (r1 1, .inl (cI, 8, .inl (fun _ => 0))), (r1 2, .inl (cI, 8, .inl (fun _ => 0))), (r1 3, .inl (cI, 8, .inl (fun _ => 0))), (r1 4, .inl (cI, 8, .inl (fun _ => 0)))]) rfl ?_
  refine v_putfieldF (w' := [(a, .inr (0, [.ref q1, .null])), (q1, .inl (cII, 5, .inr (.inr (.inr (.inr (fun i => if i < 5 then some (r1 i) else none)))))), (r1 0, .inl (cI, 8, .inl (fun _ => 0))), (r1 1, .inl (cI, 8, .inl (fun _ => 0))), (r1 2, .inl (cI, 8, .inl (fun _ => 0))), (r1 3, .inl (cI, 8, .inl (fun _ => 0))), (r1 4, .inl (cI, 8, .inl (fun _ => 0)))]) (ref := "Trumpvault$Bids") (ci := 0) (index := 11) (ty := .array (.array .int)) X iX0 tyX0 tyX0_ok nmX0 0 rfl rfl 0 (by decide) (by decide +kernel) (fun _ h9 => h9) rfl hin rfl (by decide +kernel) rfl rfl (Nat.le_of_ble_eq_true rfl) dX0_init_12 rfl ?_
  refine v_aload_n X dX0_init_15 rfl ?_
  refine v_iconst (x := 5) X dX0_init_16 rfl ?_
  refine v_bipush (x := 8) X dX0_init_17 rfl ?_
  refine v_mna (cI := cI) (cII := cII) X hIX.1 (by decide +kernel) (by decide +kernel) rfl rfl (Nat.le_of_ble_eq_true rfl) (Nat.le_of_ble_eq_true rfl) dX0_init_19 (fun q2 r2 => ?_)
  refine v_w (w' := [(a, .inr (0, [.ref q1, .null])), (q1, .inl (cII, 5, .inr (.inr (.inr (.inr (fun i => if i < 5 then some (r1 i) else none)))))), (r1 0, .inl (cI, 8, .inl (fun _ => 0))), (r1 1, .inl (cI, 8, .inl (fun _ => 0))), (r1 2, .inl (cI, 8, .inl (fun _ => 0))), (r1 3, .inl (cI, 8, .inl (fun _ => 0))), (r1 4, .inl (cI, 8, .inl (fun _ => 0))), (q2, .inl (cII, 5, .inr (.inr (.inr (.inr (fun i => if i < 5 then some (r2 i) else none)))))), (r2 0, .inl (cI, 8, .inl (fun _ => 0))), (r2 1, .inl (cI, 8, .inl (fun _ => 0))), (r2 2, .inl (cI, 8, .inl (fun _ => 0))), (r2 3, .inl (cI, 8, .inl (fun _ => 0))), (r2 4, .inl (cI, 8, .inl (fun _ => 0)))]) rfl ?_
  refine v_putfieldF (w' := [(a, .inr (0, [.ref q1, .ref q2])), (q1, .inl (cII, 5, .inr (.inr (.inr (.inr (fun i => if i < 5 then some (r1 i) else none)))))), (r1 0, .inl (cI, 8, .inl (fun _ => 0))), (r1 1, .inl (cI, 8, .inl (fun _ => 0))), (r1 2, .inl (cI, 8, .inl (fun _ => 0))), (r1 3, .inl (cI, 8, .inl (fun _ => 0))), (r1 4, .inl (cI, 8, .inl (fun _ => 0))), (q2, .inl (cII, 5, .inr (.inr (.inr (.inr (fun i => if i < 5 then some (r2 i) else none)))))), (r2 0, .inl (cI, 8, .inl (fun _ => 0))), (r2 1, .inl (cI, 8, .inl (fun _ => 0))), (r2 2, .inl (cI, 8, .inl (fun _ => 0))), (r2 3, .inl (cI, 8, .inl (fun _ => 0))), (r2 4, .inl (cI, 8, .inl (fun _ => 0)))]) (ref := "Trumpvault$Bids") (ci := 0) (index := 16) (ty := .array (.array .int)) X iX0 tyX0 tyX0_ok nmX0 0 rfl rfl 1 (by decide) (by decide +kernel) (fun _ h9 => h9) rfl hin rfl (by decide +kernel) rfl rfl (Nat.le_of_ble_eq_true rfl) dX0_init_23 rfl ?_
  obtain ⟨h, hh⟩ : ∃ h : Nat → Nat, h = fun i => if i = 13 then a else if i = 14 then q1 else if i < 20 then r1 (i - 15) else if i = 20 then q2 else r2 (i - 21) := ⟨_, rfl⟩
  have e1 : (fun j => if j < 5 then some (h (15 + j)) else none) = (fun i => if i < 5 then some (r1 i) else none) := funext fun j => by
    by_cases hj : j < 5
    · rw [if_pos hj, if_pos hj, hh]
      simp only [show ¬ 15 + j = 13 by omega, show ¬ 15 + j = 14 by omega, show 15 + j < 20 by omega, if_true, if_false, show 15 + j - 15 = j by omega]
    · rw [if_neg hj, if_neg hj]
  have e2 : (fun j => if j < 5 then some (h (21 + j)) else none) = (fun i => if i < 5 then some (r2 i) else none) := funext fun j => by
    by_cases hj : j < 5
    · rw [if_pos hj, if_pos hj, hh]
      simp only [show ¬ 21 + j = 13 by omega, show ¬ 21 + j = 14 by omega, show ¬ 21 + j < 20 by omega, show ¬ 21 + j = 20 by omega, if_true, if_false, show 21 + j - 21 = j by omega]
    · rw [if_neg hj, if_neg hj]
  exact v_retc X hr hk h (by rw [hh]; rfl) (by unfold wB; rw [e1, e2, hh]; rfl) (Nat.le_of_ble_eq_true rfl) (Nat.le_of_ble_eq_true rfl) dX0_init_26

set_option maxHeartbeats 1000000 in
set_option maxRecDepth 100000 in
theorem c_X3_init (l : Launch) (D : va_G) (cI cII cL : ClassId) (a : Nat) : v_Ci l D vwCl (tyl cI cII cL) yX3_init wsX3_init { frames := 2, cells := 28, slots := 1386, locals := 40 } [.ref a] [(a, .inr (3, [.null, .null, .null, .null, .null, .null, .int 0, .int 0]))] (fun h => h 0 = a) (fun h => wT h cI cII S0c) := by
  refine v_ofCi (cc := cX3_init) (maxL := 1) (own := RX3) (lv0 := [(0, .ref a)]) (by decide) rfl rfl rfl (Nat.le_of_ble_eq_true rfl) rfl ?_
  intro p e s m below meth c X hIX hr hk hin
  have iX3 : ∀ w ∈ wsX30, w ∈ wsX3_init := by decide +kernel
  have iX0 : ∀ w ∈ wsX00, w ∈ wsX3_init := by decide +kernel
  have iX1 : ∀ w ∈ wsX10, w ∈ wsX3_init := by decide +kernel
  have iX2 : ∀ w ∈ wsX20, w ∈ wsX3_init := by decide +kernel
  refine v_aload_n X dX3_init_0 rfl ?_
  refine v_objinit X (by decide +kernel) (by decide +kernel) (by decide +kernel) dX3_init_1 (Nat.le_of_ble_eq_true rfl) (Nat.le_of_ble_eq_true rfl) ?_
  refine v_aload_n X dX3_init_4 rfl ?_
  refine v_newobj (ci := 1) (fs := [.null, .null, .null, .null, .null, .null, .null, .null, .int 0]) (index := 7) X iX1 tyX1 tyX1_ok (by decide +kernel) (by decide +kernel) (by decide +kernel) rfl (fun j hj => by rcases (show j = 0 ∨ j = 1 ∨ j = 2 ∨ j = 3 ∨ j = 4 ∨ j = 5 ∨ j = 6 ∨ j = 7 ∨ j = 8 by omega) with rfl | rfl | rfl | rfl | rfl | rfl | rfl | rfl | rfl <;> rfl) (Nat.le_of_ble_eq_true rfl) (Nat.le_of_ble_eq_true rfl) dX3_init_5 (fun q1 => ?_)
  refine v_w (w' := [(a, .inr (3, [.null, .null, .null, .null, .null, .null, .int 0, .int 0])), (q1, .inr (1, [.null, .null, .null, .null, .null, .null, .null, .null, .int 0]))]) rfl ?_
  refine v_dup X dX3_init_8 rfl ?_
  refine v_callIN (wr := [(a, .inr (3, [.null, .null, .null, .null, .null, .null, .int 0, .int 0]))]) (As := []) (rest := [.ref q1, .ref a]) (host := RX3) X hIX (c_X1_init l D cI cII cL q1) ⟨va_cnB (own := RX3) (host := RX3) 0 X.2.2.2.1 gX3_init_X1_init_n9 rfl rfl rfl hIX.2.1 (X.2.2.2.1 _ (by decide +kernel)) (by decide +kernel) ⟨Nat.le_of_ble_eq_true rfl, Nat.le_of_ble_eq_true rfl⟩, rfl, X.2.2.2.1 _ (by decide +kernel)⟩ [1] (List.range 1) rfl rfl (by decide) (by decide) (by decide) rfl rfl (Nat.le_of_ble_eq_true rfl) dX3_init_9 ⟨Nat.le_of_ble_eq_true rfl, Nat.le_of_ble_eq_true rfl⟩ (fun hC hphC => ?_)
  obtain rfl : q1 = hC 4 := hphC.symm
  refine v_w (w' := ([(a, .inr (3, [.null, .null, .null, .null, .null, .null, .int 0, .int 0]))] ++ ((wC hC cI Sz)))) rfl ?_
  refine v_putfieldF (w' := ([(a, .inr (3, [.ref (hC 4), .null, .null, .null, .null, .null, .int 0, .int 0]))] ++ ((wC hC cI Sz)))) (ref := "Trumpvault") (ci := 3) (index := 10) (ty := .object "Trumpvault$Cards") X iX3 tyX3 tyX3_ok nmX3 0 rfl rfl 0 (by decide) (by decide +kernel) (fun _ h9 => h9) rfl hin rfl (by decide +kernel) rfl rfl (Nat.le_of_ble_eq_true rfl) dX3_init_12 rfl ?_
  refine v_aload_n X dX3_init_15 rfl ?_
  refine v_newobj (ci := 0) (fs := [.null, .null]) (index := 16) X iX0 tyX0 tyX0_ok (by decide +kernel) (by decide +kernel) (by decide +kernel) rfl (fun j hj => by rcases (show j = 0 ∨ j = 1 by omega) with rfl | rfl <;> rfl) (Nat.le_of_ble_eq_true rfl) (Nat.le_of_ble_eq_true rfl) dX3_init_16 (fun q2 => ?_)
  refine v_w (w' := ([(a, .inr (3, [.ref (hC 4), .null, .null, .null, .null, .null, .int 0, .int 0]))] ++ ((wC hC cI Sz) ++ ([(q2, .inr (0, [.null, .null]))])))) rfl ?_
  refine v_dup X dX3_init_19 rfl ?_
  refine v_callIN (wr := ([(a, .inr (3, [.ref (hC 4), .null, .null, .null, .null, .null, .int 0, .int 0]))] ++ ((wC hC cI Sz)))) (As := []) (rest := [.ref q2, .ref a]) (host := RX3) X hIX (c_X0_init l D cI cII cL q2) ⟨va_cnB (own := RX3) (host := RX3) 0 X.2.2.2.1 gX3_init_X0_init_n18 rfl rfl rfl hIX.2.2.1 (X.2.2.2.1 _ (by decide +kernel)) (by decide +kernel) ⟨Nat.le_of_ble_eq_true rfl, Nat.le_of_ble_eq_true rfl⟩, rfl, X.2.2.2.1 _ (by decide +kernel)⟩ [10] (List.range 10) rfl rfl (by decide) (by decide) (by decide) rfl rfl (Nat.le_of_ble_eq_true rfl) dX3_init_20 ⟨Nat.le_of_ble_eq_true rfl, Nat.le_of_ble_eq_true rfl⟩ (fun hB hphB => ?_)
  obtain rfl : q2 = hB 13 := hphB.symm
  refine v_w (w' := ([(a, .inr (3, [.ref (hC 4), .null, .null, .null, .null, .null, .int 0, .int 0]))] ++ ((wC hC cI Sz) ++ ((wB hB cI cII Sz))))) rfl ?_
  refine v_putfieldF (w' := ([(a, .inr (3, [.ref (hC 4), .ref (hB 13), .null, .null, .null, .null, .int 0, .int 0]))] ++ ((wC hC cI Sz) ++ ((wB hB cI cII Sz))))) (ref := "Trumpvault") (ci := 3) (index := 19) (ty := .object "Trumpvault$Bids") X iX3 tyX3 tyX3_ok nmX3 0 rfl rfl 1 (by decide) (by decide +kernel) (fun _ h9 => h9) rfl hin rfl (by decide +kernel) rfl rfl (Nat.le_of_ble_eq_true rfl) dX3_init_23 rfl ?_
  refine v_aload_n X dX3_init_26 rfl ?_
  refine v_newobj (ci := 2) (fs := [.null, .null, .int 0]) (index := 23) X iX2 tyX2 tyX2_ok (by decide +kernel) (by decide +kernel) (by decide +kernel) rfl (fun j hj => by rcases (show j = 0 ∨ j = 1 ∨ j = 2 by omega) with rfl | rfl | rfl <;> rfl) (Nat.le_of_ble_eq_true rfl) (Nat.le_of_ble_eq_true rfl) dX3_init_27 (fun q3 => ?_)
  refine v_w (w' := ([(a, .inr (3, [.ref (hC 4), .ref (hB 13), .null, .null, .null, .null, .int 0, .int 0]))] ++ ((wC hC cI Sz) ++ ((wB hB cI cII Sz) ++ ([(q3, .inr (2, [.null, .null, .int 0]))]))))) rfl ?_
  refine v_dup X dX3_init_30 rfl ?_
  refine v_callIN (wr := ([(a, .inr (3, [.ref (hC 4), .ref (hB 13), .null, .null, .null, .null, .int 0, .int 0]))] ++ ((wC hC cI Sz) ++ ((wB hB cI cII Sz))))) (As := []) (rest := [.ref q3, .ref a]) (host := RX3) X hIX (c_X2_init l D cI cII cL q3) ⟨va_cnB (own := RX3) (host := RX3) 0 X.2.2.2.1 gX3_init_X2_init_n25 rfl rfl rfl hIX.2.2.2 (X.2.2.2.1 _ (by decide +kernel)) (by decide +kernel) ⟨Nat.le_of_ble_eq_true rfl, Nat.le_of_ble_eq_true rfl⟩, rfl, X.2.2.2.1 _ (by decide +kernel)⟩ [23] (List.range 23) rfl rfl (by decide) (by decide) (by decide) rfl rfl (Nat.le_of_ble_eq_true rfl) dX3_init_31 ⟨Nat.le_of_ble_eq_true rfl, Nat.le_of_ble_eq_true rfl⟩ (fun hH hphH => ?_)
  obtain rfl : q3 = hH 26 := hphH.symm
  refine v_w (w' := ([(a, .inr (3, [.ref (hC 4), .ref (hB 13), .null, .null, .null, .null, .int 0, .int 0]))] ++ ((wC hC cI Sz) ++ ((wB hB cI cII Sz) ++ ((wH hH cI Sz)))))) rfl ?_
  refine v_putfieldF (w' := ([(a, .inr (3, [.ref (hC 4), .ref (hB 13), .ref (hH 26), .null, .null, .null, .int 0, .int 0]))] ++ ((wC hC cI Sz) ++ ((wB hB cI cII Sz) ++ ((wH hH cI Sz)))))) (ref := "Trumpvault") (ci := 3) (index := 26) (ty := .object "Trumpvault$History") X iX3 tyX3 tyX3_ok nmX3 0 rfl rfl 2 (by decide) (by decide +kernel) (fun _ h9 => h9) rfl hin rfl (by decide +kernel) rfl rfl (Nat.le_of_ble_eq_true rfl) dX3_init_34 rfl ?_
  refine v_aload_n X dX3_init_37 rfl ?_
  refine v_iconst (x := 5) X dX3_init_38 rfl ?_
  refine v_newarr (cI := cI) (N := 5) X (by decide +kernel) rfl rfl (by decide) (Nat.le_of_ble_eq_true rfl) (Nat.le_of_ble_eq_true rfl) (Nat.le_of_ble_eq_true rfl) dX3_init_39 (fun q4 => ?_)
  refine v_w (w' := ([(a, .inr (3, [.ref (hC 4), .ref (hB 13), .ref (hH 26), .null, .null, .null, .int 0, .int 0]))] ++ ((wC hC cI Sz) ++ ((wB hB cI cII Sz) ++ ((wH hH cI Sz) ++ ([(q4, .inl (cI, 5, .inl (fun _ => 0)))])))))) rfl ?_
  refine v_putfieldF (w' := ([(a, .inr (3, [.ref (hC 4), .ref (hB 13), .ref (hH 26), .ref q4, .null, .null, .int 0, .int 0]))] ++ ((wC hC cI Sz) ++ ((wB hB cI cII Sz) ++ ((wH hH cI Sz) ++ ([(q4, .inl (cI, 5, .inl (fun _ => 0)))])))))) (ref := "Trumpvault") (ci := 3) (index := 30) (ty := .array .int) X iX3 tyX3 tyX3_ok nmX3 0 rfl rfl 3 (by decide) (by decide +kernel) (fun _ h9 => h9) rfl hin rfl (by decide +kernel) rfl rfl (Nat.le_of_ble_eq_true rfl) dX3_init_41 rfl ?_
  refine v_aload_n X dX3_init_44 rfl ?_
  refine v_getfield (ref := "Trumpvault") (ci := 3) (index := 30) (v := .ref q4) X iX3 0 rfl rfl 3 (by decide) (by decide +kernel) (fun _ h9 => h9) rfl dX3_init_45 ?_
  refine v_bipush (x := 100) X dX3_init_48 rfl ?_
  refine v_callSvc (w' := ([(a, .inr (3, [.ref (hC 4), .ref (hB 13), .ref (hH 26), .ref q4, .null, .null, .int 0, .int 0]))] ++ ((wC hC cI Sz) ++ ((wB hB cI cII Sz) ++ ((wH hH cI Sz) ++ ([(q4, .inl (cI, 5, .inl (fun j => if j < 5 then 100 else 0)))])))))) (wr := ([(a, .inr (3, [.ref (hC 4), .ref (hB 13), .ref (hH 26), .ref q4, .null, .null, .int 0, .int 0]))] ++ ((wC hC cI Sz) ++ ((wB hB cI cII Sz) ++ ((wH hH cI Sz)))))) (As := [.ref q4, .int 100]) (rest := []) X (c_J7_fill l D cI cII cL q4 5 (by decide) 100 (fun _ => 0)) (va_cwS 2 X.2.2.2.1 gX3_init_J7_fill_53178 rfl rfl rfl (by decide +kernel) ⟨Nat.le_of_ble_eq_true rfl, Nat.le_of_ble_eq_true rfl⟩) [26] (List.range 26) (List.range 27) ⟨rfl, rfl, by decide, by decide, by decide, rfl, by decide⟩ rfl rfl (Nat.le_of_ble_eq_true rfl) dX3_init_50 ⟨Nat.le_of_ble_eq_true rfl, Nat.le_of_ble_eq_true rfl⟩ ?_
  refine v_aload_n X dX3_init_53 rfl ?_
  refine v_bipush (x := 8) X dX3_init_54 rfl ?_
  refine v_newarr (cI := cI) (N := 8) X (by decide +kernel) rfl rfl (by decide) (Nat.le_of_ble_eq_true rfl) (Nat.le_of_ble_eq_true rfl) (Nat.le_of_ble_eq_true rfl) dX3_init_56 (fun q5 => ?_)
  refine v_w (w' := ([(a, .inr (3, [.ref (hC 4), .ref (hB 13), .ref (hH 26), .ref q4, .null, .null, .int 0, .int 0]))] ++ ((wC hC cI Sz) ++ ((wB hB cI cII Sz) ++ ((wH hH cI Sz) ++ ([(q4, .inl (cI, 5, .inl (fun j => if j < 5 then 100 else 0))), (q5, .inl (cI, 8, .inl (fun _ => 0)))])))))) rfl ?_
  refine v_putfieldF (w' := ([(a, .inr (3, [.ref (hC 4), .ref (hB 13), .ref (hH 26), .ref q4, .ref q5, .null, .int 0, .int 0]))] ++ ((wC hC cI Sz) ++ ((wB hB cI cII Sz) ++ ((wH hH cI Sz) ++ ([(q4, .inl (cI, 5, .inl (fun j => if j < 5 then 100 else 0))), (q5, .inl (cI, 8, .inl (fun _ => 0)))])))))) (ref := "Trumpvault") (ci := 3) (index := 40) (ty := .array .int) X iX3 tyX3 tyX3_ok nmX3 0 rfl rfl 4 (by decide) (by decide +kernel) (fun _ h9 => h9) rfl hin rfl (by decide +kernel) rfl rfl (Nat.le_of_ble_eq_true rfl) dX3_init_58 rfl ?_
  refine v_aload_n X dX3_init_61 rfl ?_
  refine v_getfield (ref := "Trumpvault") (ci := 3) (index := 40) (v := .ref q5) X iX3 0 rfl rfl 4 (by decide) (by decide +kernel) (fun _ h9 => h9) rfl dX3_init_62 ?_
  refine v_iconst (x := (-1)) X dX3_init_65 rfl ?_
  refine v_callSvc (w' := ([(a, .inr (3, [.ref (hC 4), .ref (hB 13), .ref (hH 26), .ref q4, .ref q5, .null, .int 0, .int 0]))] ++ ((wC hC cI Sz) ++ ((wB hB cI cII Sz) ++ ((wH hH cI Sz) ++ ([(q4, .inl (cI, 5, .inl (fun j => if j < 5 then 100 else 0))), (q5, .inl (cI, 8, .inl (fun j => if j < 8 then (-1) else 0)))])))))) (wr := ([(a, .inr (3, [.ref (hC 4), .ref (hB 13), .ref (hH 26), .ref q4, .ref q5, .null, .int 0, .int 0]))] ++ ((wC hC cI Sz) ++ ((wB hB cI cII Sz) ++ ((wH hH cI Sz) ++ ([(q4, .inl (cI, 5, .inl (fun j => if j < 5 then 100 else 0)))])))))) (As := [.ref q5, .int (-1)]) (rest := []) X (c_J7_fill l D cI cII cL q5 8 (by decide) (-1) (fun _ => 0)) (va_cwS 2 X.2.2.2.1 gX3_init_J7_fill_53178 rfl rfl rfl (by decide +kernel) ⟨Nat.le_of_ble_eq_true rfl, Nat.le_of_ble_eq_true rfl⟩) [27] (List.range 27) (List.range 28) ⟨rfl, rfl, by decide, by decide, by decide, rfl, by decide⟩ rfl rfl (Nat.le_of_ble_eq_true rfl) dX3_init_66 ⟨Nat.le_of_ble_eq_true rfl, Nat.le_of_ble_eq_true rfl⟩ ?_
  refine v_aload_n X dX3_init_69 rfl ?_
  refine v_iconst (x := 5) X dX3_init_70 rfl ?_
  refine v_newarr (cI := cI) (N := 5) X (by decide +kernel) rfl rfl (by decide) (Nat.le_of_ble_eq_true rfl) (Nat.le_of_ble_eq_true rfl) (Nat.le_of_ble_eq_true rfl) dX3_init_71 (fun q6 => ?_)
  refine v_w (w' := ([(a, .inr (3, [.ref (hC 4), .ref (hB 13), .ref (hH 26), .ref q4, .ref q5, .null, .int 0, .int 0]))] ++ ((wC hC cI Sz) ++ ((wB hB cI cII Sz) ++ ((wH hH cI Sz) ++ ([(q4, .inl (cI, 5, .inl (fun j => if j < 5 then 100 else 0))), (q5, .inl (cI, 8, .inl (fun j => if j < 8 then (-1) else 0))), (q6, .inl (cI, 5, .inl (fun _ => 0)))])))))) rfl ?_
  refine v_putfieldF (w' := ([(a, .inr (3, [.ref (hC 4), .ref (hB 13), .ref (hH 26), .ref q4, .ref q5, .ref q6, .int 0, .int 0]))] ++ ((wC hC cI Sz) ++ ((wB hB cI cII Sz) ++ ((wH hH cI Sz) ++ ([(q4, .inl (cI, 5, .inl (fun j => if j < 5 then 100 else 0))), (q5, .inl (cI, 8, .inl (fun j => if j < 8 then (-1) else 0))), (q6, .inl (cI, 5, .inl (fun _ => 0)))])))))) (ref := "Trumpvault") (ci := 3) (index := 43) (ty := .array .int) X iX3 tyX3 tyX3_ok nmX3 0 rfl rfl 5 (by decide) (by decide +kernel) (fun _ h9 => h9) rfl hin rfl (by decide +kernel) rfl rfl (Nat.le_of_ble_eq_true rfl) dX3_init_73 rfl ?_
  refine v_aload_n X dX3_init_76 rfl ?_
  refine v_iconst (x := 0) X dX3_init_77 rfl ?_
  refine v_putfield (w' := ([(a, .inr (3, [.ref (hC 4), .ref (hB 13), .ref (hH 26), .ref q4, .ref q5, .ref q6, .int 0, .int 0]))] ++ ((wC hC cI Sz) ++ ((wB hB cI cII Sz) ++ ((wH hH cI Sz) ++ ([(q4, .inl (cI, 5, .inl (fun j => if j < 5 then 100 else 0))), (q5, .inl (cI, 8, .inl (fun j => if j < 8 then (-1) else 0))), (q6, .inl (cI, 5, .inl (fun _ => 0)))])))))) (ref := "Trumpvault") (ci := 3) (index := 46) (ty := .int) X iX3 tyX3 tyX3_ok nmX3 0 rfl rfl 6 (by decide) (by decide +kernel) (fun _ h9 => h9) rfl (by decide +kernel) rfl rfl (Nat.le_of_ble_eq_true rfl) dX3_init_78 rfl ?_
  refine v_aload_n X dX3_init_81 rfl ?_
  refine v_iconst (x := 0) X dX3_init_82 rfl ?_
  refine v_putfield (w' := ([(a, .inr (3, [.ref (hC 4), .ref (hB 13), .ref (hH 26), .ref q4, .ref q5, .ref q6, .int 0, .int 0]))] ++ ((wC hC cI Sz) ++ ((wB hB cI cII Sz) ++ ((wH hH cI Sz) ++ ([(q4, .inl (cI, 5, .inl (fun j => if j < 5 then 100 else 0))), (q5, .inl (cI, 8, .inl (fun j => if j < 8 then (-1) else 0))), (q6, .inl (cI, 5, .inl (fun _ => 0)))])))))) (ref := "Trumpvault") (ci := 3) (index := 50) (ty := .int) X iX3 tyX3 tyX3_ok nmX3 0 rfl rfl 7 (by decide) (by decide +kernel) (fun _ h9 => h9) rfl (by decide +kernel) rfl rfl (Nat.le_of_ble_eq_true rfl) dX3_init_83 rfl ?_
  obtain ⟨h, hh⟩ : ∃ h : Nat → Nat, h = fun i => if i = 0 then a else if i = 1 then q4 else if i = 2 then q5 else if i = 3 then q6 else if i < 13 then hC i else if i < 26 then hB i else hH i := ⟨_, rfl⟩
  have e1 : (fun j => if j < 5 then some (h (15 + j)) else none) = (fun j => if j < 5 then some (hB (15 + j)) else none) := funext fun j => by
    by_cases hj : j < 5
    · rw [if_pos hj, if_pos hj, hh]
      simp only [show ¬ 15 + j = 0 by omega, show ¬ 15 + j = 1 by omega, show ¬ 15 + j = 2 by omega, show ¬ 15 + j = 3 by omega, show ¬ 15 + j < 13 by omega, show 15 + j < 26 by omega, if_true, if_false]
    · rw [if_neg hj, if_neg hj]
  have e2 : (fun j => if j < 5 then some (h (21 + j)) else none) = (fun j => if j < 5 then some (hB (21 + j)) else none) := funext fun j => by
    by_cases hj : j < 5
    · rw [if_pos hj, if_pos hj, hh]
      simp only [show ¬ 21 + j = 0 by omega, show ¬ 21 + j = 1 by omega, show ¬ 21 + j = 2 by omega, show ¬ 21 + j = 3 by omega, show ¬ 21 + j < 13 by omega, show 21 + j < 26 by omega, if_true, if_false]
    · rw [if_neg hj, if_neg hj]
  refine v_perm [0, 26, 27, 28, 1, 2, 3, 4, 5, 6, 7, 8, 9, 10, 11, 12, 13, 14, 15, 16, 17, 18, 19, 20, 21, 22, 23, 24, 25] (w' := wT h cI cII S0c) (by unfold wT; rw [e1, e2, hh]; rfl) (by decide) ?_
  exact v_retc X hr hk h (by rw [hh]; rfl) rfl (Nat.le_of_ble_eq_true rfl) (Nat.le_of_ble_eq_true rfl) dX3_init_86

def Sk1 (k : Nat) : St := fun i j => if i = 1 then (if j < k then 100 else 0) else 0
def Sk2 (k : Nat) : St := fun i j => if i = 1 then (if j < 5 then 100 else 0) else if i = 14 then (if j < k then 1000000 else 0) else 0
theorem Sk1_s (k : Nat) (hk : k < 5) : sU (Sk1 k) 1 (nI k).toNatClampNeg 100 = Sk1 (k + 1) := by
  rw [nI_clamp (by omega)]
  funext i j
  unfold sU Sk1 upd
  by_cases h1 : i = 1
  · subst h1
    by_cases h2 : j = k
    · subst h2; simp
    · by_cases h3 : j < k
      · simp [h2, h3, show j < k + 1 by omega]
      · simp [h2, h3, show ¬ j < k + 1 by omega]
  · simp [h1]
theorem Sk2_s (k : Nat) (hk : k < 8) : sU (Sk2 k) 14 (nI k).toNatClampNeg 1000000 = Sk2 (k + 1) := by
  rw [nI_clamp (by omega)]
  funext i j
  unfold sU Sk2 upd
  by_cases h1 : i = 14
  · subst h1
    by_cases h2 : j = k
    · subst h2; simp
    · by_cases h3 : j < k
      · simp [h2, h3, show j < k + 1 by omega]
      · simp [h2, h3, show ¬ j < k + 1 by omega]
  · simp [h1]
theorem Sk_12 : Sk1 5 = Sk2 0 := by
  funext i j
  unfold Sk1 Sk2
  by_cases h1 : i = 1 <;> simp [h1]
set_option maxHeartbeats 1000000 in
set_option maxRecDepth 100000 in
theorem c_X4_init (l : Launch) (D : va_G) (cI cII cL : ClassId) (a : Nat) : v_Ci l D vwCl (tyl cI cII cL) yX4_init wsX4_init { frames := 1, cells := 13, slots := 338, locals := 12 } [.ref a] [(a, .inr (4, [.int 0, .null, .null, .null, .null, .null, .null, .null, .null, .null, .int 0, .null, .null, .int 0, .null, .null, .int 0]))] (fun h => h 0 = a) (fun h => wM h cI S0m) := by
  refine v_ofCi (cc := cX4_init) (maxL := 2) (own := RX4) (lv0 := [(0, .ref a)]) (by decide) rfl rfl rfl (Nat.le_of_ble_eq_true rfl) rfl ?_
  intro p e s m below meth c X hIX hr hk hin
  have iX4 : ∀ w ∈ wsX40, w ∈ wsX4_init := by decide +kernel
  refine v_aload_n X dX4_init_0 rfl ?_
  refine v_objinit X (by decide +kernel) (by decide +kernel) (by decide +kernel) dX4_init_1 (Nat.le_of_ble_eq_true rfl) (Nat.le_of_ble_eq_true rfl) ?_
  refine v_aload_n X dX4_init_4 rfl ?_
  refine v_iconst (x := 5) X dX4_init_5 rfl ?_
  refine v_newarr (cI := cI) (N := 5) X (by decide +kernel) rfl rfl (by decide) (Nat.le_of_ble_eq_true rfl) (Nat.le_of_ble_eq_true rfl) (Nat.le_of_ble_eq_true rfl) dX4_init_6 (fun q1 => ?_)
  refine v_w (w' := [(a, .inr (4, [.int 0, .null, .null, .null, .null, .null, .null, .null, .null, .null, .int 0, .null, .null, .int 0, .null, .null, .int 0])), (q1, .inl (cI, 5, .inl (fun _ => 0)))]) rfl ?_
  refine v_putfieldF (w' := [(a, .inr (4, [.int 0, .ref q1, .null, .null, .null, .null, .null, .null, .null, .null, .int 0, .null, .null, .int 0, .null, .null, .int 0])), (q1, .inl (cI, 5, .inl (fun _ => 0)))]) (ref := "TrumpvaultModel") (ci := 4) (index := 7) (ty := .array .int) X iX4 tyX4 tyX4_ok nmX4 0 rfl rfl 1 (by decide) (by decide +kernel) (fun _ h9 => h9) rfl hin rfl (by decide +kernel) rfl rfl (Nat.le_of_ble_eq_true rfl) dX4_init_8 rfl ?_
  refine v_aload_n X dX4_init_11 rfl ?_
  refine v_bipush (x := 30) X dX4_init_12 rfl ?_
  refine v_newarr (cI := cI) (N := 30) X (by decide +kernel) rfl rfl (by decide) (Nat.le_of_ble_eq_true rfl) (Nat.le_of_ble_eq_true rfl) (Nat.le_of_ble_eq_true rfl) dX4_init_14 (fun q2 => ?_)
  refine v_w (w' := [(a, .inr (4, [.int 0, .ref q1, .null, .null, .null, .null, .null, .null, .null, .null, .int 0, .null, .null, .int 0, .null, .null, .int 0])), (q1, .inl (cI, 5, .inl (fun _ => 0))), (q2, .inl (cI, 30, .inl (fun _ => 0)))]) rfl ?_
  refine v_putfieldF (w' := [(a, .inr (4, [.int 0, .ref q1, .ref q2, .null, .null, .null, .null, .null, .null, .null, .int 0, .null, .null, .int 0, .null, .null, .int 0])), (q1, .inl (cI, 5, .inl (fun _ => 0))), (q2, .inl (cI, 30, .inl (fun _ => 0)))]) (ref := "TrumpvaultModel") (ci := 4) (index := 13) (ty := .array .int) X iX4 tyX4 tyX4_ok nmX4 0 rfl rfl 2 (by decide) (by decide +kernel) (fun _ h9 => h9) rfl hin rfl (by decide +kernel) rfl rfl (Nat.le_of_ble_eq_true rfl) dX4_init_16 rfl ?_
  refine v_aload_n X dX4_init_19 rfl ?_
  refine v_bipush (x := 30) X dX4_init_20 rfl ?_
  refine v_newarr (cI := cI) (N := 30) X (by decide +kernel) rfl rfl (by decide) (Nat.le_of_ble_eq_true rfl) (Nat.le_of_ble_eq_true rfl) (Nat.le_of_ble_eq_true rfl) dX4_init_22 (fun q3 => ?_)
  refine v_w (w' := [(a, .inr (4, [.int 0, .ref q1, .ref q2, .null, .null, .null, .null, .null, .null, .null, .int 0, .null, .null, .int 0, .null, .null, .int 0])), (q1, .inl (cI, 5, .inl (fun _ => 0))), (q2, .inl (cI, 30, .inl (fun _ => 0))), (q3, .inl (cI, 30, .inl (fun _ => 0)))]) rfl ?_
  refine v_putfieldF (w' := [(a, .inr (4, [.int 0, .ref q1, .ref q2, .ref q3, .null, .null, .null, .null, .null, .null, .int 0, .null, .null, .int 0, .null, .null, .int 0])), (q1, .inl (cI, 5, .inl (fun _ => 0))), (q2, .inl (cI, 30, .inl (fun _ => 0))), (q3, .inl (cI, 30, .inl (fun _ => 0)))]) (ref := "TrumpvaultModel") (ci := 4) (index := 16) (ty := .array .int) X iX4 tyX4 tyX4_ok nmX4 0 rfl rfl 3 (by decide) (by decide +kernel) (fun _ h9 => h9) rfl hin rfl (by decide +kernel) rfl rfl (Nat.le_of_ble_eq_true rfl) dX4_init_24 rfl ?_
  refine v_aload_n X dX4_init_27 rfl ?_
  refine v_bipush (x := 30) X dX4_init_28 rfl ?_
  refine v_newarr (cI := cI) (N := 30) X (by decide +kernel) rfl rfl (by decide) (Nat.le_of_ble_eq_true rfl) (Nat.le_of_ble_eq_true rfl) (Nat.le_of_ble_eq_true rfl) dX4_init_30 (fun q4 => ?_)
  refine v_w (w' := [(a, .inr (4, [.int 0, .ref q1, .ref q2, .ref q3, .null, .null, .null, .null, .null, .null, .int 0, .null, .null, .int 0, .null, .null, .int 0])), (q1, .inl (cI, 5, .inl (fun _ => 0))), (q2, .inl (cI, 30, .inl (fun _ => 0))), (q3, .inl (cI, 30, .inl (fun _ => 0))), (q4, .inl (cI, 30, .inl (fun _ => 0)))]) rfl ?_
  refine v_putfieldF (w' := [(a, .inr (4, [.int 0, .ref q1, .ref q2, .ref q3, .ref q4, .null, .null, .null, .null, .null, .int 0, .null, .null, .int 0, .null, .null, .int 0])), (q1, .inl (cI, 5, .inl (fun _ => 0))), (q2, .inl (cI, 30, .inl (fun _ => 0))), (q3, .inl (cI, 30, .inl (fun _ => 0))), (q4, .inl (cI, 30, .inl (fun _ => 0)))]) (ref := "TrumpvaultModel") (ci := 4) (index := 19) (ty := .array .int) X iX4 tyX4 tyX4_ok nmX4 0 rfl rfl 4 (by decide) (by decide +kernel) (fun _ h9 => h9) rfl hin rfl (by decide +kernel) rfl rfl (Nat.le_of_ble_eq_true rfl) dX4_init_32 rfl ?_
  refine v_aload_n X dX4_init_35 rfl ?_
  refine v_bipush (x := 30) X dX4_init_36 rfl ?_
  refine v_newarr (cI := cI) (N := 30) X (by decide +kernel) rfl rfl (by decide) (Nat.le_of_ble_eq_true rfl) (Nat.le_of_ble_eq_true rfl) (Nat.le_of_ble_eq_true rfl) dX4_init_38 (fun q5 => ?_)
  refine v_w (w' := [(a, .inr (4, [.int 0, .ref q1, .ref q2, .ref q3, .ref q4, .null, .null, .null, .null, .null, .int 0, .null, .null, .int 0, .null, .null, .int 0])), (q1, .inl (cI, 5, .inl (fun _ => 0))), (q2, .inl (cI, 30, .inl (fun _ => 0))), (q3, .inl (cI, 30, .inl (fun _ => 0))), (q4, .inl (cI, 30, .inl (fun _ => 0))), (q5, .inl (cI, 30, .inl (fun _ => 0)))]) rfl ?_
  refine v_putfieldF (w' := [(a, .inr (4, [.int 0, .ref q1, .ref q2, .ref q3, .ref q4, .ref q5, .null, .null, .null, .null, .int 0, .null, .null, .int 0, .null, .null, .int 0])), (q1, .inl (cI, 5, .inl (fun _ => 0))), (q2, .inl (cI, 30, .inl (fun _ => 0))), (q3, .inl (cI, 30, .inl (fun _ => 0))), (q4, .inl (cI, 30, .inl (fun _ => 0))), (q5, .inl (cI, 30, .inl (fun _ => 0)))]) (ref := "TrumpvaultModel") (ci := 4) (index := 22) (ty := .array .int) X iX4 tyX4 tyX4_ok nmX4 0 rfl rfl 5 (by decide) (by decide +kernel) (fun _ h9 => h9) rfl hin rfl (by decide +kernel) rfl rfl (Nat.le_of_ble_eq_true rfl) dX4_init_40 rfl ?_
  refine v_aload_n X dX4_init_43 rfl ?_
  refine v_bipush (x := 30) X dX4_init_44 rfl ?_
  refine v_newarr (cI := cI) (N := 30) X (by decide +kernel) rfl rfl (by decide) (Nat.le_of_ble_eq_true rfl) (Nat.le_of_ble_eq_true rfl) (Nat.le_of_ble_eq_true rfl) dX4_init_46 (fun q6 => ?_)
  refine v_w (w' := [(a, .inr (4, [.int 0, .ref q1, .ref q2, .ref q3, .ref q4, .ref q5, .null, .null, .null, .null, .int 0, .null, .null, .int 0, .null, .null, .int 0])), (q1, .inl (cI, 5, .inl (fun _ => 0))), (q2, .inl (cI, 30, .inl (fun _ => 0))), (q3, .inl (cI, 30, .inl (fun _ => 0))), (q4, .inl (cI, 30, .inl (fun _ => 0))), (q5, .inl (cI, 30, .inl (fun _ => 0))), (q6, .inl (cI, 30, .inl (fun _ => 0)))]) rfl ?_
  refine v_putfieldF (w' := [(a, .inr (4, [.int 0, .ref q1, .ref q2, .ref q3, .ref q4, .ref q5, .ref q6, .null, .null, .null, .int 0, .null, .null, .int 0, .null, .null, .int 0])), (q1, .inl (cI, 5, .inl (fun _ => 0))), (q2, .inl (cI, 30, .inl (fun _ => 0))), (q3, .inl (cI, 30, .inl (fun _ => 0))), (q4, .inl (cI, 30, .inl (fun _ => 0))), (q5, .inl (cI, 30, .inl (fun _ => 0))), (q6, .inl (cI, 30, .inl (fun _ => 0)))]) (ref := "TrumpvaultModel") (ci := 4) (index := 25) (ty := .array .int) X iX4 tyX4 tyX4_ok nmX4 0 rfl rfl 6 (by decide) (by decide +kernel) (fun _ h9 => h9) rfl hin rfl (by decide +kernel) rfl rfl (Nat.le_of_ble_eq_true rfl) dX4_init_48 rfl ?_
  refine v_aload_n X dX4_init_51 rfl ?_
  refine v_bipush (x := 30) X dX4_init_52 rfl ?_
  refine v_newarr (cI := cI) (N := 30) X (by decide +kernel) rfl rfl (by decide) (Nat.le_of_ble_eq_true rfl) (Nat.le_of_ble_eq_true rfl) (Nat.le_of_ble_eq_true rfl) dX4_init_54 (fun q7 => ?_)
  refine v_w (w' := [(a, .inr (4, [.int 0, .ref q1, .ref q2, .ref q3, .ref q4, .ref q5, .ref q6, .null, .null, .null, .int 0, .null, .null, .int 0, .null, .null, .int 0])), (q1, .inl (cI, 5, .inl (fun _ => 0))), (q2, .inl (cI, 30, .inl (fun _ => 0))), (q3, .inl (cI, 30, .inl (fun _ => 0))), (q4, .inl (cI, 30, .inl (fun _ => 0))), (q5, .inl (cI, 30, .inl (fun _ => 0))), (q6, .inl (cI, 30, .inl (fun _ => 0))), (q7, .inl (cI, 30, .inl (fun _ => 0)))]) rfl ?_
  refine v_putfieldF (w' := [(a, .inr (4, [.int 0, .ref q1, .ref q2, .ref q3, .ref q4, .ref q5, .ref q6, .ref q7, .null, .null, .int 0, .null, .null, .int 0, .null, .null, .int 0])), (q1, .inl (cI, 5, .inl (fun _ => 0))), (q2, .inl (cI, 30, .inl (fun _ => 0))), (q3, .inl (cI, 30, .inl (fun _ => 0))), (q4, .inl (cI, 30, .inl (fun _ => 0))), (q5, .inl (cI, 30, .inl (fun _ => 0))), (q6, .inl (cI, 30, .inl (fun _ => 0))), (q7, .inl (cI, 30, .inl (fun _ => 0)))]) (ref := "TrumpvaultModel") (ci := 4) (index := 28) (ty := .array .int) X iX4 tyX4 tyX4_ok nmX4 0 rfl rfl 7 (by decide) (by decide +kernel) (fun _ h9 => h9) rfl hin rfl (by decide +kernel) rfl rfl (Nat.le_of_ble_eq_true rfl) dX4_init_56 rfl ?_
  refine v_aload_n X dX4_init_59 rfl ?_
  refine v_bipush (x := 30) X dX4_init_60 rfl ?_
  refine v_newarr (cI := cI) (N := 30) X (by decide +kernel) rfl rfl (by decide) (Nat.le_of_ble_eq_true rfl) (Nat.le_of_ble_eq_true rfl) (Nat.le_of_ble_eq_true rfl) dX4_init_62 (fun q8 => ?_)
  refine v_w (w' := [(a, .inr (4, [.int 0, .ref q1, .ref q2, .ref q3, .ref q4, .ref q5, .ref q6, .ref q7, .null, .null, .int 0, .null, .null, .int 0, .null, .null, .int 0])), (q1, .inl (cI, 5, .inl (fun _ => 0))), (q2, .inl (cI, 30, .inl (fun _ => 0))), (q3, .inl (cI, 30, .inl (fun _ => 0))), (q4, .inl (cI, 30, .inl (fun _ => 0))), (q5, .inl (cI, 30, .inl (fun _ => 0))), (q6, .inl (cI, 30, .inl (fun _ => 0))), (q7, .inl (cI, 30, .inl (fun _ => 0))), (q8, .inl (cI, 30, .inl (fun _ => 0)))]) rfl ?_
  refine v_putfieldF (w' := [(a, .inr (4, [.int 0, .ref q1, .ref q2, .ref q3, .ref q4, .ref q5, .ref q6, .ref q7, .ref q8, .null, .int 0, .null, .null, .int 0, .null, .null, .int 0])), (q1, .inl (cI, 5, .inl (fun _ => 0))), (q2, .inl (cI, 30, .inl (fun _ => 0))), (q3, .inl (cI, 30, .inl (fun _ => 0))), (q4, .inl (cI, 30, .inl (fun _ => 0))), (q5, .inl (cI, 30, .inl (fun _ => 0))), (q6, .inl (cI, 30, .inl (fun _ => 0))), (q7, .inl (cI, 30, .inl (fun _ => 0))), (q8, .inl (cI, 30, .inl (fun _ => 0)))]) (ref := "TrumpvaultModel") (ci := 4) (index := 31) (ty := .array .int) X iX4 tyX4 tyX4_ok nmX4 0 rfl rfl 8 (by decide) (by decide +kernel) (fun _ h9 => h9) rfl hin rfl (by decide +kernel) rfl rfl (Nat.le_of_ble_eq_true rfl) dX4_init_64 rfl ?_
  refine v_aload_n X dX4_init_67 rfl ?_
  refine v_bipush (x := 30) X dX4_init_68 rfl ?_
  refine v_newarr (cI := cI) (N := 30) X (by decide +kernel) rfl rfl (by decide) (Nat.le_of_ble_eq_true rfl) (Nat.le_of_ble_eq_true rfl) (Nat.le_of_ble_eq_true rfl) dX4_init_70 (fun q9 => ?_)
  refine v_w (w' := [(a, .inr (4, [.int 0, .ref q1, .ref q2, .ref q3, .ref q4, .ref q5, .ref q6, .ref q7, .ref q8, .null, .int 0, .null, .null, .int 0, .null, .null, .int 0])), (q1, .inl (cI, 5, .inl (fun _ => 0))), (q2, .inl (cI, 30, .inl (fun _ => 0))), (q3, .inl (cI, 30, .inl (fun _ => 0))), (q4, .inl (cI, 30, .inl (fun _ => 0))), (q5, .inl (cI, 30, .inl (fun _ => 0))), (q6, .inl (cI, 30, .inl (fun _ => 0))), (q7, .inl (cI, 30, .inl (fun _ => 0))), (q8, .inl (cI, 30, .inl (fun _ => 0))), (q9, .inl (cI, 30, .inl (fun _ => 0)))]) rfl ?_
  refine v_putfieldF (w' := [(a, .inr (4, [.int 0, .ref q1, .ref q2, .ref q3, .ref q4, .ref q5, .ref q6, .ref q7, .ref q8, .ref q9, .int 0, .null, .null, .int 0, .null, .null, .int 0])), (q1, .inl (cI, 5, .inl (fun _ => 0))), (q2, .inl (cI, 30, .inl (fun _ => 0))), (q3, .inl (cI, 30, .inl (fun _ => 0))), (q4, .inl (cI, 30, .inl (fun _ => 0))), (q5, .inl (cI, 30, .inl (fun _ => 0))), (q6, .inl (cI, 30, .inl (fun _ => 0))), (q7, .inl (cI, 30, .inl (fun _ => 0))), (q8, .inl (cI, 30, .inl (fun _ => 0))), (q9, .inl (cI, 30, .inl (fun _ => 0)))]) (ref := "TrumpvaultModel") (ci := 4) (index := 34) (ty := .array .int) X iX4 tyX4 tyX4_ok nmX4 0 rfl rfl 9 (by decide) (by decide +kernel) (fun _ h9 => h9) rfl hin rfl (by decide +kernel) rfl rfl (Nat.le_of_ble_eq_true rfl) dX4_init_72 rfl ?_
  refine v_aload_n X dX4_init_75 rfl ?_
  refine v_bipush (x := 40) X dX4_init_76 rfl ?_
  refine v_newarr (cI := cI) (N := 40) X (by decide +kernel) rfl rfl (by decide) (Nat.le_of_ble_eq_true rfl) (Nat.le_of_ble_eq_true rfl) (Nat.le_of_ble_eq_true rfl) dX4_init_78 (fun q10 => ?_)
  refine v_w (w' := [(a, .inr (4, [.int 0, .ref q1, .ref q2, .ref q3, .ref q4, .ref q5, .ref q6, .ref q7, .ref q8, .ref q9, .int 0, .null, .null, .int 0, .null, .null, .int 0])), (q1, .inl (cI, 5, .inl (fun _ => 0))), (q2, .inl (cI, 30, .inl (fun _ => 0))), (q3, .inl (cI, 30, .inl (fun _ => 0))), (q4, .inl (cI, 30, .inl (fun _ => 0))), (q5, .inl (cI, 30, .inl (fun _ => 0))), (q6, .inl (cI, 30, .inl (fun _ => 0))), (q7, .inl (cI, 30, .inl (fun _ => 0))), (q8, .inl (cI, 30, .inl (fun _ => 0))), (q9, .inl (cI, 30, .inl (fun _ => 0))), (q10, .inl (cI, 40, .inl (fun _ => 0)))]) rfl ?_
  refine v_putfieldF (w' := [(a, .inr (4, [.int 0, .ref q1, .ref q2, .ref q3, .ref q4, .ref q5, .ref q6, .ref q7, .ref q8, .ref q9, .int 0, .ref q10, .null, .int 0, .null, .null, .int 0])), (q1, .inl (cI, 5, .inl (fun _ => 0))), (q2, .inl (cI, 30, .inl (fun _ => 0))), (q3, .inl (cI, 30, .inl (fun _ => 0))), (q4, .inl (cI, 30, .inl (fun _ => 0))), (q5, .inl (cI, 30, .inl (fun _ => 0))), (q6, .inl (cI, 30, .inl (fun _ => 0))), (q7, .inl (cI, 30, .inl (fun _ => 0))), (q8, .inl (cI, 30, .inl (fun _ => 0))), (q9, .inl (cI, 30, .inl (fun _ => 0))), (q10, .inl (cI, 40, .inl (fun _ => 0)))]) (ref := "TrumpvaultModel") (ci := 4) (index := 37) (ty := .array .int) X iX4 tyX4 tyX4_ok nmX4 0 rfl rfl 11 (by decide) (by decide +kernel) (fun _ h9 => h9) rfl hin rfl (by decide +kernel) rfl rfl (Nat.le_of_ble_eq_true rfl) dX4_init_80 rfl ?_
  refine v_aload_n X dX4_init_83 rfl ?_
  refine v_bipush (x := 40) X dX4_init_84 rfl ?_
  refine v_newarr (cI := cI) (N := 40) X (by decide +kernel) rfl rfl (by decide) (Nat.le_of_ble_eq_true rfl) (Nat.le_of_ble_eq_true rfl) (Nat.le_of_ble_eq_true rfl) dX4_init_86 (fun q11 => ?_)
  refine v_w (w' := [(a, .inr (4, [.int 0, .ref q1, .ref q2, .ref q3, .ref q4, .ref q5, .ref q6, .ref q7, .ref q8, .ref q9, .int 0, .ref q10, .null, .int 0, .null, .null, .int 0])), (q1, .inl (cI, 5, .inl (fun _ => 0))), (q2, .inl (cI, 30, .inl (fun _ => 0))), (q3, .inl (cI, 30, .inl (fun _ => 0))), (q4, .inl (cI, 30, .inl (fun _ => 0))), (q5, .inl (cI, 30, .inl (fun _ => 0))), (q6, .inl (cI, 30, .inl (fun _ => 0))), (q7, .inl (cI, 30, .inl (fun _ => 0))), (q8, .inl (cI, 30, .inl (fun _ => 0))), (q9, .inl (cI, 30, .inl (fun _ => 0))), (q10, .inl (cI, 40, .inl (fun _ => 0))), (q11, .inl (cI, 40, .inl (fun _ => 0)))]) rfl ?_
  refine v_putfieldF (w' := [(a, .inr (4, [.int 0, .ref q1, .ref q2, .ref q3, .ref q4, .ref q5, .ref q6, .ref q7, .ref q8, .ref q9, .int 0, .ref q10, .ref q11, .int 0, .null, .null, .int 0])), (q1, .inl (cI, 5, .inl (fun _ => 0))), (q2, .inl (cI, 30, .inl (fun _ => 0))), (q3, .inl (cI, 30, .inl (fun _ => 0))), (q4, .inl (cI, 30, .inl (fun _ => 0))), (q5, .inl (cI, 30, .inl (fun _ => 0))), (q6, .inl (cI, 30, .inl (fun _ => 0))), (q7, .inl (cI, 30, .inl (fun _ => 0))), (q8, .inl (cI, 30, .inl (fun _ => 0))), (q9, .inl (cI, 30, .inl (fun _ => 0))), (q10, .inl (cI, 40, .inl (fun _ => 0))), (q11, .inl (cI, 40, .inl (fun _ => 0)))]) (ref := "TrumpvaultModel") (ci := 4) (index := 40) (ty := .array .int) X iX4 tyX4 tyX4_ok nmX4 0 rfl rfl 12 (by decide) (by decide +kernel) (fun _ h9 => h9) rfl hin rfl (by decide +kernel) rfl rfl (Nat.le_of_ble_eq_true rfl) dX4_init_88 rfl ?_
  refine v_aload_n X dX4_init_91 rfl ?_
  refine v_bipush (x := 8) X dX4_init_92 rfl ?_
  refine v_newarr (cI := cI) (N := 8) X (by decide +kernel) rfl rfl (by decide) (Nat.le_of_ble_eq_true rfl) (Nat.le_of_ble_eq_true rfl) (Nat.le_of_ble_eq_true rfl) dX4_init_94 (fun q12 => ?_)
  refine v_w (w' := [(a, .inr (4, [.int 0, .ref q1, .ref q2, .ref q3, .ref q4, .ref q5, .ref q6, .ref q7, .ref q8, .ref q9, .int 0, .ref q10, .ref q11, .int 0, .null, .null, .int 0])), (q1, .inl (cI, 5, .inl (fun _ => 0))), (q2, .inl (cI, 30, .inl (fun _ => 0))), (q3, .inl (cI, 30, .inl (fun _ => 0))), (q4, .inl (cI, 30, .inl (fun _ => 0))), (q5, .inl (cI, 30, .inl (fun _ => 0))), (q6, .inl (cI, 30, .inl (fun _ => 0))), (q7, .inl (cI, 30, .inl (fun _ => 0))), (q8, .inl (cI, 30, .inl (fun _ => 0))), (q9, .inl (cI, 30, .inl (fun _ => 0))), (q10, .inl (cI, 40, .inl (fun _ => 0))), (q11, .inl (cI, 40, .inl (fun _ => 0))), (q12, .inl (cI, 8, .inl (fun _ => 0)))]) rfl ?_
  refine v_putfieldF (w' := [(a, .inr (4, [.int 0, .ref q1, .ref q2, .ref q3, .ref q4, .ref q5, .ref q6, .ref q7, .ref q8, .ref q9, .int 0, .ref q10, .ref q11, .int 0, .ref q12, .null, .int 0])), (q1, .inl (cI, 5, .inl (fun _ => 0))), (q2, .inl (cI, 30, .inl (fun _ => 0))), (q3, .inl (cI, 30, .inl (fun _ => 0))), (q4, .inl (cI, 30, .inl (fun _ => 0))), (q5, .inl (cI, 30, .inl (fun _ => 0))), (q6, .inl (cI, 30, .inl (fun _ => 0))), (q7, .inl (cI, 30, .inl (fun _ => 0))), (q8, .inl (cI, 30, .inl (fun _ => 0))), (q9, .inl (cI, 30, .inl (fun _ => 0))), (q10, .inl (cI, 40, .inl (fun _ => 0))), (q11, .inl (cI, 40, .inl (fun _ => 0))), (q12, .inl (cI, 8, .inl (fun _ => 0)))]) (ref := "TrumpvaultModel") (ci := 4) (index := 43) (ty := .array .int) X iX4 tyX4 tyX4_ok nmX4 0 rfl rfl 14 (by decide) (by decide +kernel) (fun _ h9 => h9) rfl hin rfl (by decide +kernel) rfl rfl (Nat.le_of_ble_eq_true rfl) dX4_init_96 rfl ?_
  refine v_aload_n X dX4_init_99 rfl ?_
  refine v_iconst (x := 5) X dX4_init_100 rfl ?_
  refine v_newarr (cI := cI) (N := 5) X (by decide +kernel) rfl rfl (by decide) (Nat.le_of_ble_eq_true rfl) (Nat.le_of_ble_eq_true rfl) (Nat.le_of_ble_eq_true rfl) dX4_init_101 (fun q13 => ?_)
  refine v_w (w' := [(a, .inr (4, [.int 0, .ref q1, .ref q2, .ref q3, .ref q4, .ref q5, .ref q6, .ref q7, .ref q8, .ref q9, .int 0, .ref q10, .ref q11, .int 0, .ref q12, .null, .int 0])), (q1, .inl (cI, 5, .inl (fun _ => 0))), (q2, .inl (cI, 30, .inl (fun _ => 0))), (q3, .inl (cI, 30, .inl (fun _ => 0))), (q4, .inl (cI, 30, .inl (fun _ => 0))), (q5, .inl (cI, 30, .inl (fun _ => 0))), (q6, .inl (cI, 30, .inl (fun _ => 0))), (q7, .inl (cI, 30, .inl (fun _ => 0))), (q8, .inl (cI, 30, .inl (fun _ => 0))), (q9, .inl (cI, 30, .inl (fun _ => 0))), (q10, .inl (cI, 40, .inl (fun _ => 0))), (q11, .inl (cI, 40, .inl (fun _ => 0))), (q12, .inl (cI, 8, .inl (fun _ => 0))), (q13, .inl (cI, 5, .inl (fun _ => 0)))]) rfl ?_
  refine v_putfieldF (w' := [(a, .inr (4, [.int 0, .ref q1, .ref q2, .ref q3, .ref q4, .ref q5, .ref q6, .ref q7, .ref q8, .ref q9, .int 0, .ref q10, .ref q11, .int 0, .ref q12, .ref q13, .int 0])), (q1, .inl (cI, 5, .inl (fun _ => 0))), (q2, .inl (cI, 30, .inl (fun _ => 0))), (q3, .inl (cI, 30, .inl (fun _ => 0))), (q4, .inl (cI, 30, .inl (fun _ => 0))), (q5, .inl (cI, 30, .inl (fun _ => 0))), (q6, .inl (cI, 30, .inl (fun _ => 0))), (q7, .inl (cI, 30, .inl (fun _ => 0))), (q8, .inl (cI, 30, .inl (fun _ => 0))), (q9, .inl (cI, 30, .inl (fun _ => 0))), (q10, .inl (cI, 40, .inl (fun _ => 0))), (q11, .inl (cI, 40, .inl (fun _ => 0))), (q12, .inl (cI, 8, .inl (fun _ => 0))), (q13, .inl (cI, 5, .inl (fun _ => 0)))]) (ref := "TrumpvaultModel") (ci := 4) (index := 46) (ty := .array .int) X iX4 tyX4 tyX4_ok nmX4 0 rfl rfl 15 (by decide) (by decide +kernel) (fun _ h9 => h9) rfl hin rfl (by decide +kernel) rfl rfl (Nat.le_of_ble_eq_true rfl) dX4_init_103 rfl ?_
  obtain ⟨h, hh⟩ : ∃ h : Nat → Nat, h = fun i => if i = 0 then a else if i = 1 then q1 else if i = 2 then q2 else if i = 3 then q3 else if i = 4 then q4 else if i = 5 then q5 else if i = 6 then q6 else if i = 7 then q7 else if i = 8 then q8 else if i = 9 then q9 else if i = 11 then q10 else if i = 12 then q11 else if i = 14 then q12 else q13 := ⟨_, rfl⟩
  have ha : h 0 = a := by rw [hh]; rfl
  refine v_w (w' := wM h cI (Sk1 0)) (by rw [hh]; rfl) ?_
  have L_2 : ∀ (d k : Nat) (i : Int32), k + d = 8 → i = nI k → v_V p l e { frames := 1, cells := 13, slots := 338, locals := 12 } s m [Value.ref a].toArray below meth c D vwCl (va_A [(a, .inr (4, [.int 0, .null, .null, .null, .null, .null, .null, .null, .null, .null, .int 0, .null, .null, .int 0, .null, .null, .int 0]))] s.heap.size) 2 (v_Qc below s D vwCl (tyl cI cII cL) { frames := 1, cells := 13, slots := 338, locals := 12 } [.ref a] [(a, .inr (4, [.int 0, .null, .null, .null, .null, .null, .null, .null, .null, .null, .int 0, .null, .null, .int 0, .null, .null, .int 0]))] (fun h => h 0 = a) (fun h => wM h cI S0m)) 13 338 (wM h cI (Sk2 k)) 129 [(1, .int i), (0, .ref a)] [] := by
    intro d
    induction d with
    | zero =>
        intro k i hk1 ei
        subst ei
        obtain rfl : 8 = k := by omega
        refine v_iload_n X dX4_init_129 rfl ?_
        refine v_bipush (x := 8) X dX4_init_130 rfl ?_
        refine v_icmp_ge (tgt := 149) X dX4_init_132 (by decide) (fun c1 => ?_) (fun c1 => ?_)
        · refine v_w (w' := wM h cI S0m) rfl ?_
          exact v_retc X hr hk h ha rfl (Nat.le_of_ble_eq_true rfl) (Nat.le_of_ble_eq_true rfl) dX4_init_149
        · exact absurd (show (8 : Int32) ≤ nI 8 from nI_le (Nat.le_refl 8) (by decide)) c1
    | succ d ih =>
        intro k i hk1 ei
        subst ei
        refine v_iload_n X dX4_init_129 rfl ?_
        refine v_bipush (x := 8) X dX4_init_130 rfl ?_
        refine v_icmp_ge (tgt := 149) X dX4_init_132 (by decide) (fun c1 => ?_) (fun c1 => ?_)
        · exact absurd c1 (nI_ge (b := 8) (show k < 8 by omega) (by decide))
        · refine v_aload_n X dX4_init_135 rfl ?_
          refine v_getfield (ref := "TrumpvaultModel") (ci := 4) (index := 43) (v := .ref (h 14)) X iX4 0 (by have hg := @wM_g0 h cI (Sk2 k); rw [ha] at hg; exact hg) rfl 14 (by decide) (by decide +kernel) (fun _ h9 => h9) rfl dX4_init_136 ?_
          refine v_iload_n X dX4_init_139 rfl ?_
          refine v_ldc (x := 1000000) X (by decide +kernel) dX4_init_140 ?_
          refine v_iast (w' := wM h cI (Sk2 (k + 1))) X 12 0 wM_g14 rfl (vp_in_nI (by omega) (by decide)) dX4_init_142 (by rw [← Sk2_s k (by omega)]; exact wM_s14) ?_
          refine v_iinc (y := nI k + 1) (lv' := [(1, .int (nI k + 1)), (0, .ref a)]) X dX4_init_143 rfl rfl (by decide) rfl ?_
          refine v_goto (tgt := 129) X dX4_init_146 (by decide) ?_
          exact ih (k + 1) _ (by omega) (nI_1 k)
  have L_1 : ∀ (d k : Nat) (i : Int32), k + d = 5 → i = nI k → v_V p l e { frames := 1, cells := 13, slots := 338, locals := 12 } s m [Value.ref a].toArray below meth c D vwCl (va_A [(a, .inr (4, [.int 0, .null, .null, .null, .null, .null, .null, .null, .null, .null, .int 0, .null, .null, .int 0, .null, .null, .int 0]))] s.heap.size) 2 (v_Qc below s D vwCl (tyl cI cII cL) { frames := 1, cells := 13, slots := 338, locals := 12 } [.ref a] [(a, .inr (4, [.int 0, .null, .null, .null, .null, .null, .null, .null, .null, .null, .int 0, .null, .null, .int 0, .null, .null, .int 0]))] (fun h => h 0 = a) (fun h => wM h cI S0m)) 13 338 (wM h cI (Sk1 k)) 108 [(1, .int i), (0, .ref a)] [] := by
    intro d
    induction d with
    | zero =>
        intro k i hk1 ei
        subst ei
        obtain rfl : 5 = k := by omega
        refine v_iload_n X dX4_init_108 rfl ?_
        refine v_iconst (x := 5) X dX4_init_109 rfl ?_
        refine v_icmp_ge (tgt := 127) X dX4_init_110 (by decide) (fun c1 => ?_) (fun c1 => ?_)
        · refine v_iconst (x := 0) X dX4_init_127 rfl ?_
          refine v_istore_n (lv' := [(1, .int 0), (0, .ref a)]) X dX4_init_128 (by decide) rfl ?_
          refine v_w (w' := wM h cI (Sk2 0)) (by rw [Sk_12]) ?_
          exact L_2 8 0 0 (by decide) nI_0.symm
        · exact absurd (show (5 : Int32) ≤ nI 5 from nI_le (Nat.le_refl 5) (by decide)) c1
    | succ d ih =>
        intro k i hk1 ei
        subst ei
        refine v_iload_n X dX4_init_108 rfl ?_
        refine v_iconst (x := 5) X dX4_init_109 rfl ?_
        refine v_icmp_ge (tgt := 127) X dX4_init_110 (by decide) (fun c1 => ?_) (fun c1 => ?_)
        · exact absurd c1 (nI_ge (b := 5) (show k < 5 by omega) (by decide))
        · refine v_aload_n X dX4_init_113 rfl ?_
          refine v_getfield (ref := "TrumpvaultModel") (ci := 4) (index := 7) (v := .ref (h 1)) X iX4 0 (by have hg := @wM_g0 h cI (Sk1 k); rw [ha] at hg; exact hg) rfl 1 (by decide) (by decide +kernel) (fun _ h9 => h9) rfl dX4_init_114 ?_
          refine v_iload_n X dX4_init_117 rfl ?_
          refine v_bipush (x := 100) X dX4_init_118 rfl ?_
          refine v_iast (w' := wM h cI (Sk1 (k + 1))) X 1 0 wM_g1 rfl (vp_in_nI (by omega) (by decide)) dX4_init_120 (by rw [← Sk1_s k (by omega)]; exact wM_s1) ?_
          refine v_iinc (y := nI k + 1) (lv' := [(1, .int (nI k + 1)), (0, .ref a)]) X dX4_init_121 rfl rfl (by decide) rfl ?_
          refine v_goto (tgt := 108) X dX4_init_124 (by decide) ?_
          exact ih (k + 1) _ (by omega) (nI_1 k)
  refine v_iconst (x := 0) X dX4_init_106 rfl ?_
  refine v_istore_n (lv' := [(1, .int 0), (0, .ref a)]) X dX4_init_107 (by decide) rfl ?_
  exact L_1 5 0 0 (by decide) nI_0.symm

