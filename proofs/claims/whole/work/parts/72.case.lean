set_option maxHeartbeats 1000000 in
set_option maxRecDepth 100000 in
theorem law_c12 {p : Program} {e : Env} {s : State} {m : MethodId} {below : List Frame} {meth : Method} {c : Code} {b L : Nat} {xs : Nat → Int32} (l : Launch) (hlt : l.stackTraces = false) (D : va_G) (cI cII cL : ClassId) (h g : Nat → Nat) (o : Nat) (X : v_C p s m #[Value.ref b] c code RL wsL_law 7 D vwCl (tyl cI cII cL) (fun q : Nat => s.heap.size ≤ q)) (hXW : v_XW (fun q : Nat => s.heap.size ≤ q) s) (hX : va_X b L xs s s.heap) (hbl : b < s.heap.size) (S M : St) (F : Nat → Int64) (k : Nat) (hk : 4 * k + 4 ≤ L) (hL : L ≤ 2048) (hRel : Rel k S M) (hnext : ∀ (S' M' : St) (F' : Nat → Int64), Rel (k + 1) S' M' → v_V p l e room_1 s m #[Value.ref b] below meth c D vwCl (fun q : Nat => s.heap.size ≤ q) 7 (lw_Z below #[Value.ref b] s) (100 + 8 * (k + 1)) (5000 + 48 * (k + 1)) (wA h cI cII cL g o S' M' F') 1605 [(4, .int (nI (4 * k))), (3, .ref o), (2, .ref (g 0)), (1, .ref (h 0)), (0, .ref b)] []) : v_V p l e room_1 s m #[Value.ref b] below meth c D vwCl (fun q : Nat => s.heap.size ≤ q) 7 (lw_Z below #[Value.ref b] s) (100 + 8 * k) (5000 + 48 * k) (wA h cI cII cL g o S M F) 880 [(4, .int (nI (4 * k))), (3, .ref o), (2, .ref (g 0)), (1, .ref (h 0)), (0, .ref b)] [] := by
  have hbA : ¬ (fun q : Nat => s.heap.size ≤ q) b := Nat.not_le.mpr hbl
  obtain ⟨hth, hR⟩ := sim_swap hRel (by omega) (xs (nI (4 * k) + 1).toNatClampNeg) (xs (nI (4 * k) + 2).toNatClampNeg)
  refine v_aload_n X dL_law_880 rfl ?_
  refine v_aload_n X dL_law_881 rfl ?_
  refine v_iload X dL_law_882 rfl ?_
  refine v_iconst (x := 1) X dL_law_884 rfl ?_
  refine v_iadd X dL_law_885 ?_
  refine v_sld X hX hbl hbA (by rw [ix_n (4 * k) 1 1 rfl]; exact vp_in_nI (by omega) (by omega)) dL_law_886 ?_
  refine v_aload_n X dL_law_887 rfl ?_
  refine v_iload X dL_law_888 rfl ?_
  refine v_iconst (x := 2) X dL_law_890 rfl ?_
  refine v_iadd X dL_law_891 ?_
  refine v_sld X hX hbl hbA (by rw [ix_n (4 * k) 2 2 rfl]; exact vp_in_nI (by omega) (by omega)) dL_law_892 ?_
  refine v_callLic (As := [.ref (h 0), .int (xs (nI (4 * k) + 1).toNatClampNeg), .int (xs (nI (4 * k) + 2).toNatClampNeg)]) (rest := []) (w' := (wA h cI cII cL g o (s_L_swap S (xs (nI (4 * k) + 1).toNatClampNeg) (xs (nI (4 * k) + 2).toNatClampNeg)) M F)) X hXW (c_L_swap l D cI cII cL hlt h S (xs (nI (4 * k) + 1).toNatClampNeg) (xs (nI (4 * k) + 2).toNatClampNeg) hRel.hcnt) (vx_cwSW 3 X.2.2.2.1 gL_law_L_swap rfl rfl rfl (by decide +kernel) ⟨Nat.le_of_ble_eq_true rfl, Nat.le_of_ble_eq_true rfl⟩) aC2 aR2 aP2 (cutA2 h cI cII cL g o) rfl rfl (Nat.le_of_ble_eq_true rfl) dL_law_893 ⟨(show _ ≤ 601024 by show 100 + 8 * k + 3 ≤ 601024; omega), (show _ ≤ 7293034 by show 5000 + 48 * k + 18 ≤ 7293034; omega)⟩ ?_
  refine v_istore (lv' := [(5, .int (k_L_swap S (xs (nI (4 * k) + 1).toNatClampNeg) (xs (nI (4 * k) + 2).toNatClampNeg))), (4, .int (nI (4 * k))), (3, .ref o), (2, .ref (g 0)), (1, .ref (h 0)), (0, .ref b)]) X dL_law_896 (by decide) rfl ?_
  refine v_aload_n X dL_law_898 rfl ?_
  refine v_aload_n X dL_law_899 rfl ?_
  refine v_iload X dL_law_900 rfl ?_
  refine v_iconst (x := 1) X dL_law_902 rfl ?_
  refine v_iadd X dL_law_903 ?_
  refine v_sld X hX hbl hbA (by rw [ix_n (4 * k) 1 1 rfl]; exact vp_in_nI (by omega) (by omega)) dL_law_904 ?_
  refine v_aload_n X dL_law_905 rfl ?_
  refine v_iload X dL_law_906 rfl ?_
  refine v_iconst (x := 2) X dL_law_908 rfl ?_
  refine v_iadd X dL_law_909 ?_
  refine v_sld X hX hbl hbA (by rw [ix_n (4 * k) 2 2 rfl]; exact vp_in_nI (by omega) (by omega)) dL_law_910 ?_
  refine v_callVvc (As := [.int (xs (nI (4 * k) + 1).toNatClampNeg), .int (xs (nI (4 * k) + 2).toNatClampNeg)]) (rest := []) (w' := (wA h cI cII cL g o (s_L_swap S (xs (nI (4 * k) + 1).toNatClampNeg) (xs (nI (4 * k) + 2).toNatClampNeg)) (s_X4_swap M (xs (nI (4 * k) + 1).toNatClampNeg) (xs (nI (4 * k) + 2).toNatClampNeg)) F)) X (c_X4_swap l D cI cII cL g M (xs (nI (4 * k) + 1).toNatClampNeg) (xs (nI (4 * k) + 2).toNatClampNeg) hRel.hmc) (cwV 2 X.2.2.2.1 gL_law_X4_swap rfl rfl rfl (by decide +kernel) ⟨Nat.le_of_ble_eq_true rfl, Nat.le_of_ble_eq_true rfl⟩) aC3 aR3 aP3 (cutA3 h cI cII cL g o) 0 4 rfl rfl wM_g0 rfl rfl (Nat.le_of_ble_eq_true rfl) dL_law_911 ⟨(show _ ≤ 601024 by show 100 + 8 * k + 3 ≤ 601024; omega), (show _ ≤ 7293034 by show 5000 + 48 * k + 18 ≤ 7293034; omega)⟩ ?_
  refine v_aload_n X dL_law_914 rfl ?_
  refine v_callVic (As := []) (rest := []) (w' := (wA h cI cII cL g o (s_L_swap S (xs (nI (4 * k) + 1).toNatClampNeg) (xs (nI (4 * k) + 2).toNatClampNeg)) (s_X4_swap M (xs (nI (4 * k) + 1).toNatClampNeg) (xs (nI (4 * k) + 2).toNatClampNeg)) F)) X (c_X4_thrown l D cI cII cL g (s_X4_swap M (xs (nI (4 * k) + 1).toNatClampNeg) (xs (nI (4 * k) + 2).toNatClampNeg))) (cwV 0 X.2.2.2.1 gL_law_X4_thrown rfl rfl rfl (by decide +kernel) ⟨Nat.le_of_ble_eq_true rfl, Nat.le_of_ble_eq_true rfl⟩) aC3 aR3 aP3 (cutA3 h cI cII cL g o) 0 4 rfl rfl wM_g0 rfl rfl (Nat.le_of_ble_eq_true rfl) dL_law_915 ⟨(show _ ≤ 601024 by show 100 + 8 * k + 3 ≤ 601024; omega), (show _ ≤ 7293034 by show 5000 + 48 * k + 18 ≤ 7293034; omega)⟩ ?_
  refine v_iload X dL_law_918 rfl ?_
  refine v_icmp_eq (tgt := 925) X dL_law_920 (by decide) (fun c_1 => ?_) (fun c_1 => absurd hth c_1)
  refine v_goto (tgt := 1605) X dL_law_925 (by decide) ?_
  refine v_lv [1, 2, 3, 4, 5] rfl ?_
  refine v_wd (cells' := 100 + 8 * (k + 1)) (slots' := 5000 + 48 * (k + 1)) (by show 100 + 8 * k + 3 ≤ _; omega) (by show 5000 + 48 * k + 18 ≤ _; omega) ?_
  exact hnext _ _ _ hR
set_option maxHeartbeats 1000000 in
set_option maxRecDepth 100000 in
theorem law_c13 {p : Program} {e : Env} {s : State} {m : MethodId} {below : List Frame} {meth : Method} {c : Code} {b L : Nat} {xs : Nat → Int32} (l : Launch) (hlt : l.stackTraces = false) (D : va_G) (cI cII cL : ClassId) (h g : Nat → Nat) (o : Nat) (X : v_C p s m #[Value.ref b] c code RL wsL_law 7 D vwCl (tyl cI cII cL) (fun q : Nat => s.heap.size ≤ q)) (hXW : v_XW (fun q : Nat => s.heap.size ≤ q) s) (hX : va_X b L xs s s.heap) (hbl : b < s.heap.size) (S M : St) (F : Nat → Int64) (k : Nat) (hk : 4 * k + 4 ≤ L) (hL : L ≤ 2048) (hRel : Rel k S M) (hnext : ∀ (S' M' : St) (F' : Nat → Int64), Rel (k + 1) S' M' → v_V p l e room_1 s m #[Value.ref b] below meth c D vwCl (fun q : Nat => s.heap.size ≤ q) 7 (lw_Z below #[Value.ref b] s) (100 + 8 * (k + 1)) (5000 + 48 * (k + 1)) (wA h cI cII cL g o S' M' F') 1605 [(4, .int (nI (4 * k))), (3, .ref o), (2, .ref (g 0)), (1, .ref (h 0)), (0, .ref b)] []) : v_V p l e room_1 s m #[Value.ref b] below meth c D vwCl (fun q : Nat => s.heap.size ≤ q) 7 (lw_Z below #[Value.ref b] s) (100 + 8 * k) (5000 + 48 * k) (wA h cI cII cL g o S M F) 928 [(4, .int (nI (4 * k))), (3, .ref o), (2, .ref (g 0)), (1, .ref (h 0)), (0, .ref b)] [] := by
  have hbA : ¬ (fun q : Nat => s.heap.size ≤ q) b := Nat.not_le.mpr hbl
  obtain ⟨hth, hv, hR⟩ := sim_agree hRel (by omega) (xs (nI (4 * k) + 1).toNatClampNeg)
  refine v_aload_n X dL_law_928 rfl ?_
  refine v_aload_n X dL_law_929 rfl ?_
  refine v_iload X dL_law_930 rfl ?_
  refine v_iconst (x := 1) X dL_law_932 rfl ?_
  refine v_iadd X dL_law_933 ?_
  refine v_sld X hX hbl hbA (by rw [ix_n (4 * k) 1 1 rfl]; exact vp_in_nI (by omega) (by omega)) dL_law_934 ?_
  refine v_aload_n X dL_law_935 rfl ?_
  refine v_callLic (As := [.ref (h 0), .int (xs (nI (4 * k) + 1).toNatClampNeg), .ref o]) (rest := []) (w' := (wA h cI cII cL g o (s_L_agree S (xs (nI (4 * k) + 1).toNatClampNeg)) M (f_L_agree S (xs (nI (4 * k) + 1).toNatClampNeg) F))) X hXW (c_L_agree l D cI cII cL hlt h o S (xs (nI (4 * k) + 1).toNatClampNeg) F hRel.hcnt hRel.hhis) (vx_cwSW 3 X.2.2.2.1 gL_law_L_agree rfl rfl rfl (by decide +kernel) ⟨Nat.le_of_ble_eq_true rfl, Nat.le_of_ble_eq_true rfl⟩) aC1 aR1 aP1 (cutA1 h cI cII cL g o) rfl rfl (Nat.le_of_ble_eq_true rfl) dL_law_936 ⟨(show _ ≤ 601024 by show 100 + 8 * k + 2 ≤ 601024; omega), (show _ ≤ 7293034 by show 5000 + 48 * k + 12 ≤ 7293034; omega)⟩ ?_
  refine v_istore (lv' := [(5, .int (k_L_agree S (xs (nI (4 * k) + 1).toNatClampNeg))), (4, .int (nI (4 * k))), (3, .ref o), (2, .ref (g 0)), (1, .ref (h 0)), (0, .ref b)]) X dL_law_939 (by decide) rfl ?_
  refine v_aload_n X dL_law_941 rfl ?_
  refine v_aload_n X dL_law_942 rfl ?_
  refine v_iload X dL_law_943 rfl ?_
  refine v_iconst (x := 1) X dL_law_945 rfl ?_
  refine v_iadd X dL_law_946 ?_
  refine v_sld X hX hbl hbA (by rw [ix_n (4 * k) 1 1 rfl]; exact vp_in_nI (by omega) (by omega)) dL_law_947 ?_
  refine v_callVic (As := [.int (xs (nI (4 * k) + 1).toNatClampNeg)]) (rest := []) (w' := (wA h cI cII cL g o (s_L_agree S (xs (nI (4 * k) + 1).toNatClampNeg)) (s_X4_agree M (xs (nI (4 * k) + 1).toNatClampNeg)) (f_L_agree S (xs (nI (4 * k) + 1).toNatClampNeg) F))) X (c_X4_agree l D cI cII cL g M (xs (nI (4 * k) + 1).toNatClampNeg) hRel.hmc hRel.hmswp) (cwV 1 X.2.2.2.1 gL_law_X4_agree rfl rfl rfl (by decide +kernel) ⟨Nat.le_of_ble_eq_true rfl, Nat.le_of_ble_eq_true rfl⟩) aC3 aR3 aP3 (cutA3 h cI cII cL g o) 0 4 rfl rfl wM_g0 rfl rfl (Nat.le_of_ble_eq_true rfl) dL_law_948 ⟨(show _ ≤ 601024 by show 100 + 8 * k + 2 ≤ 601024; omega), (show _ ≤ 7293034 by show 5000 + 48 * k + 12 ≤ 7293034; omega)⟩ ?_
  refine v_istore (lv' := [(6, .int (r_X4_agree M (xs (nI (4 * k) + 1).toNatClampNeg))), (5, .int (k_L_agree S (xs (nI (4 * k) + 1).toNatClampNeg))), (4, .int (nI (4 * k))), (3, .ref o), (2, .ref (g 0)), (1, .ref (h 0)), (0, .ref b)]) X dL_law_951 (by decide) rfl ?_
  refine v_aload_n X dL_law_953 rfl ?_
  refine v_callVic (As := []) (rest := []) (w' := (wA h cI cII cL g o (s_L_agree S (xs (nI (4 * k) + 1).toNatClampNeg)) (s_X4_agree M (xs (nI (4 * k) + 1).toNatClampNeg)) (f_L_agree S (xs (nI (4 * k) + 1).toNatClampNeg) F))) X (c_X4_thrown l D cI cII cL g (s_X4_agree M (xs (nI (4 * k) + 1).toNatClampNeg))) (cwV 0 X.2.2.2.1 gL_law_X4_thrown rfl rfl rfl (by decide +kernel) ⟨Nat.le_of_ble_eq_true rfl, Nat.le_of_ble_eq_true rfl⟩) aC3 aR3 aP3 (cutA3 h cI cII cL g o) 0 4 rfl rfl wM_g0 rfl rfl (Nat.le_of_ble_eq_true rfl) dL_law_954 ⟨(show _ ≤ 601024 by show 100 + 8 * k + 2 ≤ 601024; omega), (show _ ≤ 7293034 by show 5000 + 48 * k + 12 ≤ 7293034; omega)⟩ ?_
  refine v_iload X dL_law_957 rfl ?_
  refine v_icmp_eq (tgt := 964) X dL_law_959 (by decide) (fun c_1 => ?_) (fun c_1 => absurd hth c_1)
  refine v_iload X dL_law_964 rfl ?_
  refine v_if_ne (tgt := 981) X dL_law_966 (by decide) (fun c_2 => ?_) (fun c_2 => ?_)
  · refine v_goto (tgt := 1605) X dL_law_981 (by decide) ?_
    refine v_lv [2, 3, 4, 5, 6] rfl ?_
    refine v_wd (cells' := 100 + 8 * (k + 1)) (slots' := 5000 + 48 * (k + 1)) (by show 100 + 8 * k + 2 ≤ _; omega) (by show 5000 + 48 * k + 12 ≤ _; omega) ?_
    exact hnext _ _ _ hR
  · have hv := hv c_2 F
    refine v_aload_n X dL_law_969 rfl ?_
    refine v_iconst (x := 0) X dL_law_970 rfl ?_
    refine v_lald X 43 2 wA_go rfl (vp_in_nI (n := 0) (by decide) (by decide)) dL_law_971 ?_
    refine v_iload X dL_law_972 rfl ?_
    refine v_i2l X dL_law_974 ?_
    refine v_lcmp X dL_law_975 ?_
    refine v_if_eq (tgt := 981) X dL_law_976 (by decide) (fun c_3 => ?_) (fun c_3 => absurd (show lg_cmp ((f_L_agree S (xs (nI (4 * k) + 1).toNatClampNeg) F) 0) (r_X4_agree M (xs (nI (4 * k) + 1).toNatClampNeg)).toInt64 = 0 from by rw [hv]; exact lg_self _) c_3)
    refine v_goto (tgt := 1605) X dL_law_981 (by decide) ?_
    refine v_lv [2, 3, 4, 5, 6] rfl ?_
    refine v_wd (cells' := 100 + 8 * (k + 1)) (slots' := 5000 + 48 * (k + 1)) (by show 100 + 8 * k + 2 ≤ _; omega) (by show 5000 + 48 * k + 12 ≤ _; omega) ?_
    exact hnext _ _ _ hR
set_option maxHeartbeats 1000000 in
set_option maxRecDepth 100000 in
theorem law_c14 {p : Program} {e : Env} {s : State} {m : MethodId} {below : List Frame} {meth : Method} {c : Code} {b L : Nat} {xs : Nat → Int32} (l : Launch) (hlt : l.stackTraces = false) (D : va_G) (cI cII cL : ClassId) (h g : Nat → Nat) (o : Nat) (X : v_C p s m #[Value.ref b] c code RL wsL_law 7 D vwCl (tyl cI cII cL) (fun q : Nat => s.heap.size ≤ q)) (hXW : v_XW (fun q : Nat => s.heap.size ≤ q) s) (hX : va_X b L xs s s.heap) (hbl : b < s.heap.size) (S M : St) (F : Nat → Int64) (k : Nat) (hk : 4 * k + 4 ≤ L) (hL : L ≤ 2048) (hRel : Rel k S M) (hnext : ∀ (S' M' : St) (F' : Nat → Int64), Rel (k + 1) S' M' → v_V p l e room_1 s m #[Value.ref b] below meth c D vwCl (fun q : Nat => s.heap.size ≤ q) 7 (lw_Z below #[Value.ref b] s) (100 + 8 * (k + 1)) (5000 + 48 * (k + 1)) (wA h cI cII cL g o S' M' F') 1605 [(4, .int (nI (4 * k))), (3, .ref o), (2, .ref (g 0)), (1, .ref (h 0)), (0, .ref b)] []) : v_V p l e room_1 s m #[Value.ref b] below meth c D vwCl (fun q : Nat => s.heap.size ≤ q) 7 (lw_Z below #[Value.ref b] s) (100 + 8 * k) (5000 + 48 * k) (wA h cI cII cL g o S M F) 984 [(4, .int (nI (4 * k))), (3, .ref o), (2, .ref (g 0)), (1, .ref (h 0)), (0, .ref b)] [] := by
  have hbA : ¬ (fun q : Nat => s.heap.size ≤ q) b := Nat.not_le.mpr hbl
  obtain ⟨hth, hR⟩ := sim_cancelSwap hRel (by omega) (xs (nI (4 * k) + 1).toNatClampNeg)
  refine v_aload_n X dL_law_984 rfl ?_
  refine v_aload_n X dL_law_985 rfl ?_
  refine v_iload X dL_law_986 rfl ?_
  refine v_iconst (x := 1) X dL_law_988 rfl ?_
  refine v_iadd X dL_law_989 ?_
  refine v_sld X hX hbl hbA (by rw [ix_n (4 * k) 1 1 rfl]; exact vp_in_nI (by omega) (by omega)) dL_law_990 ?_
  refine v_callLic (As := [.ref (h 0), .int (xs (nI (4 * k) + 1).toNatClampNeg)]) (rest := []) (w' := (wA h cI cII cL g o (s_L_cancelSwap S (xs (nI (4 * k) + 1).toNatClampNeg)) M F)) X hXW (c_L_cancelSwap l D cI cII cL hlt h S (xs (nI (4 * k) + 1).toNatClampNeg) hRel.hcnt) (vx_cwSW 2 X.2.2.2.1 gL_law_L_cancelSwap rfl rfl rfl (by decide +kernel) ⟨Nat.le_of_ble_eq_true rfl, Nat.le_of_ble_eq_true rfl⟩) aC2 aR2 aP2 (cutA2 h cI cII cL g o) rfl rfl (Nat.le_of_ble_eq_true rfl) dL_law_991 ⟨(show _ ≤ 601024 by show 100 + 8 * k + 2 ≤ 601024; omega), (show _ ≤ 7293034 by show 5000 + 48 * k + 12 ≤ 7293034; omega)⟩ ?_
  refine v_istore (lv' := [(5, .int (k_L_cancelSwap S (xs (nI (4 * k) + 1).toNatClampNeg))), (4, .int (nI (4 * k))), (3, .ref o), (2, .ref (g 0)), (1, .ref (h 0)), (0, .ref b)]) X dL_law_994 (by decide) rfl ?_
  refine v_aload_n X dL_law_996 rfl ?_
  refine v_aload_n X dL_law_997 rfl ?_
  refine v_iload X dL_law_998 rfl ?_
  refine v_iconst (x := 1) X dL_law_1000 rfl ?_
  refine v_iadd X dL_law_1001 ?_
  refine v_sld X hX hbl hbA (by rw [ix_n (4 * k) 1 1 rfl]; exact vp_in_nI (by omega) (by omega)) dL_law_1002 ?_
  refine v_callVvc (As := [.int (xs (nI (4 * k) + 1).toNatClampNeg)]) (rest := []) (w' := (wA h cI cII cL g o (s_L_cancelSwap S (xs (nI (4 * k) + 1).toNatClampNeg)) (s_X4_cancelSwap M (xs (nI (4 * k) + 1).toNatClampNeg)) F)) X (c_X4_cancelSwap l D cI cII cL g M (xs (nI (4 * k) + 1).toNatClampNeg) hRel.hmc) (cwV 1 X.2.2.2.1 gL_law_X4_cancelSwap rfl rfl rfl (by decide +kernel) ⟨Nat.le_of_ble_eq_true rfl, Nat.le_of_ble_eq_true rfl⟩) aC3 aR3 aP3 (cutA3 h cI cII cL g o) 0 4 rfl rfl wM_g0 rfl rfl (Nat.le_of_ble_eq_true rfl) dL_law_1003 ⟨(show _ ≤ 601024 by show 100 + 8 * k + 2 ≤ 601024; omega), (show _ ≤ 7293034 by show 5000 + 48 * k + 12 ≤ 7293034; omega)⟩ ?_
  refine v_aload_n X dL_law_1006 rfl ?_
  refine v_callVic (As := []) (rest := []) (w' := (wA h cI cII cL g o (s_L_cancelSwap S (xs (nI (4 * k) + 1).toNatClampNeg)) (s_X4_cancelSwap M (xs (nI (4 * k) + 1).toNatClampNeg)) F)) X (c_X4_thrown l D cI cII cL g (s_X4_cancelSwap M (xs (nI (4 * k) + 1).toNatClampNeg))) (cwV 0 X.2.2.2.1 gL_law_X4_thrown rfl rfl rfl (by decide +kernel) ⟨Nat.le_of_ble_eq_true rfl, Nat.le_of_ble_eq_true rfl⟩) aC3 aR3 aP3 (cutA3 h cI cII cL g o) 0 4 rfl rfl wM_g0 rfl rfl (Nat.le_of_ble_eq_true rfl) dL_law_1007 ⟨(show _ ≤ 601024 by show 100 + 8 * k + 2 ≤ 601024; omega), (show _ ≤ 7293034 by show 5000 + 48 * k + 12 ≤ 7293034; omega)⟩ ?_
  refine v_iload X dL_law_1010 rfl ?_
  refine v_icmp_eq (tgt := 1017) X dL_law_1012 (by decide) (fun c_1 => ?_) (fun c_1 => absurd hth c_1)
  refine v_goto (tgt := 1605) X dL_law_1017 (by decide) ?_
  refine v_lv [1, 2, 3, 4, 5] rfl ?_
  refine v_wd (cells' := 100 + 8 * (k + 1)) (slots' := 5000 + 48 * (k + 1)) (by show 100 + 8 * k + 2 ≤ _; omega) (by show 5000 + 48 * k + 12 ≤ _; omega) ?_
  exact hnext _ _ _ hR
set_option maxHeartbeats 1000000 in
set_option maxRecDepth 100000 in
theorem law_c15 {p : Program} {e : Env} {s : State} {m : MethodId} {below : List Frame} {meth : Method} {c : Code} {b L : Nat} {xs : Nat → Int32} (l : Launch) (hlt : l.stackTraces = false) (D : va_G) (cI cII cL : ClassId) (h g : Nat → Nat) (o : Nat) (X : v_C p s m #[Value.ref b] c code RL wsL_law 7 D vwCl (tyl cI cII cL) (fun q : Nat => s.heap.size ≤ q)) (hXW : v_XW (fun q : Nat => s.heap.size ≤ q) s) (hX : va_X b L xs s s.heap) (hbl : b < s.heap.size) (S M : St) (F : Nat → Int64) (k : Nat) (hk : 4 * k + 4 ≤ L) (hL : L ≤ 2048) (hRel : Rel k S M) (hnext : ∀ (S' M' : St) (F' : Nat → Int64), Rel (k + 1) S' M' → v_V p l e room_1 s m #[Value.ref b] below meth c D vwCl (fun q : Nat => s.heap.size ≤ q) 7 (lw_Z below #[Value.ref b] s) (100 + 8 * (k + 1)) (5000 + 48 * (k + 1)) (wA h cI cII cL g o S' M' F') 1605 [(4, .int (nI (4 * k))), (3, .ref o), (2, .ref (g 0)), (1, .ref (h 0)), (0, .ref b)] []) : v_V p l e room_1 s m #[Value.ref b] below meth c D vwCl (fun q : Nat => s.heap.size ≤ q) 7 (lw_Z below #[Value.ref b] s) (100 + 8 * k) (5000 + 48 * k) (wA h cI cII cL g o S M F) 1020 [(4, .int (nI (4 * k))), (3, .ref o), (2, .ref (g 0)), (1, .ref (h 0)), (0, .ref b)] [] := by
  have hbA : ¬ (fun q : Nat => s.heap.size ≤ q) b := Nat.not_le.mpr hbl
  obtain ⟨hth, hv, hR⟩ := sim_lend hRel (by omega) (xs (nI (4 * k) + 1).toNatClampNeg) (xs (nI (4 * k) + 2).toNatClampNeg) (xs (nI (4 * k) + 3).toNatClampNeg)
  refine v_aload_n X dL_law_1020 rfl ?_
  refine v_aload_n X dL_law_1021 rfl ?_
  refine v_iload X dL_law_1022 rfl ?_
  refine v_iconst (x := 1) X dL_law_1024 rfl ?_
  refine v_iadd X dL_law_1025 ?_
  refine v_sld X hX hbl hbA (by rw [ix_n (4 * k) 1 1 rfl]; exact vp_in_nI (by omega) (by omega)) dL_law_1026 ?_
  refine v_aload_n X dL_law_1027 rfl ?_
  refine v_iload X dL_law_1028 rfl ?_
  refine v_iconst (x := 2) X dL_law_1030 rfl ?_
  refine v_iadd X dL_law_1031 ?_
  refine v_sld X hX hbl hbA (by rw [ix_n (4 * k) 2 2 rfl]; exact vp_in_nI (by omega) (by omega)) dL_law_1032 ?_
  refine v_aload_n X dL_law_1033 rfl ?_
  refine v_iload X dL_law_1034 rfl ?_
  refine v_iconst (x := 3) X dL_law_1036 rfl ?_
  refine v_iadd X dL_law_1037 ?_
  refine v_sld X hX hbl hbA (by rw [ix_n (4 * k) 3 3 rfl]; exact vp_in_nI (by omega) (by omega)) dL_law_1038 ?_
  refine v_aload_n X dL_law_1039 rfl ?_
  refine v_callLic (As := [.ref (h 0), .int (xs (nI (4 * k) + 1).toNatClampNeg), .int (xs (nI (4 * k) + 2).toNatClampNeg), .int (xs (nI (4 * k) + 3).toNatClampNeg), .ref o]) (rest := []) (w' := (wA h cI cII cL g o (s_L_lend S (xs (nI (4 * k) + 1).toNatClampNeg) (xs (nI (4 * k) + 2).toNatClampNeg) (xs (nI (4 * k) + 3).toNatClampNeg)) M (f_L_lend S (xs (nI (4 * k) + 1).toNatClampNeg) (xs (nI (4 * k) + 2).toNatClampNeg) (xs (nI (4 * k) + 3).toNatClampNeg) F))) X hXW (c_L_lend l D cI cII cL hlt h o S (xs (nI (4 * k) + 1).toNatClampNeg) (xs (nI (4 * k) + 2).toNatClampNeg) (xs (nI (4 * k) + 3).toNatClampNeg) F hRel.hcnt) (vx_cwSW 5 X.2.2.2.1 gL_law_L_lend rfl rfl rfl (by decide +kernel) ⟨Nat.le_of_ble_eq_true rfl, Nat.le_of_ble_eq_true rfl⟩) aC1 aR1 aP1 (cutA1 h cI cII cL g o) rfl rfl (Nat.le_of_ble_eq_true rfl) dL_law_1040 ⟨(show _ ≤ 601024 by show 100 + 8 * k + 3 ≤ 601024; omega), (show _ ≤ 7293034 by show 5000 + 48 * k + 18 ≤ 7293034; omega)⟩ ?_
  refine v_istore (lv' := [(5, .int (k_L_lend S (xs (nI (4 * k) + 1).toNatClampNeg) (xs (nI (4 * k) + 2).toNatClampNeg) (xs (nI (4 * k) + 3).toNatClampNeg))), (4, .int (nI (4 * k))), (3, .ref o), (2, .ref (g 0)), (1, .ref (h 0)), (0, .ref b)]) X dL_law_1043 (by decide) rfl ?_
  refine v_aload_n X dL_law_1045 rfl ?_
  refine v_aload_n X dL_law_1046 rfl ?_
  refine v_iload X dL_law_1047 rfl ?_
  refine v_iconst (x := 1) X dL_law_1049 rfl ?_
  refine v_iadd X dL_law_1050 ?_
  refine v_sld X hX hbl hbA (by rw [ix_n (4 * k) 1 1 rfl]; exact vp_in_nI (by omega) (by omega)) dL_law_1051 ?_
  refine v_aload_n X dL_law_1052 rfl ?_
  refine v_iload X dL_law_1053 rfl ?_
  refine v_iconst (x := 2) X dL_law_1055 rfl ?_
  refine v_iadd X dL_law_1056 ?_
  refine v_sld X hX hbl hbA (by rw [ix_n (4 * k) 2 2 rfl]; exact vp_in_nI (by omega) (by omega)) dL_law_1057 ?_
  refine v_aload_n X dL_law_1058 rfl ?_
  refine v_iload X dL_law_1059 rfl ?_
  refine v_iconst (x := 3) X dL_law_1061 rfl ?_
  refine v_iadd X dL_law_1062 ?_
  refine v_sld X hX hbl hbA (by rw [ix_n (4 * k) 3 3 rfl]; exact vp_in_nI (by omega) (by omega)) dL_law_1063 ?_
  refine v_callVic (As := [.int (xs (nI (4 * k) + 1).toNatClampNeg), .int (xs (nI (4 * k) + 2).toNatClampNeg), .int (xs (nI (4 * k) + 3).toNatClampNeg)]) (rest := []) (w' := (wA h cI cII cL g o (s_L_lend S (xs (nI (4 * k) + 1).toNatClampNeg) (xs (nI (4 * k) + 2).toNatClampNeg) (xs (nI (4 * k) + 3).toNatClampNeg)) (s_X4_lend M (xs (nI (4 * k) + 1).toNatClampNeg) (xs (nI (4 * k) + 2).toNatClampNeg) (xs (nI (4 * k) + 3).toNatClampNeg)) (f_L_lend S (xs (nI (4 * k) + 1).toNatClampNeg) (xs (nI (4 * k) + 2).toNatClampNeg) (xs (nI (4 * k) + 3).toNatClampNeg) F))) X (c_X4_lend l D cI cII cL g M (xs (nI (4 * k) + 1).toNatClampNeg) (xs (nI (4 * k) + 2).toNatClampNeg) (xs (nI (4 * k) + 3).toNatClampNeg) hRel.hmc) (cwV 3 X.2.2.2.1 gL_law_X4_lend rfl rfl rfl (by decide +kernel) ⟨Nat.le_of_ble_eq_true rfl, Nat.le_of_ble_eq_true rfl⟩) aC3 aR3 aP3 (cutA3 h cI cII cL g o) 0 4 rfl rfl wM_g0 rfl rfl (Nat.le_of_ble_eq_true rfl) dL_law_1064 ⟨(show _ ≤ 601024 by show 100 + 8 * k + 3 ≤ 601024; omega), (show _ ≤ 7293034 by show 5000 + 48 * k + 18 ≤ 7293034; omega)⟩ ?_
  refine v_istore (lv' := [(6, .int (r_X4_lend M (xs (nI (4 * k) + 1).toNatClampNeg) (xs (nI (4 * k) + 2).toNatClampNeg) (xs (nI (4 * k) + 3).toNatClampNeg))), (5, .int (k_L_lend S (xs (nI (4 * k) + 1).toNatClampNeg) (xs (nI (4 * k) + 2).toNatClampNeg) (xs (nI (4 * k) + 3).toNatClampNeg))), (4, .int (nI (4 * k))), (3, .ref o), (2, .ref (g 0)), (1, .ref (h 0)), (0, .ref b)]) X dL_law_1067 (by decide) rfl ?_
  refine v_aload_n X dL_law_1069 rfl ?_
  refine v_callVic (As := []) (rest := []) (w' := (wA h cI cII cL g o (s_L_lend S (xs (nI (4 * k) + 1).toNatClampNeg) (xs (nI (4 * k) + 2).toNatClampNeg) (xs (nI (4 * k) + 3).toNatClampNeg)) (s_X4_lend M (xs (nI (4 * k) + 1).toNatClampNeg) (xs (nI (4 * k) + 2).toNatClampNeg) (xs (nI (4 * k) + 3).toNatClampNeg)) (f_L_lend S (xs (nI (4 * k) + 1).toNatClampNeg) (xs (nI (4 * k) + 2).toNatClampNeg) (xs (nI (4 * k) + 3).toNatClampNeg) F))) X (c_X4_thrown l D cI cII cL g (s_X4_lend M (xs (nI (4 * k) + 1).toNatClampNeg) (xs (nI (4 * k) + 2).toNatClampNeg) (xs (nI (4 * k) + 3).toNatClampNeg))) (cwV 0 X.2.2.2.1 gL_law_X4_thrown rfl rfl rfl (by decide +kernel) ⟨Nat.le_of_ble_eq_true rfl, Nat.le_of_ble_eq_true rfl⟩) aC3 aR3 aP3 (cutA3 h cI cII cL g o) 0 4 rfl rfl wM_g0 rfl rfl (Nat.le_of_ble_eq_true rfl) dL_law_1070 ⟨(show _ ≤ 601024 by show 100 + 8 * k + 3 ≤ 601024; omega), (show _ ≤ 7293034 by show 5000 + 48 * k + 18 ≤ 7293034; omega)⟩ ?_
  refine v_iload X dL_law_1073 rfl ?_
  refine v_icmp_eq (tgt := 1080) X dL_law_1075 (by decide) (fun c_1 => ?_) (fun c_1 => absurd hth c_1)
  refine v_iload X dL_law_1080 rfl ?_
  refine v_if_ne (tgt := 1097) X dL_law_1082 (by decide) (fun c_2 => ?_) (fun c_2 => ?_)
  · refine v_goto (tgt := 1605) X dL_law_1097 (by decide) ?_
    refine v_lv [2, 3, 4, 5, 6] rfl ?_
    refine v_wd (cells' := 100 + 8 * (k + 1)) (slots' := 5000 + 48 * (k + 1)) (by show 100 + 8 * k + 3 ≤ _; omega) (by show 5000 + 48 * k + 18 ≤ _; omega) ?_
    exact hnext _ _ _ hR
  · have hv := hv c_2 F
    refine v_aload_n X dL_law_1085 rfl ?_
    refine v_iconst (x := 0) X dL_law_1086 rfl ?_
    refine v_lald X 43 2 wA_go rfl (vp_in_nI (n := 0) (by decide) (by decide)) dL_law_1087 ?_
    refine v_iload X dL_law_1088 rfl ?_
    refine v_i2l X dL_law_1090 ?_
    refine v_lcmp X dL_law_1091 ?_
    refine v_if_eq (tgt := 1097) X dL_law_1092 (by decide) (fun c_3 => ?_) (fun c_3 => absurd (show lg_cmp ((f_L_lend S (xs (nI (4 * k) + 1).toNatClampNeg) (xs (nI (4 * k) + 2).toNatClampNeg) (xs (nI (4 * k) + 3).toNatClampNeg) F) 0) (r_X4_lend M (xs (nI (4 * k) + 1).toNatClampNeg) (xs (nI (4 * k) + 2).toNatClampNeg) (xs (nI (4 * k) + 3).toNatClampNeg)).toInt64 = 0 from by rw [hv]; exact lg_self _) c_3)
    refine v_goto (tgt := 1605) X dL_law_1097 (by decide) ?_
    refine v_lv [2, 3, 4, 5, 6] rfl ?_
    refine v_wd (cells' := 100 + 8 * (k + 1)) (slots' := 5000 + 48 * (k + 1)) (by show 100 + 8 * k + 3 ≤ _; omega) (by show 5000 + 48 * k + 18 ≤ _; omega) ?_
    exact hnext _ _ _ hR
set_option maxHeartbeats 1000000 in
set_option maxRecDepth 100000 in
theorem law_c16 {p : Program} {e : Env} {s : State} {m : MethodId} {below : List Frame} {meth : Method} {c : Code} {b L : Nat} {xs : Nat → Int32} (l : Launch) (hlt : l.stackTraces = false) (D : va_G) (cI cII cL : ClassId) (h g : Nat → Nat) (o : Nat) (X : v_C p s m #[Value.ref b] c code RL wsL_law 7 D vwCl (tyl cI cII cL) (fun q : Nat => s.heap.size ≤ q)) (hXW : v_XW (fun q : Nat => s.heap.size ≤ q) s) (hX : va_X b L xs s s.heap) (hbl : b < s.heap.size) (S M : St) (F : Nat → Int64) (k : Nat) (hk : 4 * k + 4 ≤ L) (hL : L ≤ 2048) (hRel : Rel k S M) (hnext : ∀ (S' M' : St) (F' : Nat → Int64), Rel (k + 1) S' M' → v_V p l e room_1 s m #[Value.ref b] below meth c D vwCl (fun q : Nat => s.heap.size ≤ q) 7 (lw_Z below #[Value.ref b] s) (100 + 8 * (k + 1)) (5000 + 48 * (k + 1)) (wA h cI cII cL g o S' M' F') 1605 [(4, .int (nI (4 * k))), (3, .ref o), (2, .ref (g 0)), (1, .ref (h 0)), (0, .ref b)] []) : v_V p l e room_1 s m #[Value.ref b] below meth c D vwCl (fun q : Nat => s.heap.size ≤ q) 7 (lw_Z below #[Value.ref b] s) (100 + 8 * k) (5000 + 48 * k) (wA h cI cII cL g o S M F) 1100 [(4, .int (nI (4 * k))), (3, .ref o), (2, .ref (g 0)), (1, .ref (h 0)), (0, .ref b)] [] := by
  have hbA : ¬ (fun q : Nat => s.heap.size ≤ q) b := Nat.not_le.mpr hbl
  obtain ⟨hth, hv, hR⟩ := sim_ban hRel (by omega) (xs (nI (4 * k) + 1).toNatClampNeg) (xs (nI (4 * k) + 2).toNatClampNeg)
  refine v_aload_n X dL_law_1100 rfl ?_
  refine v_aload_n X dL_law_1101 rfl ?_
  refine v_iload X dL_law_1102 rfl ?_
  refine v_iconst (x := 1) X dL_law_1104 rfl ?_
  refine v_iadd X dL_law_1105 ?_
  refine v_sld X hX hbl hbA (by rw [ix_n (4 * k) 1 1 rfl]; exact vp_in_nI (by omega) (by omega)) dL_law_1106 ?_
  refine v_aload_n X dL_law_1107 rfl ?_
  refine v_iload X dL_law_1108 rfl ?_
  refine v_iconst (x := 2) X dL_law_1110 rfl ?_
  refine v_iadd X dL_law_1111 ?_
  refine v_sld X hX hbl hbA (by rw [ix_n (4 * k) 2 2 rfl]; exact vp_in_nI (by omega) (by omega)) dL_law_1112 ?_
  refine v_aload_n X dL_law_1113 rfl ?_
  refine v_callLic (As := [.ref (h 0), .int (xs (nI (4 * k) + 1).toNatClampNeg), .int (xs (nI (4 * k) + 2).toNatClampNeg), .ref o]) (rest := []) (w' := (wA h cI cII cL g o (s_L_ban S (xs (nI (4 * k) + 1).toNatClampNeg) (xs (nI (4 * k) + 2).toNatClampNeg)) M (f_L_ban S (xs (nI (4 * k) + 1).toNatClampNeg) (xs (nI (4 * k) + 2).toNatClampNeg) F))) X hXW (c_L_ban l D cI cII cL hlt h o S (xs (nI (4 * k) + 1).toNatClampNeg) (xs (nI (4 * k) + 2).toNatClampNeg) F hRel.hcnt) (vx_cwSW 4 X.2.2.2.1 gL_law_L_ban rfl rfl rfl (by decide +kernel) ⟨Nat.le_of_ble_eq_true rfl, Nat.le_of_ble_eq_true rfl⟩) aC1 aR1 aP1 (cutA1 h cI cII cL g o) rfl rfl (Nat.le_of_ble_eq_true rfl) dL_law_1114 ⟨(show _ ≤ 601024 by show 100 + 8 * k + 2 ≤ 601024; omega), (show _ ≤ 7293034 by show 5000 + 48 * k + 12 ≤ 7293034; omega)⟩ ?_
  refine v_istore (lv' := [(5, .int (k_L_ban S (xs (nI (4 * k) + 1).toNatClampNeg) (xs (nI (4 * k) + 2).toNatClampNeg))), (4, .int (nI (4 * k))), (3, .ref o), (2, .ref (g 0)), (1, .ref (h 0)), (0, .ref b)]) X dL_law_1117 (by decide) rfl ?_
  refine v_aload_n X dL_law_1119 rfl ?_
  refine v_aload_n X dL_law_1120 rfl ?_
  refine v_iload X dL_law_1121 rfl ?_
  refine v_iconst (x := 1) X dL_law_1123 rfl ?_
  refine v_iadd X dL_law_1124 ?_
  refine v_sld X hX hbl hbA (by rw [ix_n (4 * k) 1 1 rfl]; exact vp_in_nI (by omega) (by omega)) dL_law_1125 ?_
  refine v_aload_n X dL_law_1126 rfl ?_
  refine v_iload X dL_law_1127 rfl ?_
  refine v_iconst (x := 2) X dL_law_1129 rfl ?_
  refine v_iadd X dL_law_1130 ?_
  refine v_sld X hX hbl hbA (by rw [ix_n (4 * k) 2 2 rfl]; exact vp_in_nI (by omega) (by omega)) dL_law_1131 ?_
  refine v_callVic (As := [.int (xs (nI (4 * k) + 1).toNatClampNeg), .int (xs (nI (4 * k) + 2).toNatClampNeg)]) (rest := []) (w' := (wA h cI cII cL g o (s_L_ban S (xs (nI (4 * k) + 1).toNatClampNeg) (xs (nI (4 * k) + 2).toNatClampNeg)) (s_X4_ban M (xs (nI (4 * k) + 1).toNatClampNeg) (xs (nI (4 * k) + 2).toNatClampNeg)) (f_L_ban S (xs (nI (4 * k) + 1).toNatClampNeg) (xs (nI (4 * k) + 2).toNatClampNeg) F))) X (c_X4_ban l D cI cII cL g M (xs (nI (4 * k) + 1).toNatClampNeg) (xs (nI (4 * k) + 2).toNatClampNeg) hRel.hmc) (cwV 2 X.2.2.2.1 gL_law_X4_ban rfl rfl rfl (by decide +kernel) ⟨Nat.le_of_ble_eq_true rfl, Nat.le_of_ble_eq_true rfl⟩) aC3 aR3 aP3 (cutA3 h cI cII cL g o) 0 4 rfl rfl wM_g0 rfl rfl (Nat.le_of_ble_eq_true rfl) dL_law_1132 ⟨(show _ ≤ 601024 by show 100 + 8 * k + 2 ≤ 601024; omega), (show _ ≤ 7293034 by show 5000 + 48 * k + 12 ≤ 7293034; omega)⟩ ?_
  refine v_istore (lv' := [(6, .int (r_X4_ban M (xs (nI (4 * k) + 1).toNatClampNeg) (xs (nI (4 * k) + 2).toNatClampNeg))), (5, .int (k_L_ban S (xs (nI (4 * k) + 1).toNatClampNeg) (xs (nI (4 * k) + 2).toNatClampNeg))), (4, .int (nI (4 * k))), (3, .ref o), (2, .ref (g 0)), (1, .ref (h 0)), (0, .ref b)]) X dL_law_1135 (by decide) rfl ?_
  refine v_aload_n X dL_law_1137 rfl ?_
  refine v_callVic (As := []) (rest := []) (w' := (wA h cI cII cL g o (s_L_ban S (xs (nI (4 * k) + 1).toNatClampNeg) (xs (nI (4 * k) + 2).toNatClampNeg)) (s_X4_ban M (xs (nI (4 * k) + 1).toNatClampNeg) (xs (nI (4 * k) + 2).toNatClampNeg)) (f_L_ban S (xs (nI (4 * k) + 1).toNatClampNeg) (xs (nI (4 * k) + 2).toNatClampNeg) F))) X (c_X4_thrown l D cI cII cL g (s_X4_ban M (xs (nI (4 * k) + 1).toNatClampNeg) (xs (nI (4 * k) + 2).toNatClampNeg))) (cwV 0 X.2.2.2.1 gL_law_X4_thrown rfl rfl rfl (by decide +kernel) ⟨Nat.le_of_ble_eq_true rfl, Nat.le_of_ble_eq_true rfl⟩) aC3 aR3 aP3 (cutA3 h cI cII cL g o) 0 4 rfl rfl wM_g0 rfl rfl (Nat.le_of_ble_eq_true rfl) dL_law_1138 ⟨(show _ ≤ 601024 by show 100 + 8 * k + 2 ≤ 601024; omega), (show _ ≤ 7293034 by show 5000 + 48 * k + 12 ≤ 7293034; omega)⟩ ?_
  refine v_iload X dL_law_1141 rfl ?_
  refine v_icmp_eq (tgt := 1148) X dL_law_1143 (by decide) (fun c_1 => ?_) (fun c_1 => absurd hth c_1)
  refine v_iload X dL_law_1148 rfl ?_
  refine v_if_ne (tgt := 1165) X dL_law_1150 (by decide) (fun c_2 => ?_) (fun c_2 => ?_)
  · refine v_goto (tgt := 1605) X dL_law_1165 (by decide) ?_
    refine v_lv [2, 3, 4, 5, 6] rfl ?_
    refine v_wd (cells' := 100 + 8 * (k + 1)) (slots' := 5000 + 48 * (k + 1)) (by show 100 + 8 * k + 2 ≤ _; omega) (by show 5000 + 48 * k + 12 ≤ _; omega) ?_
    exact hnext _ _ _ hR
  · have hv := hv c_2 F
    refine v_aload_n X dL_law_1153 rfl ?_
    refine v_iconst (x := 0) X dL_law_1154 rfl ?_
    refine v_lald X 43 2 wA_go rfl (vp_in_nI (n := 0) (by decide) (by decide)) dL_law_1155 ?_
    refine v_iload X dL_law_1156 rfl ?_
    refine v_i2l X dL_law_1158 ?_
    refine v_lcmp X dL_law_1159 ?_
    refine v_if_eq (tgt := 1165) X dL_law_1160 (by decide) (fun c_3 => ?_) (fun c_3 => absurd (show lg_cmp ((f_L_ban S (xs (nI (4 * k) + 1).toNatClampNeg) (xs (nI (4 * k) + 2).toNatClampNeg) F) 0) (r_X4_ban M (xs (nI (4 * k) + 1).toNatClampNeg) (xs (nI (4 * k) + 2).toNatClampNeg)).toInt64 = 0 from by rw [hv]; exact lg_self _) c_3)
    refine v_goto (tgt := 1605) X dL_law_1165 (by decide) ?_
    refine v_lv [2, 3, 4, 5, 6] rfl ?_
    refine v_wd (cells' := 100 + 8 * (k + 1)) (slots' := 5000 + 48 * (k + 1)) (by show 100 + 8 * k + 2 ≤ _; omega) (by show 5000 + 48 * k + 12 ≤ _; omega) ?_
    exact hnext _ _ _ hR
set_option maxHeartbeats 1000000 in
set_option maxRecDepth 100000 in
theorem law_c17 {p : Program} {e : Env} {s : State} {m : MethodId} {below : List Frame} {meth : Method} {c : Code} {b L : Nat} {xs : Nat → Int32} (l : Launch) (hlt : l.stackTraces = false) (D : va_G) (cI cII cL : ClassId) (h g : Nat → Nat) (o : Nat) (X : v_C p s m #[Value.ref b] c code RL wsL_law 7 D vwCl (tyl cI cII cL) (fun q : Nat => s.heap.size ≤ q)) (hXW : v_XW (fun q : Nat => s.heap.size ≤ q) s) (hX : va_X b L xs s s.heap) (hbl : b < s.heap.size) (S M : St) (F : Nat → Int64) (k : Nat) (hk : 4 * k + 4 ≤ L) (hL : L ≤ 2048) (hRel : Rel k S M) (hnext : ∀ (S' M' : St) (F' : Nat → Int64), Rel (k + 1) S' M' → v_V p l e room_1 s m #[Value.ref b] below meth c D vwCl (fun q : Nat => s.heap.size ≤ q) 7 (lw_Z below #[Value.ref b] s) (100 + 8 * (k + 1)) (5000 + 48 * (k + 1)) (wA h cI cII cL g o S' M' F') 1605 [(4, .int (nI (4 * k))), (3, .ref o), (2, .ref (g 0)), (1, .ref (h 0)), (0, .ref b)] []) : v_V p l e room_1 s m #[Value.ref b] below meth c D vwCl (fun q : Nat => s.heap.size ≤ q) 7 (lw_Z below #[Value.ref b] s) (100 + 8 * k) (5000 + 48 * k) (wA h cI cII cL g o S M F) 1168 [(4, .int (nI (4 * k))), (3, .ref o), (2, .ref (g 0)), (1, .ref (h 0)), (0, .ref b)] [] := by
  have hbA : ¬ (fun q : Nat => s.heap.size ≤ q) b := Nat.not_le.mpr hbl
  obtain ⟨hth, hv, hR⟩ := sim_lift hRel (by omega) (xs (nI (4 * k) + 1).toNatClampNeg)
  refine v_aload_n X dL_law_1168 rfl ?_
  refine v_aload_n X dL_law_1169 rfl ?_
  refine v_iload X dL_law_1170 rfl ?_
  refine v_iconst (x := 1) X dL_law_1172 rfl ?_
  refine v_iadd X dL_law_1173 ?_
  refine v_sld X hX hbl hbA (by rw [ix_n (4 * k) 1 1 rfl]; exact vp_in_nI (by omega) (by omega)) dL_law_1174 ?_
  refine v_aload_n X dL_law_1175 rfl ?_
  refine v_callLic (As := [.ref (h 0), .int (xs (nI (4 * k) + 1).toNatClampNeg), .ref o]) (rest := []) (w' := (wA h cI cII cL g o (s_L_lift S (xs (nI (4 * k) + 1).toNatClampNeg)) M (f_L_lift S (xs (nI (4 * k) + 1).toNatClampNeg) F))) X hXW (c_L_lift l D cI cII cL hlt h o S (xs (nI (4 * k) + 1).toNatClampNeg) F ) (vx_cwSW 3 X.2.2.2.1 gL_law_L_lift rfl rfl rfl (by decide +kernel) ⟨Nat.le_of_ble_eq_true rfl, Nat.le_of_ble_eq_true rfl⟩) aC1 aR1 aP1 (cutA1 h cI cII cL g o) rfl rfl (Nat.le_of_ble_eq_true rfl) dL_law_1176 ⟨(show _ ≤ 601024 by show 100 + 8 * k + 1 ≤ 601024; omega), (show _ ≤ 7293034 by show 5000 + 48 * k + 6 ≤ 7293034; omega)⟩ ?_
  refine v_istore (lv' := [(5, .int (k_L_lift S (xs (nI (4 * k) + 1).toNatClampNeg))), (4, .int (nI (4 * k))), (3, .ref o), (2, .ref (g 0)), (1, .ref (h 0)), (0, .ref b)]) X dL_law_1179 (by decide) rfl ?_
  refine v_aload_n X dL_law_1181 rfl ?_
  refine v_aload_n X dL_law_1182 rfl ?_
  refine v_iload X dL_law_1183 rfl ?_
  refine v_iconst (x := 1) X dL_law_1185 rfl ?_
  refine v_iadd X dL_law_1186 ?_
  refine v_sld X hX hbl hbA (by rw [ix_n (4 * k) 1 1 rfl]; exact vp_in_nI (by omega) (by omega)) dL_law_1187 ?_
  refine v_callVic (As := [.int (xs (nI (4 * k) + 1).toNatClampNeg)]) (rest := []) (w' := (wA h cI cII cL g o (s_L_lift S (xs (nI (4 * k) + 1).toNatClampNeg)) (s_X4_lift M (xs (nI (4 * k) + 1).toNatClampNeg)) (f_L_lift S (xs (nI (4 * k) + 1).toNatClampNeg) F))) X (c_X4_lift l D cI cII cL g M (xs (nI (4 * k) + 1).toNatClampNeg) ) (cwV 1 X.2.2.2.1 gL_law_X4_lift rfl rfl rfl (by decide +kernel) ⟨Nat.le_of_ble_eq_true rfl, Nat.le_of_ble_eq_true rfl⟩) aC3 aR3 aP3 (cutA3 h cI cII cL g o) 0 4 rfl rfl wM_g0 rfl rfl (Nat.le_of_ble_eq_true rfl) dL_law_1188 ⟨(show _ ≤ 601024 by show 100 + 8 * k + 1 ≤ 601024; omega), (show _ ≤ 7293034 by show 5000 + 48 * k + 6 ≤ 7293034; omega)⟩ ?_
  refine v_istore (lv' := [(6, .int (r_X4_lift M (xs (nI (4 * k) + 1).toNatClampNeg))), (5, .int (k_L_lift S (xs (nI (4 * k) + 1).toNatClampNeg))), (4, .int (nI (4 * k))), (3, .ref o), (2, .ref (g 0)), (1, .ref (h 0)), (0, .ref b)]) X dL_law_1191 (by decide) rfl ?_
  refine v_aload_n X dL_law_1193 rfl ?_
  refine v_callVic (As := []) (rest := []) (w' := (wA h cI cII cL g o (s_L_lift S (xs (nI (4 * k) + 1).toNatClampNeg)) (s_X4_lift M (xs (nI (4 * k) + 1).toNatClampNeg)) (f_L_lift S (xs (nI (4 * k) + 1).toNatClampNeg) F))) X (c_X4_thrown l D cI cII cL g (s_X4_lift M (xs (nI (4 * k) + 1).toNatClampNeg))) (cwV 0 X.2.2.2.1 gL_law_X4_thrown rfl rfl rfl (by decide +kernel) ⟨Nat.le_of_ble_eq_true rfl, Nat.le_of_ble_eq_true rfl⟩) aC3 aR3 aP3 (cutA3 h cI cII cL g o) 0 4 rfl rfl wM_g0 rfl rfl (Nat.le_of_ble_eq_true rfl) dL_law_1194 ⟨(show _ ≤ 601024 by show 100 + 8 * k + 1 ≤ 601024; omega), (show _ ≤ 7293034 by show 5000 + 48 * k + 6 ≤ 7293034; omega)⟩ ?_
  refine v_iload X dL_law_1197 rfl ?_
  refine v_icmp_eq (tgt := 1204) X dL_law_1199 (by decide) (fun c_1 => ?_) (fun c_1 => absurd hth c_1)
  refine v_iload X dL_law_1204 rfl ?_
  refine v_if_ne (tgt := 1228) X dL_law_1206 (by decide) (fun c_2 => ?_) (fun c_2 => ?_)
  · refine v_goto (tgt := 1605) X dL_law_1228 (by decide) ?_
    refine v_lv [2, 3, 4, 5, 6] rfl ?_
    refine v_wd (cells' := 100 + 8 * (k + 1)) (slots' := 5000 + 48 * (k + 1)) (by show 100 + 8 * k + 1 ≤ _; omega) (by show 5000 + 48 * k + 6 ≤ _; omega) ?_
    exact hnext _ _ _ hR
  · have hv := hv c_2 F
    refine v_aload_n X dL_law_1209 rfl ?_
    refine v_iconst (x := 0) X dL_law_1210 rfl ?_
    refine v_lald X 43 2 wA_go rfl (vp_in_nI (n := 0) (by decide) (by decide)) dL_law_1211 ?_
    refine v_iload X dL_law_1212 rfl ?_
    refine v_if_eq (tgt := 1221) X dL_law_1214 (by decide) (fun c_4 => ?_) (fun c_4 => ?_)
    · refine v_lconst (v := 0) X dL_law_1221 rfl ?_
      refine v_lcmp X dL_law_1222 ?_
      refine v_if_eq (tgt := 1228) X dL_law_1223 (by decide) (fun c_3 => ?_) (fun c_3 => absurd (show lg_cmp ((f_L_lift S (xs (nI (4 * k) + 1).toNatClampNeg) F) 0) 0 = 0 from by rw [hv, if_pos c_4]; exact lg_self _) c_3)
      refine v_goto (tgt := 1605) X dL_law_1228 (by decide) ?_
      refine v_lv [2, 3, 4, 5, 6] rfl ?_
      refine v_wd (cells' := 100 + 8 * (k + 1)) (slots' := 5000 + 48 * (k + 1)) (by show 100 + 8 * k + 1 ≤ _; omega) (by show 5000 + 48 * k + 6 ≤ _; omega) ?_
      exact hnext _ _ _ hR
    · refine v_lconst (v := 1) X dL_law_1217 rfl ?_
      refine v_goto (tgt := 1222) X dL_law_1218 (by decide) ?_
      refine v_lcmp X dL_law_1222 ?_
      refine v_if_eq (tgt := 1228) X dL_law_1223 (by decide) (fun c_3 => ?_) (fun c_3 => absurd (show lg_cmp ((f_L_lift S (xs (nI (4 * k) + 1).toNatClampNeg) F) 0) 1 = 0 from by rw [hv, if_neg c_4]; exact lg_self _) c_3)
      refine v_goto (tgt := 1605) X dL_law_1228 (by decide) ?_
      refine v_lv [2, 3, 4, 5, 6] rfl ?_
      refine v_wd (cells' := 100 + 8 * (k + 1)) (slots' := 5000 + 48 * (k + 1)) (by show 100 + 8 * k + 1 ≤ _; omega) (by show 5000 + 48 * k + 6 ≤ _; omega) ?_
      exact hnext _ _ _ hR
set_option maxHeartbeats 1000000 in
set_option maxRecDepth 100000 in
theorem law_c18 {p : Program} {e : Env} {s : State} {m : MethodId} {below : List Frame} {meth : Method} {c : Code} {b L : Nat} {xs : Nat → Int32} (l : Launch) (hlt : l.stackTraces = false) (D : va_G) (cI cII cL : ClassId) (h g : Nat → Nat) (o : Nat) (X : v_C p s m #[Value.ref b] c code RL wsL_law 7 D vwCl (tyl cI cII cL) (fun q : Nat => s.heap.size ≤ q)) (hXW : v_XW (fun q : Nat => s.heap.size ≤ q) s) (hX : va_X b L xs s s.heap) (hbl : b < s.heap.size) (S M : St) (F : Nat → Int64) (k : Nat) (hk : 4 * k + 4 ≤ L) (hL : L ≤ 2048) (hRel : Rel k S M) (hnext : ∀ (S' M' : St) (F' : Nat → Int64), Rel (k + 1) S' M' → v_V p l e room_1 s m #[Value.ref b] below meth c D vwCl (fun q : Nat => s.heap.size ≤ q) 7 (lw_Z below #[Value.ref b] s) (100 + 8 * (k + 1)) (5000 + 48 * (k + 1)) (wA h cI cII cL g o S' M' F') 1605 [(4, .int (nI (4 * k))), (3, .ref o), (2, .ref (g 0)), (1, .ref (h 0)), (0, .ref b)] []) : v_V p l e room_1 s m #[Value.ref b] below meth c D vwCl (fun q : Nat => s.heap.size ≤ q) 7 (lw_Z below #[Value.ref b] s) (100 + 8 * k) (5000 + 48 * k) (wA h cI cII cL g o S M F) 1231 [(4, .int (nI (4 * k))), (3, .ref o), (2, .ref (g 0)), (1, .ref (h 0)), (0, .ref b)] [] := by
  have hbA : ¬ (fun q : Nat => s.heap.size ≤ q) b := Nat.not_le.mpr hbl
  obtain ⟨hth, hv, hR⟩ := sim_isBanned hRel (by omega) (xs (nI (4 * k) + 1).toNatClampNeg)
  refine v_aload_n X dL_law_1231 rfl ?_
  refine v_aload_n X dL_law_1232 rfl ?_
  refine v_iload X dL_law_1233 rfl ?_
  refine v_iconst (x := 1) X dL_law_1235 rfl ?_
  refine v_iadd X dL_law_1236 ?_
  refine v_sld X hX hbl hbA (by rw [ix_n (4 * k) 1 1 rfl]; exact vp_in_nI (by omega) (by omega)) dL_law_1237 ?_
  refine v_aload_n X dL_law_1238 rfl ?_
  refine v_callLic (As := [.ref (h 0), .int (xs (nI (4 * k) + 1).toNatClampNeg), .ref o]) (rest := []) (w' := (wA h cI cII cL g o S M (f_L_isBanned S (xs (nI (4 * k) + 1).toNatClampNeg) F))) X hXW (c_L_isBanned l D cI cII cL hlt h o S (xs (nI (4 * k) + 1).toNatClampNeg) F ) (vx_cwSW 3 X.2.2.2.1 gL_law_L_isBanned rfl rfl rfl (by decide +kernel) ⟨Nat.le_of_ble_eq_true rfl, Nat.le_of_ble_eq_true rfl⟩) aC1 aR1 aP1 (cutA1 h cI cII cL g o) rfl rfl (Nat.le_of_ble_eq_true rfl) dL_law_1239 ⟨(show _ ≤ 601024 by show 100 + 8 * k + 1 ≤ 601024; omega), (show _ ≤ 7293034 by show 5000 + 48 * k + 6 ≤ 7293034; omega)⟩ ?_
  refine v_istore (lv' := [(5, .int (k_L_isBanned S (xs (nI (4 * k) + 1).toNatClampNeg))), (4, .int (nI (4 * k))), (3, .ref o), (2, .ref (g 0)), (1, .ref (h 0)), (0, .ref b)]) X dL_law_1242 (by decide) rfl ?_
  refine v_aload_n X dL_law_1244 rfl ?_
  refine v_aload_n X dL_law_1245 rfl ?_
  refine v_iload X dL_law_1246 rfl ?_
  refine v_iconst (x := 1) X dL_law_1248 rfl ?_
  refine v_iadd X dL_law_1249 ?_
  refine v_sld X hX hbl hbA (by rw [ix_n (4 * k) 1 1 rfl]; exact vp_in_nI (by omega) (by omega)) dL_law_1250 ?_
  refine v_callVic (As := [.int (xs (nI (4 * k) + 1).toNatClampNeg)]) (rest := []) (w' := (wA h cI cII cL g o S (s_X4_isBanned M (xs (nI (4 * k) + 1).toNatClampNeg)) (f_L_isBanned S (xs (nI (4 * k) + 1).toNatClampNeg) F))) X (c_X4_isBanned l D cI cII cL g M (xs (nI (4 * k) + 1).toNatClampNeg) ) (cwV 1 X.2.2.2.1 gL_law_X4_isBanned rfl rfl rfl (by decide +kernel) ⟨Nat.le_of_ble_eq_true rfl, Nat.le_of_ble_eq_true rfl⟩) aC3 aR3 aP3 (cutA3 h cI cII cL g o) 0 4 rfl rfl wM_g0 rfl rfl (Nat.le_of_ble_eq_true rfl) dL_law_1251 ⟨(show _ ≤ 601024 by show 100 + 8 * k + 1 ≤ 601024; omega), (show _ ≤ 7293034 by show 5000 + 48 * k + 6 ≤ 7293034; omega)⟩ ?_
  refine v_istore (lv' := [(6, .int (r_X4_isBanned M (xs (nI (4 * k) + 1).toNatClampNeg))), (5, .int (k_L_isBanned S (xs (nI (4 * k) + 1).toNatClampNeg))), (4, .int (nI (4 * k))), (3, .ref o), (2, .ref (g 0)), (1, .ref (h 0)), (0, .ref b)]) X dL_law_1254 (by decide) rfl ?_
  refine v_aload_n X dL_law_1256 rfl ?_
  refine v_callVic (As := []) (rest := []) (w' := (wA h cI cII cL g o S (s_X4_isBanned M (xs (nI (4 * k) + 1).toNatClampNeg)) (f_L_isBanned S (xs (nI (4 * k) + 1).toNatClampNeg) F))) X (c_X4_thrown l D cI cII cL g (s_X4_isBanned M (xs (nI (4 * k) + 1).toNatClampNeg))) (cwV 0 X.2.2.2.1 gL_law_X4_thrown rfl rfl rfl (by decide +kernel) ⟨Nat.le_of_ble_eq_true rfl, Nat.le_of_ble_eq_true rfl⟩) aC3 aR3 aP3 (cutA3 h cI cII cL g o) 0 4 rfl rfl wM_g0 rfl rfl (Nat.le_of_ble_eq_true rfl) dL_law_1257 ⟨(show _ ≤ 601024 by show 100 + 8 * k + 1 ≤ 601024; omega), (show _ ≤ 7293034 by show 5000 + 48 * k + 6 ≤ 7293034; omega)⟩ ?_
  refine v_iload X dL_law_1260 rfl ?_
  refine v_icmp_eq (tgt := 1267) X dL_law_1262 (by decide) (fun c_1 => ?_) (fun c_1 => absurd hth c_1)
  refine v_iload X dL_law_1267 rfl ?_
  refine v_if_ne (tgt := 1291) X dL_law_1269 (by decide) (fun c_2 => ?_) (fun c_2 => ?_)
  · refine v_goto (tgt := 1605) X dL_law_1291 (by decide) ?_
    refine v_lv [2, 3, 4, 5, 6] rfl ?_
    refine v_wd (cells' := 100 + 8 * (k + 1)) (slots' := 5000 + 48 * (k + 1)) (by show 100 + 8 * k + 1 ≤ _; omega) (by show 5000 + 48 * k + 6 ≤ _; omega) ?_
    exact hnext _ _ _ hR
  · have hv := hv c_2 F
    refine v_aload_n X dL_law_1272 rfl ?_
    refine v_iconst (x := 0) X dL_law_1273 rfl ?_
    refine v_lald X 43 2 wA_go rfl (vp_in_nI (n := 0) (by decide) (by decide)) dL_law_1274 ?_
    refine v_iload X dL_law_1275 rfl ?_
    refine v_if_eq (tgt := 1284) X dL_law_1277 (by decide) (fun c_4 => ?_) (fun c_4 => ?_)
    · refine v_lconst (v := 0) X dL_law_1284 rfl ?_
      refine v_lcmp X dL_law_1285 ?_
      refine v_if_eq (tgt := 1291) X dL_law_1286 (by decide) (fun c_3 => ?_) (fun c_3 => absurd (show lg_cmp ((f_L_isBanned S (xs (nI (4 * k) + 1).toNatClampNeg) F) 0) 0 = 0 from by rw [hv, if_pos c_4]; exact lg_self _) c_3)
      refine v_goto (tgt := 1605) X dL_law_1291 (by decide) ?_
      refine v_lv [2, 3, 4, 5, 6] rfl ?_
      refine v_wd (cells' := 100 + 8 * (k + 1)) (slots' := 5000 + 48 * (k + 1)) (by show 100 + 8 * k + 1 ≤ _; omega) (by show 5000 + 48 * k + 6 ≤ _; omega) ?_
      exact hnext _ _ _ hR
    · refine v_lconst (v := 1) X dL_law_1280 rfl ?_
      refine v_goto (tgt := 1285) X dL_law_1281 (by decide) ?_
      refine v_lcmp X dL_law_1285 ?_
      refine v_if_eq (tgt := 1291) X dL_law_1286 (by decide) (fun c_3 => ?_) (fun c_3 => absurd (show lg_cmp ((f_L_isBanned S (xs (nI (4 * k) + 1).toNatClampNeg) F) 0) 1 = 0 from by rw [hv, if_neg c_4]; exact lg_self _) c_3)
      refine v_goto (tgt := 1605) X dL_law_1291 (by decide) ?_
      refine v_lv [2, 3, 4, 5, 6] rfl ?_
      refine v_wd (cells' := 100 + 8 * (k + 1)) (slots' := 5000 + 48 * (k + 1)) (by show 100 + 8 * k + 1 ≤ _; omega) (by show 5000 + 48 * k + 6 ≤ _; omega) ?_
      exact hnext _ _ _ hR
set_option maxHeartbeats 1000000 in
set_option maxRecDepth 100000 in
theorem law_c19 {p : Program} {e : Env} {s : State} {m : MethodId} {below : List Frame} {meth : Method} {c : Code} {b L : Nat} {xs : Nat → Int32} (l : Launch) (hlt : l.stackTraces = false) (D : va_G) (cI cII cL : ClassId) (h g : Nat → Nat) (o : Nat) (X : v_C p s m #[Value.ref b] c code RL wsL_law 7 D vwCl (tyl cI cII cL) (fun q : Nat => s.heap.size ≤ q)) (hXW : v_XW (fun q : Nat => s.heap.size ≤ q) s) (hX : va_X b L xs s s.heap) (hbl : b < s.heap.size) (S M : St) (F : Nat → Int64) (k : Nat) (hk : 4 * k + 4 ≤ L) (hL : L ≤ 2048) (hRel : Rel k S M) (hnext : ∀ (S' M' : St) (F' : Nat → Int64), Rel (k + 1) S' M' → v_V p l e room_1 s m #[Value.ref b] below meth c D vwCl (fun q : Nat => s.heap.size ≤ q) 7 (lw_Z below #[Value.ref b] s) (100 + 8 * (k + 1)) (5000 + 48 * (k + 1)) (wA h cI cII cL g o S' M' F') 1605 [(4, .int (nI (4 * k))), (3, .ref o), (2, .ref (g 0)), (1, .ref (h 0)), (0, .ref b)] []) : v_V p l e room_1 s m #[Value.ref b] below meth c D vwCl (fun q : Nat => s.heap.size ≤ q) 7 (lw_Z below #[Value.ref b] s) (100 + 8 * k) (5000 + 48 * k) (wA h cI cII cL g o S M F) 1294 [(4, .int (nI (4 * k))), (3, .ref o), (2, .ref (g 0)), (1, .ref (h 0)), (0, .ref b)] [] := by
  have hbA : ¬ (fun q : Nat => s.heap.size ≤ q) b := Nat.not_le.mpr hbl
  obtain ⟨hth, hv, hR⟩ := sim_pass hRel (by omega) (xs (nI (4 * k) + 1).toNatClampNeg)
  refine v_aload_n X dL_law_1294 rfl ?_
  refine v_aload_n X dL_law_1295 rfl ?_
  refine v_iload X dL_law_1296 rfl ?_
  refine v_iconst (x := 1) X dL_law_1298 rfl ?_
  refine v_iadd X dL_law_1299 ?_
  refine v_sld X hX hbl hbA (by rw [ix_n (4 * k) 1 1 rfl]; exact vp_in_nI (by omega) (by omega)) dL_law_1300 ?_
  refine v_aload_n X dL_law_1301 rfl ?_
  refine v_callLic (As := [.ref (h 0), .int (xs (nI (4 * k) + 1).toNatClampNeg), .ref o]) (rest := []) (w' := (wA h cI cII cL g o (s_L_pass S (xs (nI (4 * k) + 1).toNatClampNeg)) M (f_L_pass S (xs (nI (4 * k) + 1).toNatClampNeg) F))) X hXW (c_L_pass l D cI cII cL hlt h o S (xs (nI (4 * k) + 1).toNatClampNeg) F hRel.hcnt) (vx_cwSW 3 X.2.2.2.1 gL_law_L_pass rfl rfl rfl (by decide +kernel) ⟨Nat.le_of_ble_eq_true rfl, Nat.le_of_ble_eq_true rfl⟩) aC1 aR1 aP1 (cutA1 h cI cII cL g o) rfl rfl (Nat.le_of_ble_eq_true rfl) dL_law_1302 ⟨(show _ ≤ 601024 by show 100 + 8 * k + 1 ≤ 601024; omega), (show _ ≤ 7293034 by show 5000 + 48 * k + 6 ≤ 7293034; omega)⟩ ?_
  refine v_istore (lv' := [(5, .int (k_L_pass S (xs (nI (4 * k) + 1).toNatClampNeg))), (4, .int (nI (4 * k))), (3, .ref o), (2, .ref (g 0)), (1, .ref (h 0)), (0, .ref b)]) X dL_law_1305 (by decide) rfl ?_
  refine v_aload_n X dL_law_1307 rfl ?_
  refine v_aload_n X dL_law_1308 rfl ?_
  refine v_iload X dL_law_1309 rfl ?_
  refine v_iconst (x := 1) X dL_law_1311 rfl ?_
  refine v_iadd X dL_law_1312 ?_
  refine v_sld X hX hbl hbA (by rw [ix_n (4 * k) 1 1 rfl]; exact vp_in_nI (by omega) (by omega)) dL_law_1313 ?_
  refine v_callVic (As := [.int (xs (nI (4 * k) + 1).toNatClampNeg)]) (rest := []) (w' := (wA h cI cII cL g o (s_L_pass S (xs (nI (4 * k) + 1).toNatClampNeg)) (s_X4_pass M (xs (nI (4 * k) + 1).toNatClampNeg)) (f_L_pass S (xs (nI (4 * k) + 1).toNatClampNeg) F))) X (c_X4_pass l D cI cII cL g M (xs (nI (4 * k) + 1).toNatClampNeg) hRel.hmc) (cwV 1 X.2.2.2.1 gL_law_X4_pass rfl rfl rfl (by decide +kernel) ⟨Nat.le_of_ble_eq_true rfl, Nat.le_of_ble_eq_true rfl⟩) aC3 aR3 aP3 (cutA3 h cI cII cL g o) 0 4 rfl rfl wM_g0 rfl rfl (Nat.le_of_ble_eq_true rfl) dL_law_1314 ⟨(show _ ≤ 601024 by show 100 + 8 * k + 1 ≤ 601024; omega), (show _ ≤ 7293034 by show 5000 + 48 * k + 6 ≤ 7293034; omega)⟩ ?_
  refine v_istore (lv' := [(6, .int (r_X4_pass M (xs (nI (4 * k) + 1).toNatClampNeg))), (5, .int (k_L_pass S (xs (nI (4 * k) + 1).toNatClampNeg))), (4, .int (nI (4 * k))), (3, .ref o), (2, .ref (g 0)), (1, .ref (h 0)), (0, .ref b)]) X dL_law_1317 (by decide) rfl ?_
  refine v_aload_n X dL_law_1319 rfl ?_
  refine v_callVic (As := []) (rest := []) (w' := (wA h cI cII cL g o (s_L_pass S (xs (nI (4 * k) + 1).toNatClampNeg)) (s_X4_pass M (xs (nI (4 * k) + 1).toNatClampNeg)) (f_L_pass S (xs (nI (4 * k) + 1).toNatClampNeg) F))) X (c_X4_thrown l D cI cII cL g (s_X4_pass M (xs (nI (4 * k) + 1).toNatClampNeg))) (cwV 0 X.2.2.2.1 gL_law_X4_thrown rfl rfl rfl (by decide +kernel) ⟨Nat.le_of_ble_eq_true rfl, Nat.le_of_ble_eq_true rfl⟩) aC3 aR3 aP3 (cutA3 h cI cII cL g o) 0 4 rfl rfl wM_g0 rfl rfl (Nat.le_of_ble_eq_true rfl) dL_law_1320 ⟨(show _ ≤ 601024 by show 100 + 8 * k + 1 ≤ 601024; omega), (show _ ≤ 7293034 by show 5000 + 48 * k + 6 ≤ 7293034; omega)⟩ ?_
  refine v_iload X dL_law_1323 rfl ?_
  refine v_icmp_eq (tgt := 1330) X dL_law_1325 (by decide) (fun c_1 => ?_) (fun c_1 => absurd hth c_1)
  refine v_iload X dL_law_1330 rfl ?_
  refine v_if_ne (tgt := 1347) X dL_law_1332 (by decide) (fun c_2 => ?_) (fun c_2 => ?_)
  · refine v_goto (tgt := 1605) X dL_law_1347 (by decide) ?_
    refine v_lv [2, 3, 4, 5, 6] rfl ?_
    refine v_wd (cells' := 100 + 8 * (k + 1)) (slots' := 5000 + 48 * (k + 1)) (by show 100 + 8 * k + 1 ≤ _; omega) (by show 5000 + 48 * k + 6 ≤ _; omega) ?_
    exact hnext _ _ _ hR
  · have hv := hv c_2 F
    refine v_aload_n X dL_law_1335 rfl ?_
    refine v_iconst (x := 0) X dL_law_1336 rfl ?_
    refine v_lald X 43 2 wA_go rfl (vp_in_nI (n := 0) (by decide) (by decide)) dL_law_1337 ?_
    refine v_iload X dL_law_1338 rfl ?_
    refine v_i2l X dL_law_1340 ?_
    refine v_lcmp X dL_law_1341 ?_
    refine v_if_eq (tgt := 1347) X dL_law_1342 (by decide) (fun c_3 => ?_) (fun c_3 => absurd (show lg_cmp ((f_L_pass S (xs (nI (4 * k) + 1).toNatClampNeg) F) 0) (r_X4_pass M (xs (nI (4 * k) + 1).toNatClampNeg)).toInt64 = 0 from by rw [hv]; exact lg_self _) c_3)
    refine v_goto (tgt := 1605) X dL_law_1347 (by decide) ?_
    refine v_lv [2, 3, 4, 5, 6] rfl ?_
    refine v_wd (cells' := 100 + 8 * (k + 1)) (slots' := 5000 + 48 * (k + 1)) (by show 100 + 8 * k + 1 ≤ _; omega) (by show 5000 + 48 * k + 6 ≤ _; omega) ?_
    exact hnext _ _ _ hR
set_option maxHeartbeats 1000000 in
set_option maxRecDepth 100000 in
theorem law_c20 {p : Program} {e : Env} {s : State} {m : MethodId} {below : List Frame} {meth : Method} {c : Code} {b L : Nat} {xs : Nat → Int32} (l : Launch) (hlt : l.stackTraces = false) (D : va_G) (cI cII cL : ClassId) (h g : Nat → Nat) (o : Nat) (X : v_C p s m #[Value.ref b] c code RL wsL_law 7 D vwCl (tyl cI cII cL) (fun q : Nat => s.heap.size ≤ q)) (hXW : v_XW (fun q : Nat => s.heap.size ≤ q) s) (hX : va_X b L xs s s.heap) (hbl : b < s.heap.size) (S M : St) (F : Nat → Int64) (k : Nat) (hk : 4 * k + 4 ≤ L) (hL : L ≤ 2048) (hRel : Rel k S M) (hnext : ∀ (S' M' : St) (F' : Nat → Int64), Rel (k + 1) S' M' → v_V p l e room_1 s m #[Value.ref b] below meth c D vwCl (fun q : Nat => s.heap.size ≤ q) 7 (lw_Z below #[Value.ref b] s) (100 + 8 * (k + 1)) (5000 + 48 * (k + 1)) (wA h cI cII cL g o S' M' F') 1605 [(4, .int (nI (4 * k))), (3, .ref o), (2, .ref (g 0)), (1, .ref (h 0)), (0, .ref b)] []) : v_V p l e room_1 s m #[Value.ref b] below meth c D vwCl (fun q : Nat => s.heap.size ≤ q) 7 (lw_Z below #[Value.ref b] s) (100 + 8 * k) (5000 + 48 * k) (wA h cI cII cL g o S M F) 1350 [(4, .int (nI (4 * k))), (3, .ref o), (2, .ref (g 0)), (1, .ref (h 0)), (0, .ref b)] [] := by
  have hbA : ¬ (fun q : Nat => s.heap.size ≤ q) b := Nat.not_le.mpr hbl
  obtain ⟨hth, hv, hR⟩ := sim_toggleDeck hRel (by omega) (xs (nI (4 * k) + 1).toNatClampNeg) (xs (nI (4 * k) + 2).toNatClampNeg)
  refine v_aload_n X dL_law_1350 rfl ?_
  refine v_aload_n X dL_law_1351 rfl ?_
  refine v_iload X dL_law_1352 rfl ?_
  refine v_iconst (x := 1) X dL_law_1354 rfl ?_
  refine v_iadd X dL_law_1355 ?_
  refine v_sld X hX hbl hbA (by rw [ix_n (4 * k) 1 1 rfl]; exact vp_in_nI (by omega) (by omega)) dL_law_1356 ?_
  refine v_aload_n X dL_law_1357 rfl ?_
  refine v_iload X dL_law_1358 rfl ?_
  refine v_iconst (x := 2) X dL_law_1360 rfl ?_
  refine v_iadd X dL_law_1361 ?_
  refine v_sld X hX hbl hbA (by rw [ix_n (4 * k) 2 2 rfl]; exact vp_in_nI (by omega) (by omega)) dL_law_1362 ?_
  refine v_aload_n X dL_law_1363 rfl ?_
  refine v_callLic (As := [.ref (h 0), .int (xs (nI (4 * k) + 1).toNatClampNeg), .int (xs (nI (4 * k) + 2).toNatClampNeg), .ref o]) (rest := []) (w' := (wA h cI cII cL g o (s_L_toggleDeck S (xs (nI (4 * k) + 1).toNatClampNeg) (xs (nI (4 * k) + 2).toNatClampNeg)) M (f_L_toggleDeck S (xs (nI (4 * k) + 1).toNatClampNeg) (xs (nI (4 * k) + 2).toNatClampNeg) F))) X hXW (c_L_toggleDeck l D cI cII cL hlt h o S (xs (nI (4 * k) + 1).toNatClampNeg) (xs (nI (4 * k) + 2).toNatClampNeg) F hRel.hcnt) (vx_cwSW 4 X.2.2.2.1 gL_law_L_toggleDeck rfl rfl rfl (by decide +kernel) ⟨Nat.le_of_ble_eq_true rfl, Nat.le_of_ble_eq_true rfl⟩) aC1 aR1 aP1 (cutA1 h cI cII cL g o) rfl rfl (Nat.le_of_ble_eq_true rfl) dL_law_1364 ⟨(show _ ≤ 601024 by show 100 + 8 * k + 2 ≤ 601024; omega), (show _ ≤ 7293034 by show 5000 + 48 * k + 12 ≤ 7293034; omega)⟩ ?_
  refine v_istore (lv' := [(5, .int (k_L_toggleDeck S (xs (nI (4 * k) + 1).toNatClampNeg) (xs (nI (4 * k) + 2).toNatClampNeg))), (4, .int (nI (4 * k))), (3, .ref o), (2, .ref (g 0)), (1, .ref (h 0)), (0, .ref b)]) X dL_law_1367 (by decide) rfl ?_
  refine v_aload_n X dL_law_1369 rfl ?_
  refine v_aload_n X dL_law_1370 rfl ?_
  refine v_iload X dL_law_1371 rfl ?_
  refine v_iconst (x := 1) X dL_law_1373 rfl ?_
  refine v_iadd X dL_law_1374 ?_
  refine v_sld X hX hbl hbA (by rw [ix_n (4 * k) 1 1 rfl]; exact vp_in_nI (by omega) (by omega)) dL_law_1375 ?_
  refine v_aload_n X dL_law_1376 rfl ?_
  refine v_iload X dL_law_1377 rfl ?_
  refine v_iconst (x := 2) X dL_law_1379 rfl ?_
  refine v_iadd X dL_law_1380 ?_
  refine v_sld X hX hbl hbA (by rw [ix_n (4 * k) 2 2 rfl]; exact vp_in_nI (by omega) (by omega)) dL_law_1381 ?_
  refine v_callVic (As := [.int (xs (nI (4 * k) + 1).toNatClampNeg), .int (xs (nI (4 * k) + 2).toNatClampNeg)]) (rest := []) (w' := (wA h cI cII cL g o (s_L_toggleDeck S (xs (nI (4 * k) + 1).toNatClampNeg) (xs (nI (4 * k) + 2).toNatClampNeg)) (s_X4_toggleDeck M (xs (nI (4 * k) + 1).toNatClampNeg) (xs (nI (4 * k) + 2).toNatClampNeg)) (f_L_toggleDeck S (xs (nI (4 * k) + 1).toNatClampNeg) (xs (nI (4 * k) + 2).toNatClampNeg) F))) X (c_X4_toggleDeck l D cI cII cL g M (xs (nI (4 * k) + 1).toNatClampNeg) (xs (nI (4 * k) + 2).toNatClampNeg) hRel.hmc) (cwV 2 X.2.2.2.1 gL_law_X4_toggleDeck rfl rfl rfl (by decide +kernel) ⟨Nat.le_of_ble_eq_true rfl, Nat.le_of_ble_eq_true rfl⟩) aC3 aR3 aP3 (cutA3 h cI cII cL g o) 0 4 rfl rfl wM_g0 rfl rfl (Nat.le_of_ble_eq_true rfl) dL_law_1382 ⟨(show _ ≤ 601024 by show 100 + 8 * k + 2 ≤ 601024; omega), (show _ ≤ 7293034 by show 5000 + 48 * k + 12 ≤ 7293034; omega)⟩ ?_
  refine v_istore (lv' := [(6, .int (r_X4_toggleDeck M (xs (nI (4 * k) + 1).toNatClampNeg) (xs (nI (4 * k) + 2).toNatClampNeg))), (5, .int (k_L_toggleDeck S (xs (nI (4 * k) + 1).toNatClampNeg) (xs (nI (4 * k) + 2).toNatClampNeg))), (4, .int (nI (4 * k))), (3, .ref o), (2, .ref (g 0)), (1, .ref (h 0)), (0, .ref b)]) X dL_law_1385 (by decide) rfl ?_
  refine v_aload_n X dL_law_1387 rfl ?_
  refine v_callVic (As := []) (rest := []) (w' := (wA h cI cII cL g o (s_L_toggleDeck S (xs (nI (4 * k) + 1).toNatClampNeg) (xs (nI (4 * k) + 2).toNatClampNeg)) (s_X4_toggleDeck M (xs (nI (4 * k) + 1).toNatClampNeg) (xs (nI (4 * k) + 2).toNatClampNeg)) (f_L_toggleDeck S (xs (nI (4 * k) + 1).toNatClampNeg) (xs (nI (4 * k) + 2).toNatClampNeg) F))) X (c_X4_thrown l D cI cII cL g (s_X4_toggleDeck M (xs (nI (4 * k) + 1).toNatClampNeg) (xs (nI (4 * k) + 2).toNatClampNeg))) (cwV 0 X.2.2.2.1 gL_law_X4_thrown rfl rfl rfl (by decide +kernel) ⟨Nat.le_of_ble_eq_true rfl, Nat.le_of_ble_eq_true rfl⟩) aC3 aR3 aP3 (cutA3 h cI cII cL g o) 0 4 rfl rfl wM_g0 rfl rfl (Nat.le_of_ble_eq_true rfl) dL_law_1388 ⟨(show _ ≤ 601024 by show 100 + 8 * k + 2 ≤ 601024; omega), (show _ ≤ 7293034 by show 5000 + 48 * k + 12 ≤ 7293034; omega)⟩ ?_
  refine v_iload X dL_law_1391 rfl ?_
  refine v_icmp_eq (tgt := 1398) X dL_law_1393 (by decide) (fun c_1 => ?_) (fun c_1 => absurd hth c_1)
  refine v_iload X dL_law_1398 rfl ?_
  refine v_if_ne (tgt := 1415) X dL_law_1400 (by decide) (fun c_2 => ?_) (fun c_2 => ?_)
  · refine v_goto (tgt := 1605) X dL_law_1415 (by decide) ?_
    refine v_lv [2, 3, 4, 5, 6] rfl ?_
    refine v_wd (cells' := 100 + 8 * (k + 1)) (slots' := 5000 + 48 * (k + 1)) (by show 100 + 8 * k + 2 ≤ _; omega) (by show 5000 + 48 * k + 12 ≤ _; omega) ?_
    exact hnext _ _ _ hR
  · have hv := hv c_2 F
    refine v_aload_n X dL_law_1403 rfl ?_
    refine v_iconst (x := 0) X dL_law_1404 rfl ?_
    refine v_lald X 43 2 wA_go rfl (vp_in_nI (n := 0) (by decide) (by decide)) dL_law_1405 ?_
    refine v_iload X dL_law_1406 rfl ?_
    refine v_i2l X dL_law_1408 ?_
    refine v_lcmp X dL_law_1409 ?_
    refine v_if_eq (tgt := 1415) X dL_law_1410 (by decide) (fun c_3 => ?_) (fun c_3 => absurd (show lg_cmp ((f_L_toggleDeck S (xs (nI (4 * k) + 1).toNatClampNeg) (xs (nI (4 * k) + 2).toNatClampNeg) F) 0) (r_X4_toggleDeck M (xs (nI (4 * k) + 1).toNatClampNeg) (xs (nI (4 * k) + 2).toNatClampNeg)).toInt64 = 0 from by rw [hv]; exact lg_self _) c_3)
    refine v_goto (tgt := 1605) X dL_law_1415 (by decide) ?_
    refine v_lv [2, 3, 4, 5, 6] rfl ?_
    refine v_wd (cells' := 100 + 8 * (k + 1)) (slots' := 5000 + 48 * (k + 1)) (by show 100 + 8 * k + 2 ≤ _; omega) (by show 5000 + 48 * k + 12 ≤ _; omega) ?_
    exact hnext _ _ _ hR
set_option maxHeartbeats 1000000 in
set_option maxRecDepth 100000 in
theorem law_c21 {p : Program} {e : Env} {s : State} {m : MethodId} {below : List Frame} {meth : Method} {c : Code} {b L : Nat} {xs : Nat → Int32} (l : Launch) (hlt : l.stackTraces = false) (D : va_G) (cI cII cL : ClassId) (h g : Nat → Nat) (o : Nat) (X : v_C p s m #[Value.ref b] c code RL wsL_law 7 D vwCl (tyl cI cII cL) (fun q : Nat => s.heap.size ≤ q)) (hXW : v_XW (fun q : Nat => s.heap.size ≤ q) s) (hX : va_X b L xs s s.heap) (hbl : b < s.heap.size) (S M : St) (F : Nat → Int64) (k : Nat) (hk : 4 * k + 4 ≤ L) (hL : L ≤ 2048) (hRel : Rel k S M) (hnext : ∀ (S' M' : St) (F' : Nat → Int64), Rel (k + 1) S' M' → v_V p l e room_1 s m #[Value.ref b] below meth c D vwCl (fun q : Nat => s.heap.size ≤ q) 7 (lw_Z below #[Value.ref b] s) (100 + 8 * (k + 1)) (5000 + 48 * (k + 1)) (wA h cI cII cL g o S' M' F') 1605 [(4, .int (nI (4 * k))), (3, .ref o), (2, .ref (g 0)), (1, .ref (h 0)), (0, .ref b)] []) : v_V p l e room_1 s m #[Value.ref b] below meth c D vwCl (fun q : Nat => s.heap.size ≤ q) 7 (lw_Z below #[Value.ref b] s) (100 + 8 * k) (5000 + 48 * k) (wA h cI cII cL g o S M F) 1418 [(4, .int (nI (4 * k))), (3, .ref o), (2, .ref (g 0)), (1, .ref (h 0)), (0, .ref b)] [] := by
  have hbA : ¬ (fun q : Nat => s.heap.size ≤ q) b := Nat.not_le.mpr hbl
  obtain ⟨hth, hv, hR⟩ := sim_isRight hRel (by omega) (xs (nI (4 * k) + 1).toNatClampNeg)
  refine v_aload_n X dL_law_1418 rfl ?_
  refine v_aload_n X dL_law_1419 rfl ?_
  refine v_iload X dL_law_1420 rfl ?_
  refine v_iconst (x := 1) X dL_law_1422 rfl ?_
  refine v_iadd X dL_law_1423 ?_
  refine v_sld X hX hbl hbA (by rw [ix_n (4 * k) 1 1 rfl]; exact vp_in_nI (by omega) (by omega)) dL_law_1424 ?_
  refine v_aload_n X dL_law_1425 rfl ?_
  refine v_callLic (As := [.ref (h 0), .int (xs (nI (4 * k) + 1).toNatClampNeg), .ref o]) (rest := []) (w' := (wA h cI cII cL g o S M (f_L_isRight S (xs (nI (4 * k) + 1).toNatClampNeg) F))) X hXW (c_L_isRight l D cI cII cL hlt h o S (xs (nI (4 * k) + 1).toNatClampNeg) F hRel.hcnt hRel.hkin) (vx_cwSW 3 X.2.2.2.1 gL_law_L_isRight rfl rfl rfl (by decide +kernel) ⟨Nat.le_of_ble_eq_true rfl, Nat.le_of_ble_eq_true rfl⟩) aC1 aR1 aP1 (cutA1 h cI cII cL g o) rfl rfl (Nat.le_of_ble_eq_true rfl) dL_law_1426 ⟨(show _ ≤ 601024 by show 100 + 8 * k + 1 ≤ 601024; omega), (show _ ≤ 7293034 by show 5000 + 48 * k + 6 ≤ 7293034; omega)⟩ ?_
  refine v_istore (lv' := [(5, .int (k_L_isRight S (xs (nI (4 * k) + 1).toNatClampNeg))), (4, .int (nI (4 * k))), (3, .ref o), (2, .ref (g 0)), (1, .ref (h 0)), (0, .ref b)]) X dL_law_1429 (by decide) rfl ?_
  refine v_aload_n X dL_law_1431 rfl ?_
  refine v_aload_n X dL_law_1432 rfl ?_
  refine v_iload X dL_law_1433 rfl ?_
  refine v_iconst (x := 1) X dL_law_1435 rfl ?_
  refine v_iadd X dL_law_1436 ?_
  refine v_sld X hX hbl hbA (by rw [ix_n (4 * k) 1 1 rfl]; exact vp_in_nI (by omega) (by omega)) dL_law_1437 ?_
  refine v_callVic (As := [.int (xs (nI (4 * k) + 1).toNatClampNeg)]) (rest := []) (w' := (wA h cI cII cL g o S (s_X4_isRight M (xs (nI (4 * k) + 1).toNatClampNeg)) (f_L_isRight S (xs (nI (4 * k) + 1).toNatClampNeg) F))) X (c_X4_isRight l D cI cII cL g M (xs (nI (4 * k) + 1).toNatClampNeg) hRel.hmc hRel.hmkin) (cwV 1 X.2.2.2.1 gL_law_X4_isRight rfl rfl rfl (by decide +kernel) ⟨Nat.le_of_ble_eq_true rfl, Nat.le_of_ble_eq_true rfl⟩) aC3 aR3 aP3 (cutA3 h cI cII cL g o) 0 4 rfl rfl wM_g0 rfl rfl (Nat.le_of_ble_eq_true rfl) dL_law_1438 ⟨(show _ ≤ 601024 by show 100 + 8 * k + 1 ≤ 601024; omega), (show _ ≤ 7293034 by show 5000 + 48 * k + 6 ≤ 7293034; omega)⟩ ?_
  refine v_istore (lv' := [(6, .int (r_X4_isRight M (xs (nI (4 * k) + 1).toNatClampNeg))), (5, .int (k_L_isRight S (xs (nI (4 * k) + 1).toNatClampNeg))), (4, .int (nI (4 * k))), (3, .ref o), (2, .ref (g 0)), (1, .ref (h 0)), (0, .ref b)]) X dL_law_1441 (by decide) rfl ?_
  refine v_aload_n X dL_law_1443 rfl ?_
  refine v_callVic (As := []) (rest := []) (w' := (wA h cI cII cL g o S (s_X4_isRight M (xs (nI (4 * k) + 1).toNatClampNeg)) (f_L_isRight S (xs (nI (4 * k) + 1).toNatClampNeg) F))) X (c_X4_thrown l D cI cII cL g (s_X4_isRight M (xs (nI (4 * k) + 1).toNatClampNeg))) (cwV 0 X.2.2.2.1 gL_law_X4_thrown rfl rfl rfl (by decide +kernel) ⟨Nat.le_of_ble_eq_true rfl, Nat.le_of_ble_eq_true rfl⟩) aC3 aR3 aP3 (cutA3 h cI cII cL g o) 0 4 rfl rfl wM_g0 rfl rfl (Nat.le_of_ble_eq_true rfl) dL_law_1444 ⟨(show _ ≤ 601024 by show 100 + 8 * k + 1 ≤ 601024; omega), (show _ ≤ 7293034 by show 5000 + 48 * k + 6 ≤ 7293034; omega)⟩ ?_
  refine v_iload X dL_law_1447 rfl ?_
  refine v_icmp_eq (tgt := 1454) X dL_law_1449 (by decide) (fun c_1 => ?_) (fun c_1 => absurd hth c_1)
  refine v_iload X dL_law_1454 rfl ?_
  refine v_if_ne (tgt := 1478) X dL_law_1456 (by decide) (fun c_2 => ?_) (fun c_2 => ?_)
  · refine v_goto (tgt := 1605) X dL_law_1478 (by decide) ?_
    refine v_lv [2, 3, 4, 5, 6] rfl ?_
    refine v_wd (cells' := 100 + 8 * (k + 1)) (slots' := 5000 + 48 * (k + 1)) (by show 100 + 8 * k + 1 ≤ _; omega) (by show 5000 + 48 * k + 6 ≤ _; omega) ?_
    exact hnext _ _ _ hR
  · have hv := hv c_2 F
    refine v_aload_n X dL_law_1459 rfl ?_
    refine v_iconst (x := 0) X dL_law_1460 rfl ?_
    refine v_lald X 43 2 wA_go rfl (vp_in_nI (n := 0) (by decide) (by decide)) dL_law_1461 ?_
    refine v_iload X dL_law_1462 rfl ?_
    refine v_if_eq (tgt := 1471) X dL_law_1464 (by decide) (fun c_4 => ?_) (fun c_4 => ?_)
    · refine v_lconst (v := 0) X dL_law_1471 rfl ?_
      refine v_lcmp X dL_law_1472 ?_
      refine v_if_eq (tgt := 1478) X dL_law_1473 (by decide) (fun c_3 => ?_) (fun c_3 => absurd (show lg_cmp ((f_L_isRight S (xs (nI (4 * k) + 1).toNatClampNeg) F) 0) 0 = 0 from by rw [hv, if_pos c_4]; exact lg_self _) c_3)
      refine v_goto (tgt := 1605) X dL_law_1478 (by decide) ?_
      refine v_lv [2, 3, 4, 5, 6] rfl ?_
      refine v_wd (cells' := 100 + 8 * (k + 1)) (slots' := 5000 + 48 * (k + 1)) (by show 100 + 8 * k + 1 ≤ _; omega) (by show 5000 + 48 * k + 6 ≤ _; omega) ?_
      exact hnext _ _ _ hR
    · refine v_lconst (v := 1) X dL_law_1467 rfl ?_
      refine v_goto (tgt := 1472) X dL_law_1468 (by decide) ?_
      refine v_lcmp X dL_law_1472 ?_
      refine v_if_eq (tgt := 1478) X dL_law_1473 (by decide) (fun c_3 => ?_) (fun c_3 => absurd (show lg_cmp ((f_L_isRight S (xs (nI (4 * k) + 1).toNatClampNeg) F) 0) 1 = 0 from by rw [hv, if_neg c_4]; exact lg_self _) c_3)
      refine v_goto (tgt := 1605) X dL_law_1478 (by decide) ?_
      refine v_lv [2, 3, 4, 5, 6] rfl ?_
      refine v_wd (cells' := 100 + 8 * (k + 1)) (slots' := 5000 + 48 * (k + 1)) (by show 100 + 8 * k + 1 ≤ _; omega) (by show 5000 + 48 * k + 6 ≤ _; omega) ?_
      exact hnext _ _ _ hR
set_option maxHeartbeats 1000000 in
set_option maxRecDepth 100000 in
theorem law_c22 {p : Program} {e : Env} {s : State} {m : MethodId} {below : List Frame} {meth : Method} {c : Code} {b L : Nat} {xs : Nat → Int32} (l : Launch) (hlt : l.stackTraces = false) (D : va_G) (cI cII cL : ClassId) (h g : Nat → Nat) (o : Nat) (X : v_C p s m #[Value.ref b] c code RL wsL_law 7 D vwCl (tyl cI cII cL) (fun q : Nat => s.heap.size ≤ q)) (hXW : v_XW (fun q : Nat => s.heap.size ≤ q) s) (hX : va_X b L xs s s.heap) (hbl : b < s.heap.size) (S M : St) (F : Nat → Int64) (k : Nat) (hk : 4 * k + 4 ≤ L) (hL : L ≤ 2048) (hRel : Rel k S M) (hnext : ∀ (S' M' : St) (F' : Nat → Int64), Rel (k + 1) S' M' → v_V p l e room_1 s m #[Value.ref b] below meth c D vwCl (fun q : Nat => s.heap.size ≤ q) 7 (lw_Z below #[Value.ref b] s) (100 + 8 * (k + 1)) (5000 + 48 * (k + 1)) (wA h cI cII cL g o S' M' F') 1605 [(4, .int (nI (4 * k))), (3, .ref o), (2, .ref (g 0)), (1, .ref (h 0)), (0, .ref b)] []) : v_V p l e room_1 s m #[Value.ref b] below meth c D vwCl (fun q : Nat => s.heap.size ≤ q) 7 (lw_Z below #[Value.ref b] s) (100 + 8 * k) (5000 + 48 * k) (wA h cI cII cL g o S M F) 1481 [(4, .int (nI (4 * k))), (3, .ref o), (2, .ref (g 0)), (1, .ref (h 0)), (0, .ref b)] [] := by
  have hbA : ¬ (fun q : Nat => s.heap.size ≤ q) b := Nat.not_le.mpr hbl
  obtain ⟨hth, hv, hR⟩ := sim_strength hRel (by omega) (xs (nI (4 * k) + 1).toNatClampNeg)
  refine v_aload_n X dL_law_1481 rfl ?_
  refine v_aload_n X dL_law_1482 rfl ?_
  refine v_iload X dL_law_1483 rfl ?_
  refine v_iconst (x := 1) X dL_law_1485 rfl ?_
  refine v_iadd X dL_law_1486 ?_
  refine v_sld X hX hbl hbA (by rw [ix_n (4 * k) 1 1 rfl]; exact vp_in_nI (by omega) (by omega)) dL_law_1487 ?_
  refine v_aload_n X dL_law_1488 rfl ?_
  refine v_callLic (As := [.ref (h 0), .int (xs (nI (4 * k) + 1).toNatClampNeg), .ref o]) (rest := []) (w' := (wA h cI cII cL g o S M (f_L_strength S (xs (nI (4 * k) + 1).toNatClampNeg) F))) X hXW (c_L_strength l D cI cII cL hlt h o S (xs (nI (4 * k) + 1).toNatClampNeg) F hRel.hcnt) (vx_cwSW 3 X.2.2.2.1 gL_law_L_strength rfl rfl rfl (by decide +kernel) ⟨Nat.le_of_ble_eq_true rfl, Nat.le_of_ble_eq_true rfl⟩) aC1 aR1 aP1 (cutA1 h cI cII cL g o) rfl rfl (Nat.le_of_ble_eq_true rfl) dL_law_1489 ⟨(show _ ≤ 601024 by show 100 + 8 * k + 1 ≤ 601024; omega), (show _ ≤ 7293034 by show 5000 + 48 * k + 6 ≤ 7293034; omega)⟩ ?_
  refine v_istore (lv' := [(5, .int (k_L_strength S (xs (nI (4 * k) + 1).toNatClampNeg))), (4, .int (nI (4 * k))), (3, .ref o), (2, .ref (g 0)), (1, .ref (h 0)), (0, .ref b)]) X dL_law_1492 (by decide) rfl ?_
  refine v_aload_n X dL_law_1494 rfl ?_
  refine v_aload_n X dL_law_1495 rfl ?_
  refine v_iload X dL_law_1496 rfl ?_
  refine v_iconst (x := 1) X dL_law_1498 rfl ?_
  refine v_iadd X dL_law_1499 ?_
  refine v_sld X hX hbl hbA (by rw [ix_n (4 * k) 1 1 rfl]; exact vp_in_nI (by omega) (by omega)) dL_law_1500 ?_
  refine v_callVic (As := [.int (xs (nI (4 * k) + 1).toNatClampNeg)]) (rest := []) (w' := (wA h cI cII cL g o S (s_X4_strength M (xs (nI (4 * k) + 1).toNatClampNeg)) (f_L_strength S (xs (nI (4 * k) + 1).toNatClampNeg) F))) X (c_X4_strength l D cI cII cL g M (xs (nI (4 * k) + 1).toNatClampNeg) hRel.hmc) (cwV 1 X.2.2.2.1 gL_law_X4_strength rfl rfl rfl (by decide +kernel) ⟨Nat.le_of_ble_eq_true rfl, Nat.le_of_ble_eq_true rfl⟩) aC3 aR3 aP3 (cutA3 h cI cII cL g o) 0 4 rfl rfl wM_g0 rfl rfl (Nat.le_of_ble_eq_true rfl) dL_law_1501 ⟨(show _ ≤ 601024 by show 100 + 8 * k + 1 ≤ 601024; omega), (show _ ≤ 7293034 by show 5000 + 48 * k + 6 ≤ 7293034; omega)⟩ ?_
  refine v_istore (lv' := [(6, .int (r_X4_strength M (xs (nI (4 * k) + 1).toNatClampNeg))), (5, .int (k_L_strength S (xs (nI (4 * k) + 1).toNatClampNeg))), (4, .int (nI (4 * k))), (3, .ref o), (2, .ref (g 0)), (1, .ref (h 0)), (0, .ref b)]) X dL_law_1504 (by decide) rfl ?_
  refine v_aload_n X dL_law_1506 rfl ?_
  refine v_callVic (As := []) (rest := []) (w' := (wA h cI cII cL g o S (s_X4_strength M (xs (nI (4 * k) + 1).toNatClampNeg)) (f_L_strength S (xs (nI (4 * k) + 1).toNatClampNeg) F))) X (c_X4_thrown l D cI cII cL g (s_X4_strength M (xs (nI (4 * k) + 1).toNatClampNeg))) (cwV 0 X.2.2.2.1 gL_law_X4_thrown rfl rfl rfl (by decide +kernel) ⟨Nat.le_of_ble_eq_true rfl, Nat.le_of_ble_eq_true rfl⟩) aC3 aR3 aP3 (cutA3 h cI cII cL g o) 0 4 rfl rfl wM_g0 rfl rfl (Nat.le_of_ble_eq_true rfl) dL_law_1507 ⟨(show _ ≤ 601024 by show 100 + 8 * k + 1 ≤ 601024; omega), (show _ ≤ 7293034 by show 5000 + 48 * k + 6 ≤ 7293034; omega)⟩ ?_
  refine v_iload X dL_law_1510 rfl ?_
  refine v_icmp_eq (tgt := 1517) X dL_law_1512 (by decide) (fun c_1 => ?_) (fun c_1 => absurd hth c_1)
  refine v_iload X dL_law_1517 rfl ?_
  refine v_if_ne (tgt := 1534) X dL_law_1519 (by decide) (fun c_2 => ?_) (fun c_2 => ?_)
  · refine v_goto (tgt := 1605) X dL_law_1534 (by decide) ?_
    refine v_lv [2, 3, 4, 5, 6] rfl ?_
    refine v_wd (cells' := 100 + 8 * (k + 1)) (slots' := 5000 + 48 * (k + 1)) (by show 100 + 8 * k + 1 ≤ _; omega) (by show 5000 + 48 * k + 6 ≤ _; omega) ?_
    exact hnext _ _ _ hR
  · have hv := hv c_2 F
    refine v_aload_n X dL_law_1522 rfl ?_
    refine v_iconst (x := 0) X dL_law_1523 rfl ?_
    refine v_lald X 43 2 wA_go rfl (vp_in_nI (n := 0) (by decide) (by decide)) dL_law_1524 ?_
    refine v_iload X dL_law_1525 rfl ?_
    refine v_i2l X dL_law_1527 ?_
    refine v_lcmp X dL_law_1528 ?_
    refine v_if_eq (tgt := 1534) X dL_law_1529 (by decide) (fun c_3 => ?_) (fun c_3 => absurd (show lg_cmp ((f_L_strength S (xs (nI (4 * k) + 1).toNatClampNeg) F) 0) (r_X4_strength M (xs (nI (4 * k) + 1).toNatClampNeg)).toInt64 = 0 from by rw [hv]; exact lg_self _) c_3)
    refine v_goto (tgt := 1605) X dL_law_1534 (by decide) ?_
    refine v_lv [2, 3, 4, 5, 6] rfl ?_
    refine v_wd (cells' := 100 + 8 * (k + 1)) (slots' := 5000 + 48 * (k + 1)) (by show 100 + 8 * k + 1 ≤ _; omega) (by show 5000 + 48 * k + 6 ≤ _; omega) ?_
    exact hnext _ _ _ hR
set_option maxHeartbeats 1000000 in
set_option maxRecDepth 100000 in
theorem law_c23 {p : Program} {e : Env} {s : State} {m : MethodId} {below : List Frame} {meth : Method} {c : Code} {b L : Nat} {xs : Nat → Int32} (l : Launch) (hlt : l.stackTraces = false) (D : va_G) (cI cII cL : ClassId) (h g : Nat → Nat) (o : Nat) (X : v_C p s m #[Value.ref b] c code RL wsL_law 7 D vwCl (tyl cI cII cL) (fun q : Nat => s.heap.size ≤ q)) (hXW : v_XW (fun q : Nat => s.heap.size ≤ q) s) (hX : va_X b L xs s s.heap) (hbl : b < s.heap.size) (S M : St) (F : Nat → Int64) (k : Nat) (hk : 4 * k + 4 ≤ L) (hL : L ≤ 2048) (hRel : Rel k S M) (hnext : ∀ (S' M' : St) (F' : Nat → Int64), Rel (k + 1) S' M' → v_V p l e room_1 s m #[Value.ref b] below meth c D vwCl (fun q : Nat => s.heap.size ≤ q) 7 (lw_Z below #[Value.ref b] s) (100 + 8 * (k + 1)) (5000 + 48 * (k + 1)) (wA h cI cII cL g o S' M' F') 1605 [(4, .int (nI (4 * k))), (3, .ref o), (2, .ref (g 0)), (1, .ref (h 0)), (0, .ref b)] []) : v_V p l e room_1 s m #[Value.ref b] below meth c D vwCl (fun q : Nat => s.heap.size ≤ q) 7 (lw_Z below #[Value.ref b] s) (100 + 8 * k) (5000 + 48 * k) (wA h cI cII cL g o S M F) 1537 [(4, .int (nI (4 * k))), (3, .ref o), (2, .ref (g 0)), (1, .ref (h 0)), (0, .ref b)] [] := by
  have hbA : ¬ (fun q : Nat => s.heap.size ≤ q) b := Nat.not_le.mpr hbl
  obtain ⟨hth, hv, hR⟩ := sim_play hRel (by omega) (xs (nI (4 * k) + 1).toNatClampNeg) (xs (nI (4 * k) + 2).toNatClampNeg)
  refine v_aload_n X dL_law_1537 rfl ?_
  refine v_aload_n X dL_law_1538 rfl ?_
  refine v_iload X dL_law_1539 rfl ?_
  refine v_iconst (x := 1) X dL_law_1541 rfl ?_
  refine v_iadd X dL_law_1542 ?_
  refine v_sld X hX hbl hbA (by rw [ix_n (4 * k) 1 1 rfl]; exact vp_in_nI (by omega) (by omega)) dL_law_1543 ?_
  refine v_aload_n X dL_law_1544 rfl ?_
  refine v_iload X dL_law_1545 rfl ?_
  refine v_iconst (x := 2) X dL_law_1547 rfl ?_
  refine v_iadd X dL_law_1548 ?_
  refine v_sld X hX hbl hbA (by rw [ix_n (4 * k) 2 2 rfl]; exact vp_in_nI (by omega) (by omega)) dL_law_1549 ?_
  refine v_aload_n X dL_law_1550 rfl ?_
  refine v_callLic (As := [.ref (h 0), .int (xs (nI (4 * k) + 1).toNatClampNeg), .int (xs (nI (4 * k) + 2).toNatClampNeg), .ref o]) (rest := []) (w' := (wA h cI cII cL g o (s_L_play S (xs (nI (4 * k) + 1).toNatClampNeg) (xs (nI (4 * k) + 2).toNatClampNeg)) M (f_L_play S (xs (nI (4 * k) + 1).toNatClampNeg) (xs (nI (4 * k) + 2).toNatClampNeg) F))) X hXW (c_L_play l D cI cII cL hlt h o S (xs (nI (4 * k) + 1).toNatClampNeg) (xs (nI (4 * k) + 2).toNatClampNeg) F hRel.hcnt hRel.hkin) (vx_cwSW 4 X.2.2.2.1 gL_law_L_play rfl rfl rfl (by decide +kernel) ⟨Nat.le_of_ble_eq_true rfl, Nat.le_of_ble_eq_true rfl⟩) aC1 aR1 aP1 (cutA1 h cI cII cL g o) rfl rfl (Nat.le_of_ble_eq_true rfl) dL_law_1551 ⟨(show _ ≤ 601024 by show 100 + 8 * k + 3 ≤ 601024; omega), (show _ ≤ 7293034 by show 5000 + 48 * k + 18 ≤ 7293034; omega)⟩ ?_
  refine v_istore (lv' := [(5, .int (k_L_play S (xs (nI (4 * k) + 1).toNatClampNeg) (xs (nI (4 * k) + 2).toNatClampNeg))), (4, .int (nI (4 * k))), (3, .ref o), (2, .ref (g 0)), (1, .ref (h 0)), (0, .ref b)]) X dL_law_1554 (by decide) rfl ?_
  refine v_aload_n X dL_law_1556 rfl ?_
  refine v_aload_n X dL_law_1557 rfl ?_
  refine v_iload X dL_law_1558 rfl ?_
  refine v_iconst (x := 1) X dL_law_1560 rfl ?_
  refine v_iadd X dL_law_1561 ?_
  refine v_sld X hX hbl hbA (by rw [ix_n (4 * k) 1 1 rfl]; exact vp_in_nI (by omega) (by omega)) dL_law_1562 ?_
  refine v_aload_n X dL_law_1563 rfl ?_
  refine v_iload X dL_law_1564 rfl ?_
  refine v_iconst (x := 2) X dL_law_1566 rfl ?_
  refine v_iadd X dL_law_1567 ?_
  refine v_sld X hX hbl hbA (by rw [ix_n (4 * k) 2 2 rfl]; exact vp_in_nI (by omega) (by omega)) dL_law_1568 ?_
  refine v_callVic (As := [.int (xs (nI (4 * k) + 1).toNatClampNeg), .int (xs (nI (4 * k) + 2).toNatClampNeg)]) (rest := []) (w' := (wA h cI cII cL g o (s_L_play S (xs (nI (4 * k) + 1).toNatClampNeg) (xs (nI (4 * k) + 2).toNatClampNeg)) (s_X4_play M (xs (nI (4 * k) + 1).toNatClampNeg) (xs (nI (4 * k) + 2).toNatClampNeg)) (f_L_play S (xs (nI (4 * k) + 1).toNatClampNeg) (xs (nI (4 * k) + 2).toNatClampNeg) F))) X (c_X4_play l D cI cII cL g M (xs (nI (4 * k) + 1).toNatClampNeg) (xs (nI (4 * k) + 2).toNatClampNeg) hRel.hmc hRel.hmkin) (cwV 2 X.2.2.2.1 gL_law_X4_play rfl rfl rfl (by decide +kernel) ⟨Nat.le_of_ble_eq_true rfl, Nat.le_of_ble_eq_true rfl⟩) aC3 aR3 aP3 (cutA3 h cI cII cL g o) 0 4 rfl rfl wM_g0 rfl rfl (Nat.le_of_ble_eq_true rfl) dL_law_1569 ⟨(show _ ≤ 601024 by show 100 + 8 * k + 3 ≤ 601024; omega), (show _ ≤ 7293034 by show 5000 + 48 * k + 18 ≤ 7293034; omega)⟩ ?_
  refine v_istore (lv' := [(6, .int (r_X4_play M (xs (nI (4 * k) + 1).toNatClampNeg) (xs (nI (4 * k) + 2).toNatClampNeg))), (5, .int (k_L_play S (xs (nI (4 * k) + 1).toNatClampNeg) (xs (nI (4 * k) + 2).toNatClampNeg))), (4, .int (nI (4 * k))), (3, .ref o), (2, .ref (g 0)), (1, .ref (h 0)), (0, .ref b)]) X dL_law_1572 (by decide) rfl ?_
  refine v_aload_n X dL_law_1574 rfl ?_
  refine v_callVic (As := []) (rest := []) (w' := (wA h cI cII cL g o (s_L_play S (xs (nI (4 * k) + 1).toNatClampNeg) (xs (nI (4 * k) + 2).toNatClampNeg)) (s_X4_play M (xs (nI (4 * k) + 1).toNatClampNeg) (xs (nI (4 * k) + 2).toNatClampNeg)) (f_L_play S (xs (nI (4 * k) + 1).toNatClampNeg) (xs (nI (4 * k) + 2).toNatClampNeg) F))) X (c_X4_thrown l D cI cII cL g (s_X4_play M (xs (nI (4 * k) + 1).toNatClampNeg) (xs (nI (4 * k) + 2).toNatClampNeg))) (cwV 0 X.2.2.2.1 gL_law_X4_thrown rfl rfl rfl (by decide +kernel) ⟨Nat.le_of_ble_eq_true rfl, Nat.le_of_ble_eq_true rfl⟩) aC3 aR3 aP3 (cutA3 h cI cII cL g o) 0 4 rfl rfl wM_g0 rfl rfl (Nat.le_of_ble_eq_true rfl) dL_law_1575 ⟨(show _ ≤ 601024 by show 100 + 8 * k + 3 ≤ 601024; omega), (show _ ≤ 7293034 by show 5000 + 48 * k + 18 ≤ 7293034; omega)⟩ ?_
  refine v_iload X dL_law_1578 rfl ?_
  refine v_icmp_eq (tgt := 1585) X dL_law_1580 (by decide) (fun c_1 => ?_) (fun c_1 => absurd hth c_1)
  refine v_iload X dL_law_1585 rfl ?_
  refine v_if_ne (tgt := 1602) X dL_law_1587 (by decide) (fun c_2 => ?_) (fun c_2 => ?_)
  · refine v_goto (tgt := 1605) X dL_law_1602 (by decide) ?_
    refine v_lv [2, 3, 4, 5, 6] rfl ?_
    refine v_wd (cells' := 100 + 8 * (k + 1)) (slots' := 5000 + 48 * (k + 1)) (by show 100 + 8 * k + 3 ≤ _; omega) (by show 5000 + 48 * k + 18 ≤ _; omega) ?_
    exact hnext _ _ _ hR
  · have hv := hv c_2 F
    refine v_aload_n X dL_law_1590 rfl ?_
    refine v_iconst (x := 0) X dL_law_1591 rfl ?_
    refine v_lald X 43 2 wA_go rfl (vp_in_nI (n := 0) (by decide) (by decide)) dL_law_1592 ?_
    refine v_iload X dL_law_1593 rfl ?_
    refine v_i2l X dL_law_1595 ?_
    refine v_lcmp X dL_law_1596 ?_
    refine v_if_eq (tgt := 1602) X dL_law_1597 (by decide) (fun c_3 => ?_) (fun c_3 => absurd (show lg_cmp ((f_L_play S (xs (nI (4 * k) + 1).toNatClampNeg) (xs (nI (4 * k) + 2).toNatClampNeg) F) 0) (r_X4_play M (xs (nI (4 * k) + 1).toNatClampNeg) (xs (nI (4 * k) + 2).toNatClampNeg)).toInt64 = 0 from by rw [hv]; exact lg_self _) c_3)
    refine v_goto (tgt := 1605) X dL_law_1602 (by decide) ?_
    refine v_lv [2, 3, 4, 5, 6] rfl ?_
    refine v_wd (cells' := 100 + 8 * (k + 1)) (slots' := 5000 + 48 * (k + 1)) (by show 100 + 8 * k + 3 ≤ _; omega) (by show 5000 + 48 * k + 18 ≤ _; omega) ?_
    exact hnext _ _ _ hR
