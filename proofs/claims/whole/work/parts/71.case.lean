set_option maxHeartbeats 1000000 in
set_option maxRecDepth 100000 in
theorem law_c0 {p : Program} {e : Env} {s : State} {m : MethodId} {below : List Frame} {meth : Method} {c : Code} {b L : Nat} {xs : Nat → Int32} (l : Launch) (hlt : l.stackTraces = false) (D : va_G) (cI cII cL : ClassId) (h g : Nat → Nat) (o : Nat) (X : v_C p s m #[Value.ref b] c code RL wsL_law 7 D vwCl (tyl cI cII cL) (fun q : Nat => s.heap.size ≤ q)) (hXW : v_XW (fun q : Nat => s.heap.size ≤ q) s) (hX : va_X b L xs s s.heap) (hbl : b < s.heap.size) (S M : St) (F : Nat → Int64) (k : Nat) (hk : 4 * k + 4 ≤ L) (hL : L ≤ 2048) (hRel : Rel k S M) (hnext : ∀ (S' M' : St) (F' : Nat → Int64), Rel (k + 1) S' M' → v_V p l e room_1 s m #[Value.ref b] below meth c D vwCl (fun q : Nat => s.heap.size ≤ q) 7 (lw_Z below #[Value.ref b] s) (100 + 8 * (k + 1)) (5000 + 48 * (k + 1)) (wA h cI cII cL g o S' M' F') 1605 [(4, .int (nI (4 * k))), (3, .ref o), (2, .ref (g 0)), (1, .ref (h 0)), (0, .ref b)] []) : v_V p l e room_1 s m #[Value.ref b] below meth c D vwCl (fun q : Nat => s.heap.size ≤ q) 7 (lw_Z below #[Value.ref b] s) (100 + 8 * k) (5000 + 48 * k) (wA h cI cII cL g o S M F) 148 [(4, .int (nI (4 * k))), (3, .ref o), (2, .ref (g 0)), (1, .ref (h 0)), (0, .ref b)] [] := by
  have hbA : ¬ (fun q : Nat => s.heap.size ≤ q) b := Nat.not_le.mpr hbl
  obtain ⟨hth, hv, hR⟩ := sim_mint hRel (by omega) (xs (nI (4 * k) + 1).toNatClampNeg) (xs (nI (4 * k) + 2).toNatClampNeg)
  refine v_aload_n X dL_law_148 rfl ?_
  refine v_aload_n X dL_law_149 rfl ?_
  refine v_iload X dL_law_150 rfl ?_
  refine v_iconst (x := 1) X dL_law_152 rfl ?_
  refine v_iadd X dL_law_153 ?_
  refine v_sld X hX hbl hbA (by rw [ix_n (4 * k) 1 1 rfl]; exact vp_in_nI (by omega) (by omega)) dL_law_154 ?_
  refine v_aload_n X dL_law_155 rfl ?_
  refine v_iload X dL_law_156 rfl ?_
  refine v_iconst (x := 2) X dL_law_158 rfl ?_
  refine v_iadd X dL_law_159 ?_
  refine v_sld X hX hbl hbA (by rw [ix_n (4 * k) 2 2 rfl]; exact vp_in_nI (by omega) (by omega)) dL_law_160 ?_
  refine v_aload_n X dL_law_161 rfl ?_
  refine v_callLic (As := [.ref (h 0), .int (xs (nI (4 * k) + 1).toNatClampNeg), .int (xs (nI (4 * k) + 2).toNatClampNeg), .ref o]) (rest := []) (w' := (wA h cI cII cL g o (s_L_mint S (xs (nI (4 * k) + 1).toNatClampNeg) (xs (nI (4 * k) + 2).toNatClampNeg)) M (f_L_mint S (xs (nI (4 * k) + 1).toNatClampNeg) (xs (nI (4 * k) + 2).toNatClampNeg) F))) X hXW (c_L_mint l D cI cII cL hlt h o S (xs (nI (4 * k) + 1).toNatClampNeg) (xs (nI (4 * k) + 2).toNatClampNeg) F hRel.hcnt hRel.hhis) (vx_cwSW 4 X.2.2.2.1 gL_law_L_mint rfl rfl rfl (by decide +kernel) ⟨Nat.le_of_ble_eq_true rfl, Nat.le_of_ble_eq_true rfl⟩) aC1 aR1 aP1 (cutA1 h cI cII cL g o) rfl rfl (Nat.le_of_ble_eq_true rfl) dL_law_162 ⟨(show _ ≤ 601024 by show 100 + 8 * k + 3 ≤ 601024; omega), (show _ ≤ 7293034 by show 5000 + 48 * k + 18 ≤ 7293034; omega)⟩ ?_
  refine v_istore (lv' := [(5, .int (k_L_mint S (xs (nI (4 * k) + 1).toNatClampNeg) (xs (nI (4 * k) + 2).toNatClampNeg))), (4, .int (nI (4 * k))), (3, .ref o), (2, .ref (g 0)), (1, .ref (h 0)), (0, .ref b)]) X dL_law_165 (by decide) rfl ?_
  refine v_aload_n X dL_law_167 rfl ?_
  refine v_aload_n X dL_law_168 rfl ?_
  refine v_iload X dL_law_169 rfl ?_
  refine v_iconst (x := 1) X dL_law_171 rfl ?_
  refine v_iadd X dL_law_172 ?_
  refine v_sld X hX hbl hbA (by rw [ix_n (4 * k) 1 1 rfl]; exact vp_in_nI (by omega) (by omega)) dL_law_173 ?_
  refine v_aload_n X dL_law_174 rfl ?_
  refine v_iload X dL_law_175 rfl ?_
  refine v_iconst (x := 2) X dL_law_177 rfl ?_
  refine v_iadd X dL_law_178 ?_
  refine v_sld X hX hbl hbA (by rw [ix_n (4 * k) 2 2 rfl]; exact vp_in_nI (by omega) (by omega)) dL_law_179 ?_
  refine v_callVic (As := [.int (xs (nI (4 * k) + 1).toNatClampNeg), .int (xs (nI (4 * k) + 2).toNatClampNeg)]) (rest := []) (w' := (wA h cI cII cL g o (s_L_mint S (xs (nI (4 * k) + 1).toNatClampNeg) (xs (nI (4 * k) + 2).toNatClampNeg)) (s_X4_mint M (xs (nI (4 * k) + 1).toNatClampNeg) (xs (nI (4 * k) + 2).toNatClampNeg)) (f_L_mint S (xs (nI (4 * k) + 1).toNatClampNeg) (xs (nI (4 * k) + 2).toNatClampNeg) F))) X (c_X4_mint l D cI cII cL g M (xs (nI (4 * k) + 1).toNatClampNeg) (xs (nI (4 * k) + 2).toNatClampNeg) hRel.hmc) (cwV 2 X.2.2.2.1 gL_law_X4_mint rfl rfl rfl (by decide +kernel) ⟨Nat.le_of_ble_eq_true rfl, Nat.le_of_ble_eq_true rfl⟩) aC3 aR3 aP3 (cutA3 h cI cII cL g o) 0 4 rfl rfl wM_g0 rfl rfl (Nat.le_of_ble_eq_true rfl) dL_law_180 ⟨(show _ ≤ 601024 by show 100 + 8 * k + 3 ≤ 601024; omega), (show _ ≤ 7293034 by show 5000 + 48 * k + 18 ≤ 7293034; omega)⟩ ?_
  refine v_istore (lv' := [(6, .int (r_X4_mint M (xs (nI (4 * k) + 1).toNatClampNeg) (xs (nI (4 * k) + 2).toNatClampNeg))), (5, .int (k_L_mint S (xs (nI (4 * k) + 1).toNatClampNeg) (xs (nI (4 * k) + 2).toNatClampNeg))), (4, .int (nI (4 * k))), (3, .ref o), (2, .ref (g 0)), (1, .ref (h 0)), (0, .ref b)]) X dL_law_183 (by decide) rfl ?_
  refine v_aload_n X dL_law_185 rfl ?_
  refine v_callVic (As := []) (rest := []) (w' := (wA h cI cII cL g o (s_L_mint S (xs (nI (4 * k) + 1).toNatClampNeg) (xs (nI (4 * k) + 2).toNatClampNeg)) (s_X4_mint M (xs (nI (4 * k) + 1).toNatClampNeg) (xs (nI (4 * k) + 2).toNatClampNeg)) (f_L_mint S (xs (nI (4 * k) + 1).toNatClampNeg) (xs (nI (4 * k) + 2).toNatClampNeg) F))) X (c_X4_thrown l D cI cII cL g (s_X4_mint M (xs (nI (4 * k) + 1).toNatClampNeg) (xs (nI (4 * k) + 2).toNatClampNeg))) (cwV 0 X.2.2.2.1 gL_law_X4_thrown rfl rfl rfl (by decide +kernel) ⟨Nat.le_of_ble_eq_true rfl, Nat.le_of_ble_eq_true rfl⟩) aC3 aR3 aP3 (cutA3 h cI cII cL g o) 0 4 rfl rfl wM_g0 rfl rfl (Nat.le_of_ble_eq_true rfl) dL_law_186 ⟨(show _ ≤ 601024 by show 100 + 8 * k + 3 ≤ 601024; omega), (show _ ≤ 7293034 by show 5000 + 48 * k + 18 ≤ 7293034; omega)⟩ ?_
  refine v_iload X dL_law_189 rfl ?_
  refine v_icmp_eq (tgt := 196) X dL_law_191 (by decide) (fun c_1 => ?_) (fun c_1 => absurd hth c_1)
  refine v_iload X dL_law_196 rfl ?_
  refine v_if_ne (tgt := 213) X dL_law_198 (by decide) (fun c_2 => ?_) (fun c_2 => ?_)
  · refine v_goto (tgt := 1605) X dL_law_213 (by decide) ?_
    refine v_lv [2, 3, 4, 5, 6] rfl ?_
    refine v_wd (cells' := 100 + 8 * (k + 1)) (slots' := 5000 + 48 * (k + 1)) (by show 100 + 8 * k + 3 ≤ _; omega) (by show 5000 + 48 * k + 18 ≤ _; omega) ?_
    exact hnext _ _ _ hR
  · have hv := hv c_2 F
    refine v_aload_n X dL_law_201 rfl ?_
    refine v_iconst (x := 0) X dL_law_202 rfl ?_
    refine v_lald X 43 2 wA_go rfl (vp_in_nI (n := 0) (by decide) (by decide)) dL_law_203 ?_
    refine v_iload X dL_law_204 rfl ?_
    refine v_i2l X dL_law_206 ?_
    refine v_lcmp X dL_law_207 ?_
    refine v_if_eq (tgt := 213) X dL_law_208 (by decide) (fun c_3 => ?_) (fun c_3 => absurd (show lg_cmp ((f_L_mint S (xs (nI (4 * k) + 1).toNatClampNeg) (xs (nI (4 * k) + 2).toNatClampNeg) F) 0) (r_X4_mint M (xs (nI (4 * k) + 1).toNatClampNeg) (xs (nI (4 * k) + 2).toNatClampNeg)).toInt64 = 0 from by rw [hv]; exact lg_self _) c_3)
    refine v_goto (tgt := 1605) X dL_law_213 (by decide) ?_
    refine v_lv [2, 3, 4, 5, 6] rfl ?_
    refine v_wd (cells' := 100 + 8 * (k + 1)) (slots' := 5000 + 48 * (k + 1)) (by show 100 + 8 * k + 3 ≤ _; omega) (by show 5000 + 48 * k + 18 ≤ _; omega) ?_
    exact hnext _ _ _ hR
set_option maxHeartbeats 1000000 in
set_option maxRecDepth 100000 in
theorem law_c1 {p : Program} {e : Env} {s : State} {m : MethodId} {below : List Frame} {meth : Method} {c : Code} {b L : Nat} {xs : Nat → Int32} (l : Launch) (hlt : l.stackTraces = false) (D : va_G) (cI cII cL : ClassId) (h g : Nat → Nat) (o : Nat) (X : v_C p s m #[Value.ref b] c code RL wsL_law 7 D vwCl (tyl cI cII cL) (fun q : Nat => s.heap.size ≤ q)) (hXW : v_XW (fun q : Nat => s.heap.size ≤ q) s) (hX : va_X b L xs s s.heap) (hbl : b < s.heap.size) (S M : St) (F : Nat → Int64) (k : Nat) (hk : 4 * k + 4 ≤ L) (hL : L ≤ 2048) (hRel : Rel k S M) (hnext : ∀ (S' M' : St) (F' : Nat → Int64), Rel (k + 1) S' M' → v_V p l e room_1 s m #[Value.ref b] below meth c D vwCl (fun q : Nat => s.heap.size ≤ q) 7 (lw_Z below #[Value.ref b] s) (100 + 8 * (k + 1)) (5000 + 48 * (k + 1)) (wA h cI cII cL g o S' M' F') 1605 [(4, .int (nI (4 * k))), (3, .ref o), (2, .ref (g 0)), (1, .ref (h 0)), (0, .ref b)] []) : v_V p l e room_1 s m #[Value.ref b] below meth c D vwCl (fun q : Nat => s.heap.size ≤ q) 7 (lw_Z below #[Value.ref b] s) (100 + 8 * k) (5000 + 48 * k) (wA h cI cII cL g o S M F) 216 [(4, .int (nI (4 * k))), (3, .ref o), (2, .ref (g 0)), (1, .ref (h 0)), (0, .ref b)] [] := by
  have hbA : ¬ (fun q : Nat => s.heap.size ≤ q) b := Nat.not_le.mpr hbl
  obtain ⟨hth, hv, hR⟩ := sim_owner hRel (by omega) (xs (nI (4 * k) + 1).toNatClampNeg)
  refine v_aload_n X dL_law_216 rfl ?_
  refine v_aload_n X dL_law_217 rfl ?_
  refine v_iload X dL_law_218 rfl ?_
  refine v_iconst (x := 1) X dL_law_220 rfl ?_
  refine v_iadd X dL_law_221 ?_
  refine v_sld X hX hbl hbA (by rw [ix_n (4 * k) 1 1 rfl]; exact vp_in_nI (by omega) (by omega)) dL_law_222 ?_
  refine v_aload_n X dL_law_223 rfl ?_
  refine v_callLic (As := [.ref (h 0), .int (xs (nI (4 * k) + 1).toNatClampNeg), .ref o]) (rest := []) (w' := (wA h cI cII cL g o S M (f_L_owner S (xs (nI (4 * k) + 1).toNatClampNeg) F))) X hXW (c_L_owner l D cI cII cL hlt h o S (xs (nI (4 * k) + 1).toNatClampNeg) F hRel.hcnt) (vx_cwSW 3 X.2.2.2.1 gL_law_L_owner rfl rfl rfl (by decide +kernel) ⟨Nat.le_of_ble_eq_true rfl, Nat.le_of_ble_eq_true rfl⟩) aC1 aR1 aP1 (cutA1 h cI cII cL g o) rfl rfl (Nat.le_of_ble_eq_true rfl) dL_law_224 ⟨(show _ ≤ 601024 by show 100 + 8 * k + 1 ≤ 601024; omega), (show _ ≤ 7293034 by show 5000 + 48 * k + 6 ≤ 7293034; omega)⟩ ?_
  refine v_istore (lv' := [(5, .int (k_L_owner S (xs (nI (4 * k) + 1).toNatClampNeg))), (4, .int (nI (4 * k))), (3, .ref o), (2, .ref (g 0)), (1, .ref (h 0)), (0, .ref b)]) X dL_law_227 (by decide) rfl ?_
  refine v_aload_n X dL_law_229 rfl ?_
  refine v_aload_n X dL_law_230 rfl ?_
  refine v_iload X dL_law_231 rfl ?_
  refine v_iconst (x := 1) X dL_law_233 rfl ?_
  refine v_iadd X dL_law_234 ?_
  refine v_sld X hX hbl hbA (by rw [ix_n (4 * k) 1 1 rfl]; exact vp_in_nI (by omega) (by omega)) dL_law_235 ?_
  refine v_callVic (As := [.int (xs (nI (4 * k) + 1).toNatClampNeg)]) (rest := []) (w' := (wA h cI cII cL g o S (s_X4_owner M (xs (nI (4 * k) + 1).toNatClampNeg)) (f_L_owner S (xs (nI (4 * k) + 1).toNatClampNeg) F))) X (c_X4_owner l D cI cII cL g M (xs (nI (4 * k) + 1).toNatClampNeg) hRel.hmc) (cwV 1 X.2.2.2.1 gL_law_X4_owner rfl rfl rfl (by decide +kernel) ⟨Nat.le_of_ble_eq_true rfl, Nat.le_of_ble_eq_true rfl⟩) aC3 aR3 aP3 (cutA3 h cI cII cL g o) 0 4 rfl rfl wM_g0 rfl rfl (Nat.le_of_ble_eq_true rfl) dL_law_236 ⟨(show _ ≤ 601024 by show 100 + 8 * k + 1 ≤ 601024; omega), (show _ ≤ 7293034 by show 5000 + 48 * k + 6 ≤ 7293034; omega)⟩ ?_
  refine v_istore (lv' := [(6, .int (r_X4_owner M (xs (nI (4 * k) + 1).toNatClampNeg))), (5, .int (k_L_owner S (xs (nI (4 * k) + 1).toNatClampNeg))), (4, .int (nI (4 * k))), (3, .ref o), (2, .ref (g 0)), (1, .ref (h 0)), (0, .ref b)]) X dL_law_239 (by decide) rfl ?_
  refine v_aload_n X dL_law_241 rfl ?_
  refine v_callVic (As := []) (rest := []) (w' := (wA h cI cII cL g o S (s_X4_owner M (xs (nI (4 * k) + 1).toNatClampNeg)) (f_L_owner S (xs (nI (4 * k) + 1).toNatClampNeg) F))) X (c_X4_thrown l D cI cII cL g (s_X4_owner M (xs (nI (4 * k) + 1).toNatClampNeg))) (cwV 0 X.2.2.2.1 gL_law_X4_thrown rfl rfl rfl (by decide +kernel) ⟨Nat.le_of_ble_eq_true rfl, Nat.le_of_ble_eq_true rfl⟩) aC3 aR3 aP3 (cutA3 h cI cII cL g o) 0 4 rfl rfl wM_g0 rfl rfl (Nat.le_of_ble_eq_true rfl) dL_law_242 ⟨(show _ ≤ 601024 by show 100 + 8 * k + 1 ≤ 601024; omega), (show _ ≤ 7293034 by show 5000 + 48 * k + 6 ≤ 7293034; omega)⟩ ?_
  refine v_iload X dL_law_245 rfl ?_
  refine v_icmp_eq (tgt := 252) X dL_law_247 (by decide) (fun c_1 => ?_) (fun c_1 => absurd hth c_1)
  refine v_iload X dL_law_252 rfl ?_
  refine v_if_ne (tgt := 269) X dL_law_254 (by decide) (fun c_2 => ?_) (fun c_2 => ?_)
  · refine v_goto (tgt := 1605) X dL_law_269 (by decide) ?_
    refine v_lv [2, 3, 4, 5, 6] rfl ?_
    refine v_wd (cells' := 100 + 8 * (k + 1)) (slots' := 5000 + 48 * (k + 1)) (by show 100 + 8 * k + 1 ≤ _; omega) (by show 5000 + 48 * k + 6 ≤ _; omega) ?_
    exact hnext _ _ _ hR
  · have hv := hv c_2 F
    refine v_aload_n X dL_law_257 rfl ?_
    refine v_iconst (x := 0) X dL_law_258 rfl ?_
    refine v_lald X 43 2 wA_go rfl (vp_in_nI (n := 0) (by decide) (by decide)) dL_law_259 ?_
    refine v_iload X dL_law_260 rfl ?_
    refine v_i2l X dL_law_262 ?_
    refine v_lcmp X dL_law_263 ?_
    refine v_if_eq (tgt := 269) X dL_law_264 (by decide) (fun c_3 => ?_) (fun c_3 => absurd (show lg_cmp ((f_L_owner S (xs (nI (4 * k) + 1).toNatClampNeg) F) 0) (r_X4_owner M (xs (nI (4 * k) + 1).toNatClampNeg)).toInt64 = 0 from by rw [hv]; exact lg_self _) c_3)
    refine v_goto (tgt := 1605) X dL_law_269 (by decide) ?_
    refine v_lv [2, 3, 4, 5, 6] rfl ?_
    refine v_wd (cells' := 100 + 8 * (k + 1)) (slots' := 5000 + 48 * (k + 1)) (by show 100 + 8 * k + 1 ≤ _; omega) (by show 5000 + 48 * k + 6 ≤ _; omega) ?_
    exact hnext _ _ _ hR
set_option maxHeartbeats 1000000 in
set_option maxRecDepth 100000 in
theorem law_c2 {p : Program} {e : Env} {s : State} {m : MethodId} {below : List Frame} {meth : Method} {c : Code} {b L : Nat} {xs : Nat → Int32} (l : Launch) (hlt : l.stackTraces = false) (D : va_G) (cI cII cL : ClassId) (h g : Nat → Nat) (o : Nat) (X : v_C p s m #[Value.ref b] c code RL wsL_law 7 D vwCl (tyl cI cII cL) (fun q : Nat => s.heap.size ≤ q)) (hXW : v_XW (fun q : Nat => s.heap.size ≤ q) s) (hX : va_X b L xs s s.heap) (hbl : b < s.heap.size) (S M : St) (F : Nat → Int64) (k : Nat) (hk : 4 * k + 4 ≤ L) (hL : L ≤ 2048) (hRel : Rel k S M) (hnext : ∀ (S' M' : St) (F' : Nat → Int64), Rel (k + 1) S' M' → v_V p l e room_1 s m #[Value.ref b] below meth c D vwCl (fun q : Nat => s.heap.size ≤ q) 7 (lw_Z below #[Value.ref b] s) (100 + 8 * (k + 1)) (5000 + 48 * (k + 1)) (wA h cI cII cL g o S' M' F') 1605 [(4, .int (nI (4 * k))), (3, .ref o), (2, .ref (g 0)), (1, .ref (h 0)), (0, .ref b)] []) : v_V p l e room_1 s m #[Value.ref b] below meth c D vwCl (fun q : Nat => s.heap.size ≤ q) 7 (lw_Z below #[Value.ref b] s) (100 + 8 * k) (5000 + 48 * k) (wA h cI cII cL g o S M F) 272 [(4, .int (nI (4 * k))), (3, .ref o), (2, .ref (g 0)), (1, .ref (h 0)), (0, .ref b)] [] := by
  have hbA : ¬ (fun q : Nat => s.heap.size ≤ q) b := Nat.not_le.mpr hbl
  obtain ⟨hth, hv, hR⟩ := sim_ownerByHistory hRel (by omega) (xs (nI (4 * k) + 1).toNatClampNeg)
  refine v_aload_n X dL_law_272 rfl ?_
  refine v_aload_n X dL_law_273 rfl ?_
  refine v_iload X dL_law_274 rfl ?_
  refine v_iconst (x := 1) X dL_law_276 rfl ?_
  refine v_iadd X dL_law_277 ?_
  refine v_sld X hX hbl hbA (by rw [ix_n (4 * k) 1 1 rfl]; exact vp_in_nI (by omega) (by omega)) dL_law_278 ?_
  refine v_aload_n X dL_law_279 rfl ?_
  refine v_callLic (As := [.ref (h 0), .int (xs (nI (4 * k) + 1).toNatClampNeg), .ref o]) (rest := []) (w' := (wA h cI cII cL g o S M (f_L_ownerByHistory S (xs (nI (4 * k) + 1).toNatClampNeg) F))) X hXW (c_L_ownerByHistory l D cI cII cL hlt h o S (xs (nI (4 * k) + 1).toNatClampNeg) F hRel.hcnt hRel.hhis) (vx_cwSW 3 X.2.2.2.1 gL_law_L_ownerByHistory rfl rfl rfl (by decide +kernel) ⟨Nat.le_of_ble_eq_true rfl, Nat.le_of_ble_eq_true rfl⟩) aC1 aR1 aP1 (cutA1 h cI cII cL g o) rfl rfl (Nat.le_of_ble_eq_true rfl) dL_law_280 ⟨(show _ ≤ 601024 by show 100 + 8 * k + 1 ≤ 601024; omega), (show _ ≤ 7293034 by show 5000 + 48 * k + 6 ≤ 7293034; omega)⟩ ?_
  refine v_istore (lv' := [(5, .int (k_L_ownerByHistory S (xs (nI (4 * k) + 1).toNatClampNeg))), (4, .int (nI (4 * k))), (3, .ref o), (2, .ref (g 0)), (1, .ref (h 0)), (0, .ref b)]) X dL_law_283 (by decide) rfl ?_
  refine v_aload_n X dL_law_285 rfl ?_
  refine v_aload_n X dL_law_286 rfl ?_
  refine v_iload X dL_law_287 rfl ?_
  refine v_iconst (x := 1) X dL_law_289 rfl ?_
  refine v_iadd X dL_law_290 ?_
  refine v_sld X hX hbl hbA (by rw [ix_n (4 * k) 1 1 rfl]; exact vp_in_nI (by omega) (by omega)) dL_law_291 ?_
  refine v_callVic (As := [.int (xs (nI (4 * k) + 1).toNatClampNeg)]) (rest := []) (w' := (wA h cI cII cL g o S (s_X4_ownerByHistory M (xs (nI (4 * k) + 1).toNatClampNeg)) (f_L_ownerByHistory S (xs (nI (4 * k) + 1).toNatClampNeg) F))) X (c_X4_ownerByHistory l D cI cII cL g M (xs (nI (4 * k) + 1).toNatClampNeg) hRel.hmc) (cwV 1 X.2.2.2.1 gL_law_X4_ownerByHistory rfl rfl rfl (by decide +kernel) ⟨Nat.le_of_ble_eq_true rfl, Nat.le_of_ble_eq_true rfl⟩) aC3 aR3 aP3 (cutA3 h cI cII cL g o) 0 4 rfl rfl wM_g0 rfl rfl (Nat.le_of_ble_eq_true rfl) dL_law_292 ⟨(show _ ≤ 601024 by show 100 + 8 * k + 1 ≤ 601024; omega), (show _ ≤ 7293034 by show 5000 + 48 * k + 6 ≤ 7293034; omega)⟩ ?_
  refine v_istore (lv' := [(6, .int (r_X4_ownerByHistory M (xs (nI (4 * k) + 1).toNatClampNeg))), (5, .int (k_L_ownerByHistory S (xs (nI (4 * k) + 1).toNatClampNeg))), (4, .int (nI (4 * k))), (3, .ref o), (2, .ref (g 0)), (1, .ref (h 0)), (0, .ref b)]) X dL_law_295 (by decide) rfl ?_
  refine v_aload_n X dL_law_297 rfl ?_
  refine v_callVic (As := []) (rest := []) (w' := (wA h cI cII cL g o S (s_X4_ownerByHistory M (xs (nI (4 * k) + 1).toNatClampNeg)) (f_L_ownerByHistory S (xs (nI (4 * k) + 1).toNatClampNeg) F))) X (c_X4_thrown l D cI cII cL g (s_X4_ownerByHistory M (xs (nI (4 * k) + 1).toNatClampNeg))) (cwV 0 X.2.2.2.1 gL_law_X4_thrown rfl rfl rfl (by decide +kernel) ⟨Nat.le_of_ble_eq_true rfl, Nat.le_of_ble_eq_true rfl⟩) aC3 aR3 aP3 (cutA3 h cI cII cL g o) 0 4 rfl rfl wM_g0 rfl rfl (Nat.le_of_ble_eq_true rfl) dL_law_298 ⟨(show _ ≤ 601024 by show 100 + 8 * k + 1 ≤ 601024; omega), (show _ ≤ 7293034 by show 5000 + 48 * k + 6 ≤ 7293034; omega)⟩ ?_
  refine v_iload X dL_law_301 rfl ?_
  refine v_icmp_eq (tgt := 308) X dL_law_303 (by decide) (fun c_1 => ?_) (fun c_1 => absurd hth c_1)
  refine v_iload X dL_law_308 rfl ?_
  refine v_if_ne (tgt := 325) X dL_law_310 (by decide) (fun c_2 => ?_) (fun c_2 => ?_)
  · refine v_goto (tgt := 1605) X dL_law_325 (by decide) ?_
    refine v_lv [2, 3, 4, 5, 6] rfl ?_
    refine v_wd (cells' := 100 + 8 * (k + 1)) (slots' := 5000 + 48 * (k + 1)) (by show 100 + 8 * k + 1 ≤ _; omega) (by show 5000 + 48 * k + 6 ≤ _; omega) ?_
    exact hnext _ _ _ hR
  · have hv := hv c_2 F
    refine v_aload_n X dL_law_313 rfl ?_
    refine v_iconst (x := 0) X dL_law_314 rfl ?_
    refine v_lald X 43 2 wA_go rfl (vp_in_nI (n := 0) (by decide) (by decide)) dL_law_315 ?_
    refine v_iload X dL_law_316 rfl ?_
    refine v_i2l X dL_law_318 ?_
    refine v_lcmp X dL_law_319 ?_
    refine v_if_eq (tgt := 325) X dL_law_320 (by decide) (fun c_3 => ?_) (fun c_3 => absurd (show lg_cmp ((f_L_ownerByHistory S (xs (nI (4 * k) + 1).toNatClampNeg) F) 0) (r_X4_ownerByHistory M (xs (nI (4 * k) + 1).toNatClampNeg)).toInt64 = 0 from by rw [hv]; exact lg_self _) c_3)
    refine v_goto (tgt := 1605) X dL_law_325 (by decide) ?_
    refine v_lv [2, 3, 4, 5, 6] rfl ?_
    refine v_wd (cells' := 100 + 8 * (k + 1)) (slots' := 5000 + 48 * (k + 1)) (by show 100 + 8 * k + 1 ≤ _; omega) (by show 5000 + 48 * k + 6 ≤ _; omega) ?_
    exact hnext _ _ _ hR
set_option maxHeartbeats 1000000 in
set_option maxRecDepth 100000 in
theorem law_c3 {p : Program} {e : Env} {s : State} {m : MethodId} {below : List Frame} {meth : Method} {c : Code} {b L : Nat} {xs : Nat → Int32} (l : Launch) (hlt : l.stackTraces = false) (D : va_G) (cI cII cL : ClassId) (h g : Nat → Nat) (o : Nat) (X : v_C p s m #[Value.ref b] c code RL wsL_law 7 D vwCl (tyl cI cII cL) (fun q : Nat => s.heap.size ≤ q)) (hXW : v_XW (fun q : Nat => s.heap.size ≤ q) s) (hX : va_X b L xs s s.heap) (hbl : b < s.heap.size) (S M : St) (F : Nat → Int64) (k : Nat) (hk : 4 * k + 4 ≤ L) (hL : L ≤ 2048) (hRel : Rel k S M) (hnext : ∀ (S' M' : St) (F' : Nat → Int64), Rel (k + 1) S' M' → v_V p l e room_1 s m #[Value.ref b] below meth c D vwCl (fun q : Nat => s.heap.size ≤ q) 7 (lw_Z below #[Value.ref b] s) (100 + 8 * (k + 1)) (5000 + 48 * (k + 1)) (wA h cI cII cL g o S' M' F') 1605 [(4, .int (nI (4 * k))), (3, .ref o), (2, .ref (g 0)), (1, .ref (h 0)), (0, .ref b)] []) : v_V p l e room_1 s m #[Value.ref b] below meth c D vwCl (fun q : Nat => s.heap.size ≤ q) 7 (lw_Z below #[Value.ref b] s) (100 + 8 * k) (5000 + 48 * k) (wA h cI cII cL g o S M F) 328 [(4, .int (nI (4 * k))), (3, .ref o), (2, .ref (g 0)), (1, .ref (h 0)), (0, .ref b)] [] := by
  have hbA : ¬ (fun q : Nat => s.heap.size ≤ q) b := Nat.not_le.mpr hbl
  obtain ⟨hth, hv, hR⟩ := sim_holder hRel (by omega) (xs (nI (4 * k) + 1).toNatClampNeg)
  refine v_aload_n X dL_law_328 rfl ?_
  refine v_aload_n X dL_law_329 rfl ?_
  refine v_iload X dL_law_330 rfl ?_
  refine v_iconst (x := 1) X dL_law_332 rfl ?_
  refine v_iadd X dL_law_333 ?_
  refine v_sld X hX hbl hbA (by rw [ix_n (4 * k) 1 1 rfl]; exact vp_in_nI (by omega) (by omega)) dL_law_334 ?_
  refine v_aload_n X dL_law_335 rfl ?_
  refine v_callLic (As := [.ref (h 0), .int (xs (nI (4 * k) + 1).toNatClampNeg), .ref o]) (rest := []) (w' := (wA h cI cII cL g o S M (f_L_holder S (xs (nI (4 * k) + 1).toNatClampNeg) F))) X hXW (c_L_holder l D cI cII cL hlt h o S (xs (nI (4 * k) + 1).toNatClampNeg) F hRel.hcnt) (vx_cwSW 3 X.2.2.2.1 gL_law_L_holder rfl rfl rfl (by decide +kernel) ⟨Nat.le_of_ble_eq_true rfl, Nat.le_of_ble_eq_true rfl⟩) aC1 aR1 aP1 (cutA1 h cI cII cL g o) rfl rfl (Nat.le_of_ble_eq_true rfl) dL_law_336 ⟨(show _ ≤ 601024 by show 100 + 8 * k + 1 ≤ 601024; omega), (show _ ≤ 7293034 by show 5000 + 48 * k + 6 ≤ 7293034; omega)⟩ ?_
  refine v_istore (lv' := [(5, .int (k_L_holder S (xs (nI (4 * k) + 1).toNatClampNeg))), (4, .int (nI (4 * k))), (3, .ref o), (2, .ref (g 0)), (1, .ref (h 0)), (0, .ref b)]) X dL_law_339 (by decide) rfl ?_
  refine v_aload_n X dL_law_341 rfl ?_
  refine v_aload_n X dL_law_342 rfl ?_
  refine v_iload X dL_law_343 rfl ?_
  refine v_iconst (x := 1) X dL_law_345 rfl ?_
  refine v_iadd X dL_law_346 ?_
  refine v_sld X hX hbl hbA (by rw [ix_n (4 * k) 1 1 rfl]; exact vp_in_nI (by omega) (by omega)) dL_law_347 ?_
  refine v_callVic (As := [.int (xs (nI (4 * k) + 1).toNatClampNeg)]) (rest := []) (w' := (wA h cI cII cL g o S (s_X4_holder M (xs (nI (4 * k) + 1).toNatClampNeg)) (f_L_holder S (xs (nI (4 * k) + 1).toNatClampNeg) F))) X (c_X4_holder l D cI cII cL g M (xs (nI (4 * k) + 1).toNatClampNeg) hRel.hmc) (cwV 1 X.2.2.2.1 gL_law_X4_holder rfl rfl rfl (by decide +kernel) ⟨Nat.le_of_ble_eq_true rfl, Nat.le_of_ble_eq_true rfl⟩) aC3 aR3 aP3 (cutA3 h cI cII cL g o) 0 4 rfl rfl wM_g0 rfl rfl (Nat.le_of_ble_eq_true rfl) dL_law_348 ⟨(show _ ≤ 601024 by show 100 + 8 * k + 1 ≤ 601024; omega), (show _ ≤ 7293034 by show 5000 + 48 * k + 6 ≤ 7293034; omega)⟩ ?_
  refine v_istore (lv' := [(6, .int (r_X4_holder M (xs (nI (4 * k) + 1).toNatClampNeg))), (5, .int (k_L_holder S (xs (nI (4 * k) + 1).toNatClampNeg))), (4, .int (nI (4 * k))), (3, .ref o), (2, .ref (g 0)), (1, .ref (h 0)), (0, .ref b)]) X dL_law_351 (by decide) rfl ?_
  refine v_aload_n X dL_law_353 rfl ?_
  refine v_callVic (As := []) (rest := []) (w' := (wA h cI cII cL g o S (s_X4_holder M (xs (nI (4 * k) + 1).toNatClampNeg)) (f_L_holder S (xs (nI (4 * k) + 1).toNatClampNeg) F))) X (c_X4_thrown l D cI cII cL g (s_X4_holder M (xs (nI (4 * k) + 1).toNatClampNeg))) (cwV 0 X.2.2.2.1 gL_law_X4_thrown rfl rfl rfl (by decide +kernel) ⟨Nat.le_of_ble_eq_true rfl, Nat.le_of_ble_eq_true rfl⟩) aC3 aR3 aP3 (cutA3 h cI cII cL g o) 0 4 rfl rfl wM_g0 rfl rfl (Nat.le_of_ble_eq_true rfl) dL_law_354 ⟨(show _ ≤ 601024 by show 100 + 8 * k + 1 ≤ 601024; omega), (show _ ≤ 7293034 by show 5000 + 48 * k + 6 ≤ 7293034; omega)⟩ ?_
  refine v_iload X dL_law_357 rfl ?_
  refine v_icmp_eq (tgt := 364) X dL_law_359 (by decide) (fun c_1 => ?_) (fun c_1 => absurd hth c_1)
  refine v_iload X dL_law_364 rfl ?_
  refine v_if_ne (tgt := 381) X dL_law_366 (by decide) (fun c_2 => ?_) (fun c_2 => ?_)
  · refine v_goto (tgt := 1605) X dL_law_381 (by decide) ?_
    refine v_lv [2, 3, 4, 5, 6] rfl ?_
    refine v_wd (cells' := 100 + 8 * (k + 1)) (slots' := 5000 + 48 * (k + 1)) (by show 100 + 8 * k + 1 ≤ _; omega) (by show 5000 + 48 * k + 6 ≤ _; omega) ?_
    exact hnext _ _ _ hR
  · have hv := hv c_2 F
    refine v_aload_n X dL_law_369 rfl ?_
    refine v_iconst (x := 0) X dL_law_370 rfl ?_
    refine v_lald X 43 2 wA_go rfl (vp_in_nI (n := 0) (by decide) (by decide)) dL_law_371 ?_
    refine v_iload X dL_law_372 rfl ?_
    refine v_i2l X dL_law_374 ?_
    refine v_lcmp X dL_law_375 ?_
    refine v_if_eq (tgt := 381) X dL_law_376 (by decide) (fun c_3 => ?_) (fun c_3 => absurd (show lg_cmp ((f_L_holder S (xs (nI (4 * k) + 1).toNatClampNeg) F) 0) (r_X4_holder M (xs (nI (4 * k) + 1).toNatClampNeg)).toInt64 = 0 from by rw [hv]; exact lg_self _) c_3)
    refine v_goto (tgt := 1605) X dL_law_381 (by decide) ?_
    refine v_lv [2, 3, 4, 5, 6] rfl ?_
    refine v_wd (cells' := 100 + 8 * (k + 1)) (slots' := 5000 + 48 * (k + 1)) (by show 100 + 8 * k + 1 ≤ _; omega) (by show 5000 + 48 * k + 6 ≤ _; omega) ?_
    exact hnext _ _ _ hR
set_option maxHeartbeats 1000000 in
set_option maxRecDepth 100000 in
theorem law_c4 {p : Program} {e : Env} {s : State} {m : MethodId} {below : List Frame} {meth : Method} {c : Code} {b L : Nat} {xs : Nat → Int32} (l : Launch) (hlt : l.stackTraces = false) (D : va_G) (cI cII cL : ClassId) (h g : Nat → Nat) (o : Nat) (X : v_C p s m #[Value.ref b] c code RL wsL_law 7 D vwCl (tyl cI cII cL) (fun q : Nat => s.heap.size ≤ q)) (hXW : v_XW (fun q : Nat => s.heap.size ≤ q) s) (hX : va_X b L xs s s.heap) (hbl : b < s.heap.size) (S M : St) (F : Nat → Int64) (k : Nat) (hk : 4 * k + 4 ≤ L) (hL : L ≤ 2048) (hRel : Rel k S M) (hnext : ∀ (S' M' : St) (F' : Nat → Int64), Rel (k + 1) S' M' → v_V p l e room_1 s m #[Value.ref b] below meth c D vwCl (fun q : Nat => s.heap.size ≤ q) 7 (lw_Z below #[Value.ref b] s) (100 + 8 * (k + 1)) (5000 + 48 * (k + 1)) (wA h cI cII cL g o S' M' F') 1605 [(4, .int (nI (4 * k))), (3, .ref o), (2, .ref (g 0)), (1, .ref (h 0)), (0, .ref b)] []) : v_V p l e room_1 s m #[Value.ref b] below meth c D vwCl (fun q : Nat => s.heap.size ≤ q) 7 (lw_Z below #[Value.ref b] s) (100 + 8 * k) (5000 + 48 * k) (wA h cI cII cL g o S M F) 384 [(4, .int (nI (4 * k))), (3, .ref o), (2, .ref (g 0)), (1, .ref (h 0)), (0, .ref b)] [] := by
  have hbA : ¬ (fun q : Nat => s.heap.size ≤ q) b := Nat.not_le.mpr hbl
  obtain ⟨hth, hv, hR⟩ := sim_stateOf hRel (by omega) (xs (nI (4 * k) + 1).toNatClampNeg)
  refine v_aload_n X dL_law_384 rfl ?_
  refine v_aload_n X dL_law_385 rfl ?_
  refine v_iload X dL_law_386 rfl ?_
  refine v_iconst (x := 1) X dL_law_388 rfl ?_
  refine v_iadd X dL_law_389 ?_
  refine v_sld X hX hbl hbA (by rw [ix_n (4 * k) 1 1 rfl]; exact vp_in_nI (by omega) (by omega)) dL_law_390 ?_
  refine v_aload_n X dL_law_391 rfl ?_
  refine v_callLic (As := [.ref (h 0), .int (xs (nI (4 * k) + 1).toNatClampNeg), .ref o]) (rest := []) (w' := (wA h cI cII cL g o S M (f_L_stateOf S (xs (nI (4 * k) + 1).toNatClampNeg) F))) X hXW (c_L_stateOf l D cI cII cL hlt h o S (xs (nI (4 * k) + 1).toNatClampNeg) F hRel.hcnt) (vx_cwSW 3 X.2.2.2.1 gL_law_L_stateOf rfl rfl rfl (by decide +kernel) ⟨Nat.le_of_ble_eq_true rfl, Nat.le_of_ble_eq_true rfl⟩) aC1 aR1 aP1 (cutA1 h cI cII cL g o) rfl rfl (Nat.le_of_ble_eq_true rfl) dL_law_392 ⟨(show _ ≤ 601024 by show 100 + 8 * k + 1 ≤ 601024; omega), (show _ ≤ 7293034 by show 5000 + 48 * k + 6 ≤ 7293034; omega)⟩ ?_
  refine v_istore (lv' := [(5, .int (k_L_stateOf S (xs (nI (4 * k) + 1).toNatClampNeg))), (4, .int (nI (4 * k))), (3, .ref o), (2, .ref (g 0)), (1, .ref (h 0)), (0, .ref b)]) X dL_law_395 (by decide) rfl ?_
  refine v_aload_n X dL_law_397 rfl ?_
  refine v_aload_n X dL_law_398 rfl ?_
  refine v_iload X dL_law_399 rfl ?_
  refine v_iconst (x := 1) X dL_law_401 rfl ?_
  refine v_iadd X dL_law_402 ?_
  refine v_sld X hX hbl hbA (by rw [ix_n (4 * k) 1 1 rfl]; exact vp_in_nI (by omega) (by omega)) dL_law_403 ?_
  refine v_callVic (As := [.int (xs (nI (4 * k) + 1).toNatClampNeg)]) (rest := []) (w' := (wA h cI cII cL g o S (s_X4_stateOf M (xs (nI (4 * k) + 1).toNatClampNeg)) (f_L_stateOf S (xs (nI (4 * k) + 1).toNatClampNeg) F))) X (c_X4_stateOf l D cI cII cL g M (xs (nI (4 * k) + 1).toNatClampNeg) hRel.hmc) (cwV 1 X.2.2.2.1 gL_law_X4_stateOf rfl rfl rfl (by decide +kernel) ⟨Nat.le_of_ble_eq_true rfl, Nat.le_of_ble_eq_true rfl⟩) aC3 aR3 aP3 (cutA3 h cI cII cL g o) 0 4 rfl rfl wM_g0 rfl rfl (Nat.le_of_ble_eq_true rfl) dL_law_404 ⟨(show _ ≤ 601024 by show 100 + 8 * k + 1 ≤ 601024; omega), (show _ ≤ 7293034 by show 5000 + 48 * k + 6 ≤ 7293034; omega)⟩ ?_
  refine v_istore (lv' := [(6, .int (r_X4_stateOf M (xs (nI (4 * k) + 1).toNatClampNeg))), (5, .int (k_L_stateOf S (xs (nI (4 * k) + 1).toNatClampNeg))), (4, .int (nI (4 * k))), (3, .ref o), (2, .ref (g 0)), (1, .ref (h 0)), (0, .ref b)]) X dL_law_407 (by decide) rfl ?_
  refine v_aload_n X dL_law_409 rfl ?_
  refine v_callVic (As := []) (rest := []) (w' := (wA h cI cII cL g o S (s_X4_stateOf M (xs (nI (4 * k) + 1).toNatClampNeg)) (f_L_stateOf S (xs (nI (4 * k) + 1).toNatClampNeg) F))) X (c_X4_thrown l D cI cII cL g (s_X4_stateOf M (xs (nI (4 * k) + 1).toNatClampNeg))) (cwV 0 X.2.2.2.1 gL_law_X4_thrown rfl rfl rfl (by decide +kernel) ⟨Nat.le_of_ble_eq_true rfl, Nat.le_of_ble_eq_true rfl⟩) aC3 aR3 aP3 (cutA3 h cI cII cL g o) 0 4 rfl rfl wM_g0 rfl rfl (Nat.le_of_ble_eq_true rfl) dL_law_410 ⟨(show _ ≤ 601024 by show 100 + 8 * k + 1 ≤ 601024; omega), (show _ ≤ 7293034 by show 5000 + 48 * k + 6 ≤ 7293034; omega)⟩ ?_
  refine v_iload X dL_law_413 rfl ?_
  refine v_icmp_eq (tgt := 420) X dL_law_415 (by decide) (fun c_1 => ?_) (fun c_1 => absurd hth c_1)
  refine v_iload X dL_law_420 rfl ?_
  refine v_if_ne (tgt := 437) X dL_law_422 (by decide) (fun c_2 => ?_) (fun c_2 => ?_)
  · refine v_goto (tgt := 1605) X dL_law_437 (by decide) ?_
    refine v_lv [2, 3, 4, 5, 6] rfl ?_
    refine v_wd (cells' := 100 + 8 * (k + 1)) (slots' := 5000 + 48 * (k + 1)) (by show 100 + 8 * k + 1 ≤ _; omega) (by show 5000 + 48 * k + 6 ≤ _; omega) ?_
    exact hnext _ _ _ hR
  · have hv := hv c_2 F
    refine v_aload_n X dL_law_425 rfl ?_
    refine v_iconst (x := 0) X dL_law_426 rfl ?_
    refine v_lald X 43 2 wA_go rfl (vp_in_nI (n := 0) (by decide) (by decide)) dL_law_427 ?_
    refine v_iload X dL_law_428 rfl ?_
    refine v_i2l X dL_law_430 ?_
    refine v_lcmp X dL_law_431 ?_
    refine v_if_eq (tgt := 437) X dL_law_432 (by decide) (fun c_3 => ?_) (fun c_3 => absurd (show lg_cmp ((f_L_stateOf S (xs (nI (4 * k) + 1).toNatClampNeg) F) 0) (r_X4_stateOf M (xs (nI (4 * k) + 1).toNatClampNeg)).toInt64 = 0 from by rw [hv]; exact lg_self _) c_3)
    refine v_goto (tgt := 1605) X dL_law_437 (by decide) ?_
    refine v_lv [2, 3, 4, 5, 6] rfl ?_
    refine v_wd (cells' := 100 + 8 * (k + 1)) (slots' := 5000 + 48 * (k + 1)) (by show 100 + 8 * k + 1 ≤ _; omega) (by show 5000 + 48 * k + 6 ≤ _; omega) ?_
    exact hnext _ _ _ hR
set_option maxHeartbeats 1000000 in
set_option maxRecDepth 100000 in
theorem law_c5 {p : Program} {e : Env} {s : State} {m : MethodId} {below : List Frame} {meth : Method} {c : Code} {b L : Nat} {xs : Nat → Int32} (l : Launch) (hlt : l.stackTraces = false) (D : va_G) (cI cII cL : ClassId) (h g : Nat → Nat) (o : Nat) (X : v_C p s m #[Value.ref b] c code RL wsL_law 7 D vwCl (tyl cI cII cL) (fun q : Nat => s.heap.size ≤ q)) (hXW : v_XW (fun q : Nat => s.heap.size ≤ q) s) (hX : va_X b L xs s s.heap) (hbl : b < s.heap.size) (S M : St) (F : Nat → Int64) (k : Nat) (hk : 4 * k + 4 ≤ L) (hL : L ≤ 2048) (hRel : Rel k S M) (hnext : ∀ (S' M' : St) (F' : Nat → Int64), Rel (k + 1) S' M' → v_V p l e room_1 s m #[Value.ref b] below meth c D vwCl (fun q : Nat => s.heap.size ≤ q) 7 (lw_Z below #[Value.ref b] s) (100 + 8 * (k + 1)) (5000 + 48 * (k + 1)) (wA h cI cII cL g o S' M' F') 1605 [(4, .int (nI (4 * k))), (3, .ref o), (2, .ref (g 0)), (1, .ref (h 0)), (0, .ref b)] []) : v_V p l e room_1 s m #[Value.ref b] below meth c D vwCl (fun q : Nat => s.heap.size ≤ q) 7 (lw_Z below #[Value.ref b] s) (100 + 8 * k) (5000 + 48 * k) (wA h cI cII cL g o S M F) 440 [(4, .int (nI (4 * k))), (3, .ref o), (2, .ref (g 0)), (1, .ref (h 0)), (0, .ref b)] [] := by
  have hbA : ¬ (fun q : Nat => s.heap.size ≤ q) b := Nat.not_le.mpr hbl
  obtain ⟨hth, hv, hR⟩ := sim_coins hRel (by omega) (xs (nI (4 * k) + 1).toNatClampNeg)
  refine v_aload_n X dL_law_440 rfl ?_
  refine v_aload_n X dL_law_441 rfl ?_
  refine v_iload X dL_law_442 rfl ?_
  refine v_iconst (x := 1) X dL_law_444 rfl ?_
  refine v_iadd X dL_law_445 ?_
  refine v_sld X hX hbl hbA (by rw [ix_n (4 * k) 1 1 rfl]; exact vp_in_nI (by omega) (by omega)) dL_law_446 ?_
  refine v_aload_n X dL_law_447 rfl ?_
  refine v_callLic (As := [.ref (h 0), .int (xs (nI (4 * k) + 1).toNatClampNeg), .ref o]) (rest := []) (w' := (wA h cI cII cL g o S M (f_L_coins S (xs (nI (4 * k) + 1).toNatClampNeg) F))) X hXW (c_L_coins l D cI cII cL hlt h o S (xs (nI (4 * k) + 1).toNatClampNeg) F ) (vx_cwSW 3 X.2.2.2.1 gL_law_L_coins rfl rfl rfl (by decide +kernel) ⟨Nat.le_of_ble_eq_true rfl, Nat.le_of_ble_eq_true rfl⟩) aC1 aR1 aP1 (cutA1 h cI cII cL g o) rfl rfl (Nat.le_of_ble_eq_true rfl) dL_law_448 ⟨(show _ ≤ 601024 by show 100 + 8 * k + 1 ≤ 601024; omega), (show _ ≤ 7293034 by show 5000 + 48 * k + 6 ≤ 7293034; omega)⟩ ?_
  refine v_istore (lv' := [(5, .int (k_L_coins S (xs (nI (4 * k) + 1).toNatClampNeg))), (4, .int (nI (4 * k))), (3, .ref o), (2, .ref (g 0)), (1, .ref (h 0)), (0, .ref b)]) X dL_law_451 (by decide) rfl ?_
  refine v_aload_n X dL_law_453 rfl ?_
  refine v_aload_n X dL_law_454 rfl ?_
  refine v_iload X dL_law_455 rfl ?_
  refine v_iconst (x := 1) X dL_law_457 rfl ?_
  refine v_iadd X dL_law_458 ?_
  refine v_sld X hX hbl hbA (by rw [ix_n (4 * k) 1 1 rfl]; exact vp_in_nI (by omega) (by omega)) dL_law_459 ?_
  refine v_callVic (As := [.int (xs (nI (4 * k) + 1).toNatClampNeg)]) (rest := []) (w' := (wA h cI cII cL g o S (s_X4_coins M (xs (nI (4 * k) + 1).toNatClampNeg)) (f_L_coins S (xs (nI (4 * k) + 1).toNatClampNeg) F))) X (c_X4_coins l D cI cII cL g M (xs (nI (4 * k) + 1).toNatClampNeg) ) (cwV 1 X.2.2.2.1 gL_law_X4_coins rfl rfl rfl (by decide +kernel) ⟨Nat.le_of_ble_eq_true rfl, Nat.le_of_ble_eq_true rfl⟩) aC3 aR3 aP3 (cutA3 h cI cII cL g o) 0 4 rfl rfl wM_g0 rfl rfl (Nat.le_of_ble_eq_true rfl) dL_law_460 ⟨(show _ ≤ 601024 by show 100 + 8 * k + 1 ≤ 601024; omega), (show _ ≤ 7293034 by show 5000 + 48 * k + 6 ≤ 7293034; omega)⟩ ?_
  refine v_istore (lv' := [(6, .int (r_X4_coins M (xs (nI (4 * k) + 1).toNatClampNeg))), (5, .int (k_L_coins S (xs (nI (4 * k) + 1).toNatClampNeg))), (4, .int (nI (4 * k))), (3, .ref o), (2, .ref (g 0)), (1, .ref (h 0)), (0, .ref b)]) X dL_law_463 (by decide) rfl ?_
  refine v_aload_n X dL_law_465 rfl ?_
  refine v_callVic (As := []) (rest := []) (w' := (wA h cI cII cL g o S (s_X4_coins M (xs (nI (4 * k) + 1).toNatClampNeg)) (f_L_coins S (xs (nI (4 * k) + 1).toNatClampNeg) F))) X (c_X4_thrown l D cI cII cL g (s_X4_coins M (xs (nI (4 * k) + 1).toNatClampNeg))) (cwV 0 X.2.2.2.1 gL_law_X4_thrown rfl rfl rfl (by decide +kernel) ⟨Nat.le_of_ble_eq_true rfl, Nat.le_of_ble_eq_true rfl⟩) aC3 aR3 aP3 (cutA3 h cI cII cL g o) 0 4 rfl rfl wM_g0 rfl rfl (Nat.le_of_ble_eq_true rfl) dL_law_466 ⟨(show _ ≤ 601024 by show 100 + 8 * k + 1 ≤ 601024; omega), (show _ ≤ 7293034 by show 5000 + 48 * k + 6 ≤ 7293034; omega)⟩ ?_
  refine v_iload X dL_law_469 rfl ?_
  refine v_icmp_eq (tgt := 476) X dL_law_471 (by decide) (fun c_1 => ?_) (fun c_1 => absurd hth c_1)
  refine v_iload X dL_law_476 rfl ?_
  refine v_if_ne (tgt := 493) X dL_law_478 (by decide) (fun c_2 => ?_) (fun c_2 => ?_)
  · refine v_goto (tgt := 1605) X dL_law_493 (by decide) ?_
    refine v_lv [2, 3, 4, 5, 6] rfl ?_
    refine v_wd (cells' := 100 + 8 * (k + 1)) (slots' := 5000 + 48 * (k + 1)) (by show 100 + 8 * k + 1 ≤ _; omega) (by show 5000 + 48 * k + 6 ≤ _; omega) ?_
    exact hnext _ _ _ hR
  · have hv := hv c_2 F
    refine v_aload_n X dL_law_481 rfl ?_
    refine v_iconst (x := 0) X dL_law_482 rfl ?_
    refine v_lald X 43 2 wA_go rfl (vp_in_nI (n := 0) (by decide) (by decide)) dL_law_483 ?_
    refine v_iload X dL_law_484 rfl ?_
    refine v_i2l X dL_law_486 ?_
    refine v_lcmp X dL_law_487 ?_
    refine v_if_eq (tgt := 493) X dL_law_488 (by decide) (fun c_3 => ?_) (fun c_3 => absurd (show lg_cmp ((f_L_coins S (xs (nI (4 * k) + 1).toNatClampNeg) F) 0) (r_X4_coins M (xs (nI (4 * k) + 1).toNatClampNeg)).toInt64 = 0 from by rw [hv]; exact lg_self _) c_3)
    refine v_goto (tgt := 1605) X dL_law_493 (by decide) ?_
    refine v_lv [2, 3, 4, 5, 6] rfl ?_
    refine v_wd (cells' := 100 + 8 * (k + 1)) (slots' := 5000 + 48 * (k + 1)) (by show 100 + 8 * k + 1 ≤ _; omega) (by show 5000 + 48 * k + 6 ≤ _; omega) ?_
    exact hnext _ _ _ hR
set_option maxHeartbeats 1000000 in
set_option maxRecDepth 100000 in
theorem law_c6 {p : Program} {e : Env} {s : State} {m : MethodId} {below : List Frame} {meth : Method} {c : Code} {b L : Nat} {xs : Nat → Int32} (l : Launch) (hlt : l.stackTraces = false) (D : va_G) (cI cII cL : ClassId) (h g : Nat → Nat) (o : Nat) (X : v_C p s m #[Value.ref b] c code RL wsL_law 7 D vwCl (tyl cI cII cL) (fun q : Nat => s.heap.size ≤ q)) (hXW : v_XW (fun q : Nat => s.heap.size ≤ q) s) (hX : va_X b L xs s s.heap) (hbl : b < s.heap.size) (S M : St) (F : Nat → Int64) (k : Nat) (hk : 4 * k + 4 ≤ L) (hL : L ≤ 2048) (hRel : Rel k S M) (hnext : ∀ (S' M' : St) (F' : Nat → Int64), Rel (k + 1) S' M' → v_V p l e room_1 s m #[Value.ref b] below meth c D vwCl (fun q : Nat => s.heap.size ≤ q) 7 (lw_Z below #[Value.ref b] s) (100 + 8 * (k + 1)) (5000 + 48 * (k + 1)) (wA h cI cII cL g o S' M' F') 1605 [(4, .int (nI (4 * k))), (3, .ref o), (2, .ref (g 0)), (1, .ref (h 0)), (0, .ref b)] []) : v_V p l e room_1 s m #[Value.ref b] below meth c D vwCl (fun q : Nat => s.heap.size ≤ q) 7 (lw_Z below #[Value.ref b] s) (100 + 8 * k) (5000 + 48 * k) (wA h cI cII cL g o S M F) 496 [(4, .int (nI (4 * k))), (3, .ref o), (2, .ref (g 0)), (1, .ref (h 0)), (0, .ref b)] [] := by
  have hbA : ¬ (fun q : Nat => s.heap.size ≤ q) b := Nat.not_le.mpr hbl
  obtain ⟨hth, hv, hR⟩ := sim_sell hRel (by omega) (xs (nI (4 * k) + 1).toNatClampNeg) (xs (nI (4 * k) + 2).toNatClampNeg)
  refine v_aload_n X dL_law_496 rfl ?_
  refine v_aload_n X dL_law_497 rfl ?_
  refine v_iload X dL_law_498 rfl ?_
  refine v_iconst (x := 1) X dL_law_500 rfl ?_
  refine v_iadd X dL_law_501 ?_
  refine v_sld X hX hbl hbA (by rw [ix_n (4 * k) 1 1 rfl]; exact vp_in_nI (by omega) (by omega)) dL_law_502 ?_
  refine v_aload_n X dL_law_503 rfl ?_
  refine v_iload X dL_law_504 rfl ?_
  refine v_iconst (x := 2) X dL_law_506 rfl ?_
  refine v_iadd X dL_law_507 ?_
  refine v_sld X hX hbl hbA (by rw [ix_n (4 * k) 2 2 rfl]; exact vp_in_nI (by omega) (by omega)) dL_law_508 ?_
  refine v_aload_n X dL_law_509 rfl ?_
  refine v_callLic (As := [.ref (h 0), .int (xs (nI (4 * k) + 1).toNatClampNeg), .int (xs (nI (4 * k) + 2).toNatClampNeg), .ref o]) (rest := []) (w' := (wA h cI cII cL g o (s_L_sell S (xs (nI (4 * k) + 1).toNatClampNeg) (xs (nI (4 * k) + 2).toNatClampNeg)) M (f_L_sell S (xs (nI (4 * k) + 1).toNatClampNeg) (xs (nI (4 * k) + 2).toNatClampNeg) F))) X hXW (c_L_sell l D cI cII cL hlt h o S (xs (nI (4 * k) + 1).toNatClampNeg) (xs (nI (4 * k) + 2).toNatClampNeg) F hRel.hcnt hRel.hhis hRel.hkin hRel.hown) (vx_cwSW 4 X.2.2.2.1 gL_law_L_sell rfl rfl rfl (by decide +kernel) ⟨Nat.le_of_ble_eq_true rfl, Nat.le_of_ble_eq_true rfl⟩) aC1 aR1 aP1 (cutA1 h cI cII cL g o) rfl rfl (Nat.le_of_ble_eq_true rfl) dL_law_510 ⟨(show _ ≤ 601024 by show 100 + 8 * k + 3 ≤ 601024; omega), (show _ ≤ 7293034 by show 5000 + 48 * k + 18 ≤ 7293034; omega)⟩ ?_
  refine v_istore (lv' := [(5, .int (k_L_sell S (xs (nI (4 * k) + 1).toNatClampNeg) (xs (nI (4 * k) + 2).toNatClampNeg))), (4, .int (nI (4 * k))), (3, .ref o), (2, .ref (g 0)), (1, .ref (h 0)), (0, .ref b)]) X dL_law_513 (by decide) rfl ?_
  refine v_aload_n X dL_law_515 rfl ?_
  refine v_aload_n X dL_law_516 rfl ?_
  refine v_iload X dL_law_517 rfl ?_
  refine v_iconst (x := 1) X dL_law_519 rfl ?_
  refine v_iadd X dL_law_520 ?_
  refine v_sld X hX hbl hbA (by rw [ix_n (4 * k) 1 1 rfl]; exact vp_in_nI (by omega) (by omega)) dL_law_521 ?_
  refine v_aload_n X dL_law_522 rfl ?_
  refine v_iload X dL_law_523 rfl ?_
  refine v_iconst (x := 2) X dL_law_525 rfl ?_
  refine v_iadd X dL_law_526 ?_
  refine v_sld X hX hbl hbA (by rw [ix_n (4 * k) 2 2 rfl]; exact vp_in_nI (by omega) (by omega)) dL_law_527 ?_
  refine v_callVic (As := [.int (xs (nI (4 * k) + 1).toNatClampNeg), .int (xs (nI (4 * k) + 2).toNatClampNeg)]) (rest := []) (w' := (wA h cI cII cL g o (s_L_sell S (xs (nI (4 * k) + 1).toNatClampNeg) (xs (nI (4 * k) + 2).toNatClampNeg)) (s_X4_sell M (xs (nI (4 * k) + 1).toNatClampNeg) (xs (nI (4 * k) + 2).toNatClampNeg)) (f_L_sell S (xs (nI (4 * k) + 1).toNatClampNeg) (xs (nI (4 * k) + 2).toNatClampNeg) F))) X (c_X4_sell l D cI cII cL g M (xs (nI (4 * k) + 1).toNatClampNeg) (xs (nI (4 * k) + 2).toNatClampNeg) hRel.hmc hRel.hmkin hRel.hmown) (cwV 2 X.2.2.2.1 gL_law_X4_sell rfl rfl rfl (by decide +kernel) ⟨Nat.le_of_ble_eq_true rfl, Nat.le_of_ble_eq_true rfl⟩) aC3 aR3 aP3 (cutA3 h cI cII cL g o) 0 4 rfl rfl wM_g0 rfl rfl (Nat.le_of_ble_eq_true rfl) dL_law_528 ⟨(show _ ≤ 601024 by show 100 + 8 * k + 3 ≤ 601024; omega), (show _ ≤ 7293034 by show 5000 + 48 * k + 18 ≤ 7293034; omega)⟩ ?_
  refine v_istore (lv' := [(6, .int (r_X4_sell M (xs (nI (4 * k) + 1).toNatClampNeg) (xs (nI (4 * k) + 2).toNatClampNeg))), (5, .int (k_L_sell S (xs (nI (4 * k) + 1).toNatClampNeg) (xs (nI (4 * k) + 2).toNatClampNeg))), (4, .int (nI (4 * k))), (3, .ref o), (2, .ref (g 0)), (1, .ref (h 0)), (0, .ref b)]) X dL_law_531 (by decide) rfl ?_
  refine v_aload_n X dL_law_533 rfl ?_
  refine v_callVic (As := []) (rest := []) (w' := (wA h cI cII cL g o (s_L_sell S (xs (nI (4 * k) + 1).toNatClampNeg) (xs (nI (4 * k) + 2).toNatClampNeg)) (s_X4_sell M (xs (nI (4 * k) + 1).toNatClampNeg) (xs (nI (4 * k) + 2).toNatClampNeg)) (f_L_sell S (xs (nI (4 * k) + 1).toNatClampNeg) (xs (nI (4 * k) + 2).toNatClampNeg) F))) X (c_X4_thrown l D cI cII cL g (s_X4_sell M (xs (nI (4 * k) + 1).toNatClampNeg) (xs (nI (4 * k) + 2).toNatClampNeg))) (cwV 0 X.2.2.2.1 gL_law_X4_thrown rfl rfl rfl (by decide +kernel) ⟨Nat.le_of_ble_eq_true rfl, Nat.le_of_ble_eq_true rfl⟩) aC3 aR3 aP3 (cutA3 h cI cII cL g o) 0 4 rfl rfl wM_g0 rfl rfl (Nat.le_of_ble_eq_true rfl) dL_law_534 ⟨(show _ ≤ 601024 by show 100 + 8 * k + 3 ≤ 601024; omega), (show _ ≤ 7293034 by show 5000 + 48 * k + 18 ≤ 7293034; omega)⟩ ?_
  refine v_iload X dL_law_537 rfl ?_
  refine v_icmp_eq (tgt := 544) X dL_law_539 (by decide) (fun c_1 => ?_) (fun c_1 => absurd hth c_1)
  refine v_iload X dL_law_544 rfl ?_
  refine v_if_ne (tgt := 561) X dL_law_546 (by decide) (fun c_2 => ?_) (fun c_2 => ?_)
  · refine v_goto (tgt := 1605) X dL_law_561 (by decide) ?_
    refine v_lv [2, 3, 4, 5, 6] rfl ?_
    refine v_wd (cells' := 100 + 8 * (k + 1)) (slots' := 5000 + 48 * (k + 1)) (by show 100 + 8 * k + 3 ≤ _; omega) (by show 5000 + 48 * k + 18 ≤ _; omega) ?_
    exact hnext _ _ _ hR
  · have hv := hv c_2 F
    refine v_aload_n X dL_law_549 rfl ?_
    refine v_iconst (x := 0) X dL_law_550 rfl ?_
    refine v_lald X 43 2 wA_go rfl (vp_in_nI (n := 0) (by decide) (by decide)) dL_law_551 ?_
    refine v_iload X dL_law_552 rfl ?_
    refine v_i2l X dL_law_554 ?_
    refine v_lcmp X dL_law_555 ?_
    refine v_if_eq (tgt := 561) X dL_law_556 (by decide) (fun c_3 => ?_) (fun c_3 => absurd (show lg_cmp ((f_L_sell S (xs (nI (4 * k) + 1).toNatClampNeg) (xs (nI (4 * k) + 2).toNatClampNeg) F) 0) (r_X4_sell M (xs (nI (4 * k) + 1).toNatClampNeg) (xs (nI (4 * k) + 2).toNatClampNeg)).toInt64 = 0 from by rw [hv]; exact lg_self _) c_3)
    refine v_goto (tgt := 1605) X dL_law_561 (by decide) ?_
    refine v_lv [2, 3, 4, 5, 6] rfl ?_
    refine v_wd (cells' := 100 + 8 * (k + 1)) (slots' := 5000 + 48 * (k + 1)) (by show 100 + 8 * k + 3 ≤ _; omega) (by show 5000 + 48 * k + 18 ≤ _; omega) ?_
    exact hnext _ _ _ hR
set_option maxHeartbeats 1000000 in
set_option maxRecDepth 100000 in
theorem law_c7 {p : Program} {e : Env} {s : State} {m : MethodId} {below : List Frame} {meth : Method} {c : Code} {b L : Nat} {xs : Nat → Int32} (l : Launch) (hlt : l.stackTraces = false) (D : va_G) (cI cII cL : ClassId) (h g : Nat → Nat) (o : Nat) (X : v_C p s m #[Value.ref b] c code RL wsL_law 7 D vwCl (tyl cI cII cL) (fun q : Nat => s.heap.size ≤ q)) (hXW : v_XW (fun q : Nat => s.heap.size ≤ q) s) (hX : va_X b L xs s s.heap) (hbl : b < s.heap.size) (S M : St) (F : Nat → Int64) (k : Nat) (hk : 4 * k + 4 ≤ L) (hL : L ≤ 2048) (hRel : Rel k S M) (hnext : ∀ (S' M' : St) (F' : Nat → Int64), Rel (k + 1) S' M' → v_V p l e room_1 s m #[Value.ref b] below meth c D vwCl (fun q : Nat => s.heap.size ≤ q) 7 (lw_Z below #[Value.ref b] s) (100 + 8 * (k + 1)) (5000 + 48 * (k + 1)) (wA h cI cII cL g o S' M' F') 1605 [(4, .int (nI (4 * k))), (3, .ref o), (2, .ref (g 0)), (1, .ref (h 0)), (0, .ref b)] []) : v_V p l e room_1 s m #[Value.ref b] below meth c D vwCl (fun q : Nat => s.heap.size ≤ q) 7 (lw_Z below #[Value.ref b] s) (100 + 8 * k) (5000 + 48 * k) (wA h cI cII cL g o S M F) 564 [(4, .int (nI (4 * k))), (3, .ref o), (2, .ref (g 0)), (1, .ref (h 0)), (0, .ref b)] [] := by
  have hbA : ¬ (fun q : Nat => s.heap.size ≤ q) b := Nat.not_le.mpr hbl
  obtain ⟨hth, hv, hR⟩ := sim_bid hRel (by omega) (xs (nI (4 * k) + 1).toNatClampNeg) (xs (nI (4 * k) + 2).toNatClampNeg) (xs (nI (4 * k) + 3).toNatClampNeg)
  refine v_aload_n X dL_law_564 rfl ?_
  refine v_aload_n X dL_law_565 rfl ?_
  refine v_iload X dL_law_566 rfl ?_
  refine v_iconst (x := 1) X dL_law_568 rfl ?_
  refine v_iadd X dL_law_569 ?_
  refine v_sld X hX hbl hbA (by rw [ix_n (4 * k) 1 1 rfl]; exact vp_in_nI (by omega) (by omega)) dL_law_570 ?_
  refine v_aload_n X dL_law_571 rfl ?_
  refine v_iload X dL_law_572 rfl ?_
  refine v_iconst (x := 2) X dL_law_574 rfl ?_
  refine v_iadd X dL_law_575 ?_
  refine v_sld X hX hbl hbA (by rw [ix_n (4 * k) 2 2 rfl]; exact vp_in_nI (by omega) (by omega)) dL_law_576 ?_
  refine v_aload_n X dL_law_577 rfl ?_
  refine v_iload X dL_law_578 rfl ?_
  refine v_iconst (x := 3) X dL_law_580 rfl ?_
  refine v_iadd X dL_law_581 ?_
  refine v_sld X hX hbl hbA (by rw [ix_n (4 * k) 3 3 rfl]; exact vp_in_nI (by omega) (by omega)) dL_law_582 ?_
  refine v_aload_n X dL_law_583 rfl ?_
  refine v_callLic (As := [.ref (h 0), .int (xs (nI (4 * k) + 1).toNatClampNeg), .int (xs (nI (4 * k) + 2).toNatClampNeg), .int (xs (nI (4 * k) + 3).toNatClampNeg), .ref o]) (rest := []) (w' := (wA h cI cII cL g o (s_L_bid S (xs (nI (4 * k) + 1).toNatClampNeg) (xs (nI (4 * k) + 2).toNatClampNeg) (xs (nI (4 * k) + 3).toNatClampNeg)) M (f_L_bid S (xs (nI (4 * k) + 1).toNatClampNeg) (xs (nI (4 * k) + 2).toNatClampNeg) (xs (nI (4 * k) + 3).toNatClampNeg) F))) X hXW (c_L_bid l D cI cII cL hlt h o S (xs (nI (4 * k) + 1).toNatClampNeg) (xs (nI (4 * k) + 2).toNatClampNeg) (xs (nI (4 * k) + 3).toNatClampNeg) F hRel.hcnt hRel.hhis hRel.hown) (vx_cwSW 5 X.2.2.2.1 gL_law_L_bid rfl rfl rfl (by decide +kernel) ⟨Nat.le_of_ble_eq_true rfl, Nat.le_of_ble_eq_true rfl⟩) aC1 aR1 aP1 (cutA1 h cI cII cL g o) rfl rfl (Nat.le_of_ble_eq_true rfl) dL_law_584 ⟨(show _ ≤ 601024 by show 100 + 8 * k + 4 ≤ 601024; omega), (show _ ≤ 7293034 by show 5000 + 48 * k + 24 ≤ 7293034; omega)⟩ ?_
  refine v_istore (lv' := [(5, .int (k_L_bid S (xs (nI (4 * k) + 1).toNatClampNeg) (xs (nI (4 * k) + 2).toNatClampNeg) (xs (nI (4 * k) + 3).toNatClampNeg))), (4, .int (nI (4 * k))), (3, .ref o), (2, .ref (g 0)), (1, .ref (h 0)), (0, .ref b)]) X dL_law_587 (by decide) rfl ?_
  refine v_aload_n X dL_law_589 rfl ?_
  refine v_aload_n X dL_law_590 rfl ?_
  refine v_iload X dL_law_591 rfl ?_
  refine v_iconst (x := 1) X dL_law_593 rfl ?_
  refine v_iadd X dL_law_594 ?_
  refine v_sld X hX hbl hbA (by rw [ix_n (4 * k) 1 1 rfl]; exact vp_in_nI (by omega) (by omega)) dL_law_595 ?_
  refine v_aload_n X dL_law_596 rfl ?_
  refine v_iload X dL_law_597 rfl ?_
  refine v_iconst (x := 2) X dL_law_599 rfl ?_
  refine v_iadd X dL_law_600 ?_
  refine v_sld X hX hbl hbA (by rw [ix_n (4 * k) 2 2 rfl]; exact vp_in_nI (by omega) (by omega)) dL_law_601 ?_
  refine v_aload_n X dL_law_602 rfl ?_
  refine v_iload X dL_law_603 rfl ?_
  refine v_iconst (x := 3) X dL_law_605 rfl ?_
  refine v_iadd X dL_law_606 ?_
  refine v_sld X hX hbl hbA (by rw [ix_n (4 * k) 3 3 rfl]; exact vp_in_nI (by omega) (by omega)) dL_law_607 ?_
  refine v_callVic (As := [.int (xs (nI (4 * k) + 1).toNatClampNeg), .int (xs (nI (4 * k) + 2).toNatClampNeg), .int (xs (nI (4 * k) + 3).toNatClampNeg)]) (rest := []) (w' := (wA h cI cII cL g o (s_L_bid S (xs (nI (4 * k) + 1).toNatClampNeg) (xs (nI (4 * k) + 2).toNatClampNeg) (xs (nI (4 * k) + 3).toNatClampNeg)) (s_X4_bid M (xs (nI (4 * k) + 1).toNatClampNeg) (xs (nI (4 * k) + 2).toNatClampNeg) (xs (nI (4 * k) + 3).toNatClampNeg)) (f_L_bid S (xs (nI (4 * k) + 1).toNatClampNeg) (xs (nI (4 * k) + 2).toNatClampNeg) (xs (nI (4 * k) + 3).toNatClampNeg) F))) X (c_X4_bid l D cI cII cL g M (xs (nI (4 * k) + 1).toNatClampNeg) (xs (nI (4 * k) + 2).toNatClampNeg) (xs (nI (4 * k) + 3).toNatClampNeg) hRel.hmc hRel.hmown) (cwV 3 X.2.2.2.1 gL_law_X4_bid rfl rfl rfl (by decide +kernel) ⟨Nat.le_of_ble_eq_true rfl, Nat.le_of_ble_eq_true rfl⟩) aC3 aR3 aP3 (cutA3 h cI cII cL g o) 0 4 rfl rfl wM_g0 rfl rfl (Nat.le_of_ble_eq_true rfl) dL_law_608 ⟨(show _ ≤ 601024 by show 100 + 8 * k + 4 ≤ 601024; omega), (show _ ≤ 7293034 by show 5000 + 48 * k + 24 ≤ 7293034; omega)⟩ ?_
  refine v_istore (lv' := [(6, .int (r_X4_bid M (xs (nI (4 * k) + 1).toNatClampNeg) (xs (nI (4 * k) + 2).toNatClampNeg) (xs (nI (4 * k) + 3).toNatClampNeg))), (5, .int (k_L_bid S (xs (nI (4 * k) + 1).toNatClampNeg) (xs (nI (4 * k) + 2).toNatClampNeg) (xs (nI (4 * k) + 3).toNatClampNeg))), (4, .int (nI (4 * k))), (3, .ref o), (2, .ref (g 0)), (1, .ref (h 0)), (0, .ref b)]) X dL_law_611 (by decide) rfl ?_
  refine v_aload_n X dL_law_613 rfl ?_
  refine v_callVic (As := []) (rest := []) (w' := (wA h cI cII cL g o (s_L_bid S (xs (nI (4 * k) + 1).toNatClampNeg) (xs (nI (4 * k) + 2).toNatClampNeg) (xs (nI (4 * k) + 3).toNatClampNeg)) (s_X4_bid M (xs (nI (4 * k) + 1).toNatClampNeg) (xs (nI (4 * k) + 2).toNatClampNeg) (xs (nI (4 * k) + 3).toNatClampNeg)) (f_L_bid S (xs (nI (4 * k) + 1).toNatClampNeg) (xs (nI (4 * k) + 2).toNatClampNeg) (xs (nI (4 * k) + 3).toNatClampNeg) F))) X (c_X4_thrown l D cI cII cL g (s_X4_bid M (xs (nI (4 * k) + 1).toNatClampNeg) (xs (nI (4 * k) + 2).toNatClampNeg) (xs (nI (4 * k) + 3).toNatClampNeg))) (cwV 0 X.2.2.2.1 gL_law_X4_thrown rfl rfl rfl (by decide +kernel) ⟨Nat.le_of_ble_eq_true rfl, Nat.le_of_ble_eq_true rfl⟩) aC3 aR3 aP3 (cutA3 h cI cII cL g o) 0 4 rfl rfl wM_g0 rfl rfl (Nat.le_of_ble_eq_true rfl) dL_law_614 ⟨(show _ ≤ 601024 by show 100 + 8 * k + 4 ≤ 601024; omega), (show _ ≤ 7293034 by show 5000 + 48 * k + 24 ≤ 7293034; omega)⟩ ?_
  refine v_iload X dL_law_617 rfl ?_
  refine v_icmp_eq (tgt := 624) X dL_law_619 (by decide) (fun c_1 => ?_) (fun c_1 => absurd hth c_1)
  refine v_iload X dL_law_624 rfl ?_
  refine v_if_ne (tgt := 641) X dL_law_626 (by decide) (fun c_2 => ?_) (fun c_2 => ?_)
  · refine v_goto (tgt := 1605) X dL_law_641 (by decide) ?_
    refine v_lv [2, 3, 4, 5, 6] rfl ?_
    refine v_wd (cells' := 100 + 8 * (k + 1)) (slots' := 5000 + 48 * (k + 1)) (by show 100 + 8 * k + 4 ≤ _; omega) (by show 5000 + 48 * k + 24 ≤ _; omega) ?_
    exact hnext _ _ _ hR
  · have hv := hv c_2 F
    refine v_aload_n X dL_law_629 rfl ?_
    refine v_iconst (x := 0) X dL_law_630 rfl ?_
    refine v_lald X 43 2 wA_go rfl (vp_in_nI (n := 0) (by decide) (by decide)) dL_law_631 ?_
    refine v_iload X dL_law_632 rfl ?_
    refine v_i2l X dL_law_634 ?_
    refine v_lcmp X dL_law_635 ?_
    refine v_if_eq (tgt := 641) X dL_law_636 (by decide) (fun c_3 => ?_) (fun c_3 => absurd (show lg_cmp ((f_L_bid S (xs (nI (4 * k) + 1).toNatClampNeg) (xs (nI (4 * k) + 2).toNatClampNeg) (xs (nI (4 * k) + 3).toNatClampNeg) F) 0) (r_X4_bid M (xs (nI (4 * k) + 1).toNatClampNeg) (xs (nI (4 * k) + 2).toNatClampNeg) (xs (nI (4 * k) + 3).toNatClampNeg)).toInt64 = 0 from by rw [hv]; exact lg_self _) c_3)
    refine v_goto (tgt := 1605) X dL_law_641 (by decide) ?_
    refine v_lv [2, 3, 4, 5, 6] rfl ?_
    refine v_wd (cells' := 100 + 8 * (k + 1)) (slots' := 5000 + 48 * (k + 1)) (by show 100 + 8 * k + 4 ≤ _; omega) (by show 5000 + 48 * k + 24 ≤ _; omega) ?_
    exact hnext _ _ _ hR
set_option maxHeartbeats 1000000 in
set_option maxRecDepth 100000 in
theorem law_c8 {p : Program} {e : Env} {s : State} {m : MethodId} {below : List Frame} {meth : Method} {c : Code} {b L : Nat} {xs : Nat → Int32} (l : Launch) (hlt : l.stackTraces = false) (D : va_G) (cI cII cL : ClassId) (h g : Nat → Nat) (o : Nat) (X : v_C p s m #[Value.ref b] c code RL wsL_law 7 D vwCl (tyl cI cII cL) (fun q : Nat => s.heap.size ≤ q)) (hXW : v_XW (fun q : Nat => s.heap.size ≤ q) s) (hX : va_X b L xs s s.heap) (hbl : b < s.heap.size) (S M : St) (F : Nat → Int64) (k : Nat) (hk : 4 * k + 4 ≤ L) (hL : L ≤ 2048) (hRel : Rel k S M) (hnext : ∀ (S' M' : St) (F' : Nat → Int64), Rel (k + 1) S' M' → v_V p l e room_1 s m #[Value.ref b] below meth c D vwCl (fun q : Nat => s.heap.size ≤ q) 7 (lw_Z below #[Value.ref b] s) (100 + 8 * (k + 1)) (5000 + 48 * (k + 1)) (wA h cI cII cL g o S' M' F') 1605 [(4, .int (nI (4 * k))), (3, .ref o), (2, .ref (g 0)), (1, .ref (h 0)), (0, .ref b)] []) : v_V p l e room_1 s m #[Value.ref b] below meth c D vwCl (fun q : Nat => s.heap.size ≤ q) 7 (lw_Z below #[Value.ref b] s) (100 + 8 * k) (5000 + 48 * k) (wA h cI cII cL g o S M F) 644 [(4, .int (nI (4 * k))), (3, .ref o), (2, .ref (g 0)), (1, .ref (h 0)), (0, .ref b)] [] := by
  have hbA : ¬ (fun q : Nat => s.heap.size ≤ q) b := Nat.not_le.mpr hbl
  obtain ⟨hth, hv, hR⟩ := sim_cancelSale hRel (by omega) (xs (nI (4 * k) + 1).toNatClampNeg)
  refine v_aload_n X dL_law_644 rfl ?_
  refine v_aload_n X dL_law_645 rfl ?_
  refine v_iload X dL_law_646 rfl ?_
  refine v_iconst (x := 1) X dL_law_648 rfl ?_
  refine v_iadd X dL_law_649 ?_
  refine v_sld X hX hbl hbA (by rw [ix_n (4 * k) 1 1 rfl]; exact vp_in_nI (by omega) (by omega)) dL_law_650 ?_
  refine v_aload_n X dL_law_651 rfl ?_
  refine v_callLic (As := [.ref (h 0), .int (xs (nI (4 * k) + 1).toNatClampNeg), .ref o]) (rest := []) (w' := (wA h cI cII cL g o (s_L_cancelSale S (xs (nI (4 * k) + 1).toNatClampNeg)) M (f_L_cancelSale S (xs (nI (4 * k) + 1).toNatClampNeg) F))) X hXW (c_L_cancelSale l D cI cII cL hlt h o S (xs (nI (4 * k) + 1).toNatClampNeg) F hRel.hcnt) (vx_cwSW 3 X.2.2.2.1 gL_law_L_cancelSale rfl rfl rfl (by decide +kernel) ⟨Nat.le_of_ble_eq_true rfl, Nat.le_of_ble_eq_true rfl⟩) aC1 aR1 aP1 (cutA1 h cI cII cL g o) rfl rfl (Nat.le_of_ble_eq_true rfl) dL_law_652 ⟨(show _ ≤ 601024 by show 100 + 8 * k + 2 ≤ 601024; omega), (show _ ≤ 7293034 by show 5000 + 48 * k + 12 ≤ 7293034; omega)⟩ ?_
  refine v_istore (lv' := [(5, .int (k_L_cancelSale S (xs (nI (4 * k) + 1).toNatClampNeg))), (4, .int (nI (4 * k))), (3, .ref o), (2, .ref (g 0)), (1, .ref (h 0)), (0, .ref b)]) X dL_law_655 (by decide) rfl ?_
  refine v_aload_n X dL_law_657 rfl ?_
  refine v_aload_n X dL_law_658 rfl ?_
  refine v_iload X dL_law_659 rfl ?_
  refine v_iconst (x := 1) X dL_law_661 rfl ?_
  refine v_iadd X dL_law_662 ?_
  refine v_sld X hX hbl hbA (by rw [ix_n (4 * k) 1 1 rfl]; exact vp_in_nI (by omega) (by omega)) dL_law_663 ?_
  refine v_callVic (As := [.int (xs (nI (4 * k) + 1).toNatClampNeg)]) (rest := []) (w' := (wA h cI cII cL g o (s_L_cancelSale S (xs (nI (4 * k) + 1).toNatClampNeg)) (s_X4_cancelSale M (xs (nI (4 * k) + 1).toNatClampNeg)) (f_L_cancelSale S (xs (nI (4 * k) + 1).toNatClampNeg) F))) X (c_X4_cancelSale l D cI cII cL g M (xs (nI (4 * k) + 1).toNatClampNeg) hRel.hmc) (cwV 1 X.2.2.2.1 gL_law_X4_cancelSale rfl rfl rfl (by decide +kernel) ⟨Nat.le_of_ble_eq_true rfl, Nat.le_of_ble_eq_true rfl⟩) aC3 aR3 aP3 (cutA3 h cI cII cL g o) 0 4 rfl rfl wM_g0 rfl rfl (Nat.le_of_ble_eq_true rfl) dL_law_664 ⟨(show _ ≤ 601024 by show 100 + 8 * k + 2 ≤ 601024; omega), (show _ ≤ 7293034 by show 5000 + 48 * k + 12 ≤ 7293034; omega)⟩ ?_
  refine v_istore (lv' := [(6, .int (r_X4_cancelSale M (xs (nI (4 * k) + 1).toNatClampNeg))), (5, .int (k_L_cancelSale S (xs (nI (4 * k) + 1).toNatClampNeg))), (4, .int (nI (4 * k))), (3, .ref o), (2, .ref (g 0)), (1, .ref (h 0)), (0, .ref b)]) X dL_law_667 (by decide) rfl ?_
  refine v_aload_n X dL_law_669 rfl ?_
  refine v_callVic (As := []) (rest := []) (w' := (wA h cI cII cL g o (s_L_cancelSale S (xs (nI (4 * k) + 1).toNatClampNeg)) (s_X4_cancelSale M (xs (nI (4 * k) + 1).toNatClampNeg)) (f_L_cancelSale S (xs (nI (4 * k) + 1).toNatClampNeg) F))) X (c_X4_thrown l D cI cII cL g (s_X4_cancelSale M (xs (nI (4 * k) + 1).toNatClampNeg))) (cwV 0 X.2.2.2.1 gL_law_X4_thrown rfl rfl rfl (by decide +kernel) ⟨Nat.le_of_ble_eq_true rfl, Nat.le_of_ble_eq_true rfl⟩) aC3 aR3 aP3 (cutA3 h cI cII cL g o) 0 4 rfl rfl wM_g0 rfl rfl (Nat.le_of_ble_eq_true rfl) dL_law_670 ⟨(show _ ≤ 601024 by show 100 + 8 * k + 2 ≤ 601024; omega), (show _ ≤ 7293034 by show 5000 + 48 * k + 12 ≤ 7293034; omega)⟩ ?_
  refine v_iload X dL_law_673 rfl ?_
  refine v_icmp_eq (tgt := 680) X dL_law_675 (by decide) (fun c_1 => ?_) (fun c_1 => absurd hth c_1)
  refine v_iload X dL_law_680 rfl ?_
  refine v_if_ne (tgt := 697) X dL_law_682 (by decide) (fun c_2 => ?_) (fun c_2 => ?_)
  · refine v_goto (tgt := 1605) X dL_law_697 (by decide) ?_
    refine v_lv [2, 3, 4, 5, 6] rfl ?_
    refine v_wd (cells' := 100 + 8 * (k + 1)) (slots' := 5000 + 48 * (k + 1)) (by show 100 + 8 * k + 2 ≤ _; omega) (by show 5000 + 48 * k + 12 ≤ _; omega) ?_
    exact hnext _ _ _ hR
  · have hv := hv c_2 F
    refine v_aload_n X dL_law_685 rfl ?_
    refine v_iconst (x := 0) X dL_law_686 rfl ?_
    refine v_lald X 43 2 wA_go rfl (vp_in_nI (n := 0) (by decide) (by decide)) dL_law_687 ?_
    refine v_iload X dL_law_688 rfl ?_
    refine v_i2l X dL_law_690 ?_
    refine v_lcmp X dL_law_691 ?_
    refine v_if_eq (tgt := 697) X dL_law_692 (by decide) (fun c_3 => ?_) (fun c_3 => absurd (show lg_cmp ((f_L_cancelSale S (xs (nI (4 * k) + 1).toNatClampNeg) F) 0) (r_X4_cancelSale M (xs (nI (4 * k) + 1).toNatClampNeg)).toInt64 = 0 from by rw [hv]; exact lg_self _) c_3)
    refine v_goto (tgt := 1605) X dL_law_697 (by decide) ?_
    refine v_lv [2, 3, 4, 5, 6] rfl ?_
    refine v_wd (cells' := 100 + 8 * (k + 1)) (slots' := 5000 + 48 * (k + 1)) (by show 100 + 8 * k + 2 ≤ _; omega) (by show 5000 + 48 * k + 12 ≤ _; omega) ?_
    exact hnext _ _ _ hR
set_option maxHeartbeats 1000000 in
set_option maxRecDepth 100000 in
theorem law_c9 {p : Program} {e : Env} {s : State} {m : MethodId} {below : List Frame} {meth : Method} {c : Code} {b L : Nat} {xs : Nat → Int32} (l : Launch) (hlt : l.stackTraces = false) (D : va_G) (cI cII cL : ClassId) (h g : Nat → Nat) (o : Nat) (X : v_C p s m #[Value.ref b] c code RL wsL_law 7 D vwCl (tyl cI cII cL) (fun q : Nat => s.heap.size ≤ q)) (hXW : v_XW (fun q : Nat => s.heap.size ≤ q) s) (hX : va_X b L xs s s.heap) (hbl : b < s.heap.size) (S M : St) (F : Nat → Int64) (k : Nat) (hk : 4 * k + 4 ≤ L) (hL : L ≤ 2048) (hRel : Rel k S M) (hnext : ∀ (S' M' : St) (F' : Nat → Int64), Rel (k + 1) S' M' → v_V p l e room_1 s m #[Value.ref b] below meth c D vwCl (fun q : Nat => s.heap.size ≤ q) 7 (lw_Z below #[Value.ref b] s) (100 + 8 * (k + 1)) (5000 + 48 * (k + 1)) (wA h cI cII cL g o S' M' F') 1605 [(4, .int (nI (4 * k))), (3, .ref o), (2, .ref (g 0)), (1, .ref (h 0)), (0, .ref b)] []) : v_V p l e room_1 s m #[Value.ref b] below meth c D vwCl (fun q : Nat => s.heap.size ≤ q) 7 (lw_Z below #[Value.ref b] s) (100 + 8 * k) (5000 + 48 * k) (wA h cI cII cL g o S M F) 700 [(4, .int (nI (4 * k))), (3, .ref o), (2, .ref (g 0)), (1, .ref (h 0)), (0, .ref b)] [] := by
  have hbA : ¬ (fun q : Nat => s.heap.size ≤ q) b := Nat.not_le.mpr hbl
  obtain ⟨hth, hv, hR⟩ := sim_cancelBid hRel (by omega) (xs (nI (4 * k) + 1).toNatClampNeg) (xs (nI (4 * k) + 2).toNatClampNeg)
  refine v_aload_n X dL_law_700 rfl ?_
  refine v_aload_n X dL_law_701 rfl ?_
  refine v_iload X dL_law_702 rfl ?_
  refine v_iconst (x := 1) X dL_law_704 rfl ?_
  refine v_iadd X dL_law_705 ?_
  refine v_sld X hX hbl hbA (by rw [ix_n (4 * k) 1 1 rfl]; exact vp_in_nI (by omega) (by omega)) dL_law_706 ?_
  refine v_aload_n X dL_law_707 rfl ?_
  refine v_iload X dL_law_708 rfl ?_
  refine v_iconst (x := 2) X dL_law_710 rfl ?_
  refine v_iadd X dL_law_711 ?_
  refine v_sld X hX hbl hbA (by rw [ix_n (4 * k) 2 2 rfl]; exact vp_in_nI (by omega) (by omega)) dL_law_712 ?_
  refine v_aload_n X dL_law_713 rfl ?_
  refine v_callLic (As := [.ref (h 0), .int (xs (nI (4 * k) + 1).toNatClampNeg), .int (xs (nI (4 * k) + 2).toNatClampNeg), .ref o]) (rest := []) (w' := (wA h cI cII cL g o (s_L_cancelBid S (xs (nI (4 * k) + 1).toNatClampNeg) (xs (nI (4 * k) + 2).toNatClampNeg)) M (f_L_cancelBid S (xs (nI (4 * k) + 1).toNatClampNeg) (xs (nI (4 * k) + 2).toNatClampNeg) F))) X hXW (c_L_cancelBid l D cI cII cL hlt h o S (xs (nI (4 * k) + 1).toNatClampNeg) (xs (nI (4 * k) + 2).toNatClampNeg) F ) (vx_cwSW 4 X.2.2.2.1 gL_law_L_cancelBid rfl rfl rfl (by decide +kernel) ⟨Nat.le_of_ble_eq_true rfl, Nat.le_of_ble_eq_true rfl⟩) aC1 aR1 aP1 (cutA1 h cI cII cL g o) rfl rfl (Nat.le_of_ble_eq_true rfl) dL_law_714 ⟨(show _ ≤ 601024 by show 100 + 8 * k + 3 ≤ 601024; omega), (show _ ≤ 7293034 by show 5000 + 48 * k + 18 ≤ 7293034; omega)⟩ ?_
  refine v_istore (lv' := [(5, .int (k_L_cancelBid S (xs (nI (4 * k) + 1).toNatClampNeg) (xs (nI (4 * k) + 2).toNatClampNeg))), (4, .int (nI (4 * k))), (3, .ref o), (2, .ref (g 0)), (1, .ref (h 0)), (0, .ref b)]) X dL_law_717 (by decide) rfl ?_
  refine v_aload_n X dL_law_719 rfl ?_
  refine v_aload_n X dL_law_720 rfl ?_
  refine v_iload X dL_law_721 rfl ?_
  refine v_iconst (x := 1) X dL_law_723 rfl ?_
  refine v_iadd X dL_law_724 ?_
  refine v_sld X hX hbl hbA (by rw [ix_n (4 * k) 1 1 rfl]; exact vp_in_nI (by omega) (by omega)) dL_law_725 ?_
  refine v_aload_n X dL_law_726 rfl ?_
  refine v_iload X dL_law_727 rfl ?_
  refine v_iconst (x := 2) X dL_law_729 rfl ?_
  refine v_iadd X dL_law_730 ?_
  refine v_sld X hX hbl hbA (by rw [ix_n (4 * k) 2 2 rfl]; exact vp_in_nI (by omega) (by omega)) dL_law_731 ?_
  refine v_callVic (As := [.int (xs (nI (4 * k) + 1).toNatClampNeg), .int (xs (nI (4 * k) + 2).toNatClampNeg)]) (rest := []) (w' := (wA h cI cII cL g o (s_L_cancelBid S (xs (nI (4 * k) + 1).toNatClampNeg) (xs (nI (4 * k) + 2).toNatClampNeg)) (s_X4_cancelBid M (xs (nI (4 * k) + 1).toNatClampNeg) (xs (nI (4 * k) + 2).toNatClampNeg)) (f_L_cancelBid S (xs (nI (4 * k) + 1).toNatClampNeg) (xs (nI (4 * k) + 2).toNatClampNeg) F))) X (c_X4_cancelBid l D cI cII cL g M (xs (nI (4 * k) + 1).toNatClampNeg) (xs (nI (4 * k) + 2).toNatClampNeg) ) (cwV 2 X.2.2.2.1 gL_law_X4_cancelBid rfl rfl rfl (by decide +kernel) ⟨Nat.le_of_ble_eq_true rfl, Nat.le_of_ble_eq_true rfl⟩) aC3 aR3 aP3 (cutA3 h cI cII cL g o) 0 4 rfl rfl wM_g0 rfl rfl (Nat.le_of_ble_eq_true rfl) dL_law_732 ⟨(show _ ≤ 601024 by show 100 + 8 * k + 3 ≤ 601024; omega), (show _ ≤ 7293034 by show 5000 + 48 * k + 18 ≤ 7293034; omega)⟩ ?_
  refine v_istore (lv' := [(6, .int (r_X4_cancelBid M (xs (nI (4 * k) + 1).toNatClampNeg) (xs (nI (4 * k) + 2).toNatClampNeg))), (5, .int (k_L_cancelBid S (xs (nI (4 * k) + 1).toNatClampNeg) (xs (nI (4 * k) + 2).toNatClampNeg))), (4, .int (nI (4 * k))), (3, .ref o), (2, .ref (g 0)), (1, .ref (h 0)), (0, .ref b)]) X dL_law_735 (by decide) rfl ?_
  refine v_aload_n X dL_law_737 rfl ?_
  refine v_callVic (As := []) (rest := []) (w' := (wA h cI cII cL g o (s_L_cancelBid S (xs (nI (4 * k) + 1).toNatClampNeg) (xs (nI (4 * k) + 2).toNatClampNeg)) (s_X4_cancelBid M (xs (nI (4 * k) + 1).toNatClampNeg) (xs (nI (4 * k) + 2).toNatClampNeg)) (f_L_cancelBid S (xs (nI (4 * k) + 1).toNatClampNeg) (xs (nI (4 * k) + 2).toNatClampNeg) F))) X (c_X4_thrown l D cI cII cL g (s_X4_cancelBid M (xs (nI (4 * k) + 1).toNatClampNeg) (xs (nI (4 * k) + 2).toNatClampNeg))) (cwV 0 X.2.2.2.1 gL_law_X4_thrown rfl rfl rfl (by decide +kernel) ⟨Nat.le_of_ble_eq_true rfl, Nat.le_of_ble_eq_true rfl⟩) aC3 aR3 aP3 (cutA3 h cI cII cL g o) 0 4 rfl rfl wM_g0 rfl rfl (Nat.le_of_ble_eq_true rfl) dL_law_738 ⟨(show _ ≤ 601024 by show 100 + 8 * k + 3 ≤ 601024; omega), (show _ ≤ 7293034 by show 5000 + 48 * k + 18 ≤ 7293034; omega)⟩ ?_
  refine v_iload X dL_law_741 rfl ?_
  refine v_icmp_eq (tgt := 748) X dL_law_743 (by decide) (fun c_1 => ?_) (fun c_1 => absurd hth c_1)
  refine v_iload X dL_law_748 rfl ?_
  refine v_if_ne (tgt := 765) X dL_law_750 (by decide) (fun c_2 => ?_) (fun c_2 => ?_)
  · refine v_goto (tgt := 1605) X dL_law_765 (by decide) ?_
    refine v_lv [2, 3, 4, 5, 6] rfl ?_
    refine v_wd (cells' := 100 + 8 * (k + 1)) (slots' := 5000 + 48 * (k + 1)) (by show 100 + 8 * k + 3 ≤ _; omega) (by show 5000 + 48 * k + 18 ≤ _; omega) ?_
    exact hnext _ _ _ hR
  · have hv := hv c_2 F
    refine v_aload_n X dL_law_753 rfl ?_
    refine v_iconst (x := 0) X dL_law_754 rfl ?_
    refine v_lald X 43 2 wA_go rfl (vp_in_nI (n := 0) (by decide) (by decide)) dL_law_755 ?_
    refine v_iload X dL_law_756 rfl ?_
    refine v_i2l X dL_law_758 ?_
    refine v_lcmp X dL_law_759 ?_
    refine v_if_eq (tgt := 765) X dL_law_760 (by decide) (fun c_3 => ?_) (fun c_3 => absurd (show lg_cmp ((f_L_cancelBid S (xs (nI (4 * k) + 1).toNatClampNeg) (xs (nI (4 * k) + 2).toNatClampNeg) F) 0) (r_X4_cancelBid M (xs (nI (4 * k) + 1).toNatClampNeg) (xs (nI (4 * k) + 2).toNatClampNeg)).toInt64 = 0 from by rw [hv]; exact lg_self _) c_3)
    refine v_goto (tgt := 1605) X dL_law_765 (by decide) ?_
    refine v_lv [2, 3, 4, 5, 6] rfl ?_
    refine v_wd (cells' := 100 + 8 * (k + 1)) (slots' := 5000 + 48 * (k + 1)) (by show 100 + 8 * k + 3 ≤ _; omega) (by show 5000 + 48 * k + 18 ≤ _; omega) ?_
    exact hnext _ _ _ hR
set_option maxHeartbeats 1000000 in
set_option maxRecDepth 100000 in
theorem law_c10 {p : Program} {e : Env} {s : State} {m : MethodId} {below : List Frame} {meth : Method} {c : Code} {b L : Nat} {xs : Nat → Int32} (l : Launch) (hlt : l.stackTraces = false) (D : va_G) (cI cII cL : ClassId) (h g : Nat → Nat) (o : Nat) (X : v_C p s m #[Value.ref b] c code RL wsL_law 7 D vwCl (tyl cI cII cL) (fun q : Nat => s.heap.size ≤ q)) (hXW : v_XW (fun q : Nat => s.heap.size ≤ q) s) (hX : va_X b L xs s s.heap) (hbl : b < s.heap.size) (S M : St) (F : Nat → Int64) (k : Nat) (hk : 4 * k + 4 ≤ L) (hL : L ≤ 2048) (hRel : Rel k S M) (hnext : ∀ (S' M' : St) (F' : Nat → Int64), Rel (k + 1) S' M' → v_V p l e room_1 s m #[Value.ref b] below meth c D vwCl (fun q : Nat => s.heap.size ≤ q) 7 (lw_Z below #[Value.ref b] s) (100 + 8 * (k + 1)) (5000 + 48 * (k + 1)) (wA h cI cII cL g o S' M' F') 1605 [(4, .int (nI (4 * k))), (3, .ref o), (2, .ref (g 0)), (1, .ref (h 0)), (0, .ref b)] []) : v_V p l e room_1 s m #[Value.ref b] below meth c D vwCl (fun q : Nat => s.heap.size ≤ q) 7 (lw_Z below #[Value.ref b] s) (100 + 8 * k) (5000 + 48 * k) (wA h cI cII cL g o S M F) 768 [(4, .int (nI (4 * k))), (3, .ref o), (2, .ref (g 0)), (1, .ref (h 0)), (0, .ref b)] [] := by
  have hbA : ¬ (fun q : Nat => s.heap.size ≤ q) b := Nat.not_le.mpr hbl
  obtain ⟨hth, hv, hR⟩ := sim_leastSale hRel (by omega) (xs (nI (4 * k) + 1).toNatClampNeg)
  refine v_aload_n X dL_law_768 rfl ?_
  refine v_aload_n X dL_law_769 rfl ?_
  refine v_iload X dL_law_770 rfl ?_
  refine v_iconst (x := 1) X dL_law_772 rfl ?_
  refine v_iadd X dL_law_773 ?_
  refine v_sld X hX hbl hbA (by rw [ix_n (4 * k) 1 1 rfl]; exact vp_in_nI (by omega) (by omega)) dL_law_774 ?_
  refine v_aload_n X dL_law_775 rfl ?_
  refine v_callLic (As := [.ref (h 0), .int (xs (nI (4 * k) + 1).toNatClampNeg), .ref o]) (rest := []) (w' := (wA h cI cII cL g o S M (f_L_leastSale S (xs (nI (4 * k) + 1).toNatClampNeg) F))) X hXW (c_L_leastSale l D cI cII cL hlt h o S (xs (nI (4 * k) + 1).toNatClampNeg) F hRel.hcnt) (vx_cwSW 3 X.2.2.2.1 gL_law_L_leastSale rfl rfl rfl (by decide +kernel) ⟨Nat.le_of_ble_eq_true rfl, Nat.le_of_ble_eq_true rfl⟩) aC1 aR1 aP1 (cutA1 h cI cII cL g o) rfl rfl (Nat.le_of_ble_eq_true rfl) dL_law_776 ⟨(show _ ≤ 601024 by show 100 + 8 * k + 1 ≤ 601024; omega), (show _ ≤ 7293034 by show 5000 + 48 * k + 6 ≤ 7293034; omega)⟩ ?_
  refine v_istore (lv' := [(5, .int (k_L_leastSale S (xs (nI (4 * k) + 1).toNatClampNeg))), (4, .int (nI (4 * k))), (3, .ref o), (2, .ref (g 0)), (1, .ref (h 0)), (0, .ref b)]) X dL_law_779 (by decide) rfl ?_
  refine v_aload_n X dL_law_781 rfl ?_
  refine v_aload_n X dL_law_782 rfl ?_
  refine v_iload X dL_law_783 rfl ?_
  refine v_iconst (x := 1) X dL_law_785 rfl ?_
  refine v_iadd X dL_law_786 ?_
  refine v_sld X hX hbl hbA (by rw [ix_n (4 * k) 1 1 rfl]; exact vp_in_nI (by omega) (by omega)) dL_law_787 ?_
  refine v_callVic (As := [.int (xs (nI (4 * k) + 1).toNatClampNeg)]) (rest := []) (w' := (wA h cI cII cL g o S (s_X4_leastSale M (xs (nI (4 * k) + 1).toNatClampNeg)) (f_L_leastSale S (xs (nI (4 * k) + 1).toNatClampNeg) F))) X (c_X4_leastSale l D cI cII cL g M (xs (nI (4 * k) + 1).toNatClampNeg) hRel.hmc) (cwV 1 X.2.2.2.1 gL_law_X4_leastSale rfl rfl rfl (by decide +kernel) ⟨Nat.le_of_ble_eq_true rfl, Nat.le_of_ble_eq_true rfl⟩) aC3 aR3 aP3 (cutA3 h cI cII cL g o) 0 4 rfl rfl wM_g0 rfl rfl (Nat.le_of_ble_eq_true rfl) dL_law_788 ⟨(show _ ≤ 601024 by show 100 + 8 * k + 1 ≤ 601024; omega), (show _ ≤ 7293034 by show 5000 + 48 * k + 6 ≤ 7293034; omega)⟩ ?_
  refine v_istore (lv' := [(6, .int (r_X4_leastSale M (xs (nI (4 * k) + 1).toNatClampNeg))), (5, .int (k_L_leastSale S (xs (nI (4 * k) + 1).toNatClampNeg))), (4, .int (nI (4 * k))), (3, .ref o), (2, .ref (g 0)), (1, .ref (h 0)), (0, .ref b)]) X dL_law_791 (by decide) rfl ?_
  refine v_aload_n X dL_law_793 rfl ?_
  refine v_callVic (As := []) (rest := []) (w' := (wA h cI cII cL g o S (s_X4_leastSale M (xs (nI (4 * k) + 1).toNatClampNeg)) (f_L_leastSale S (xs (nI (4 * k) + 1).toNatClampNeg) F))) X (c_X4_thrown l D cI cII cL g (s_X4_leastSale M (xs (nI (4 * k) + 1).toNatClampNeg))) (cwV 0 X.2.2.2.1 gL_law_X4_thrown rfl rfl rfl (by decide +kernel) ⟨Nat.le_of_ble_eq_true rfl, Nat.le_of_ble_eq_true rfl⟩) aC3 aR3 aP3 (cutA3 h cI cII cL g o) 0 4 rfl rfl wM_g0 rfl rfl (Nat.le_of_ble_eq_true rfl) dL_law_794 ⟨(show _ ≤ 601024 by show 100 + 8 * k + 1 ≤ 601024; omega), (show _ ≤ 7293034 by show 5000 + 48 * k + 6 ≤ 7293034; omega)⟩ ?_
  refine v_iload X dL_law_797 rfl ?_
  refine v_icmp_eq (tgt := 804) X dL_law_799 (by decide) (fun c_1 => ?_) (fun c_1 => absurd hth c_1)
  refine v_iload X dL_law_804 rfl ?_
  refine v_if_ne (tgt := 821) X dL_law_806 (by decide) (fun c_2 => ?_) (fun c_2 => ?_)
  · refine v_goto (tgt := 1605) X dL_law_821 (by decide) ?_
    refine v_lv [2, 3, 4, 5, 6] rfl ?_
    refine v_wd (cells' := 100 + 8 * (k + 1)) (slots' := 5000 + 48 * (k + 1)) (by show 100 + 8 * k + 1 ≤ _; omega) (by show 5000 + 48 * k + 6 ≤ _; omega) ?_
    exact hnext _ _ _ hR
  · have hv := hv c_2 F
    refine v_aload_n X dL_law_809 rfl ?_
    refine v_iconst (x := 0) X dL_law_810 rfl ?_
    refine v_lald X 43 2 wA_go rfl (vp_in_nI (n := 0) (by decide) (by decide)) dL_law_811 ?_
    refine v_iload X dL_law_812 rfl ?_
    refine v_i2l X dL_law_814 ?_
    refine v_lcmp X dL_law_815 ?_
    refine v_if_eq (tgt := 821) X dL_law_816 (by decide) (fun c_3 => ?_) (fun c_3 => absurd (show lg_cmp ((f_L_leastSale S (xs (nI (4 * k) + 1).toNatClampNeg) F) 0) (r_X4_leastSale M (xs (nI (4 * k) + 1).toNatClampNeg)).toInt64 = 0 from by rw [hv]; exact lg_self _) c_3)
    refine v_goto (tgt := 1605) X dL_law_821 (by decide) ?_
    refine v_lv [2, 3, 4, 5, 6] rfl ?_
    refine v_wd (cells' := 100 + 8 * (k + 1)) (slots' := 5000 + 48 * (k + 1)) (by show 100 + 8 * k + 1 ≤ _; omega) (by show 5000 + 48 * k + 6 ≤ _; omega) ?_
    exact hnext _ _ _ hR
set_option maxHeartbeats 1000000 in
set_option maxRecDepth 100000 in
theorem law_c11 {p : Program} {e : Env} {s : State} {m : MethodId} {below : List Frame} {meth : Method} {c : Code} {b L : Nat} {xs : Nat → Int32} (l : Launch) (hlt : l.stackTraces = false) (D : va_G) (cI cII cL : ClassId) (h g : Nat → Nat) (o : Nat) (X : v_C p s m #[Value.ref b] c code RL wsL_law 7 D vwCl (tyl cI cII cL) (fun q : Nat => s.heap.size ≤ q)) (hXW : v_XW (fun q : Nat => s.heap.size ≤ q) s) (hX : va_X b L xs s s.heap) (hbl : b < s.heap.size) (S M : St) (F : Nat → Int64) (k : Nat) (hk : 4 * k + 4 ≤ L) (hL : L ≤ 2048) (hRel : Rel k S M) (hnext : ∀ (S' M' : St) (F' : Nat → Int64), Rel (k + 1) S' M' → v_V p l e room_1 s m #[Value.ref b] below meth c D vwCl (fun q : Nat => s.heap.size ≤ q) 7 (lw_Z below #[Value.ref b] s) (100 + 8 * (k + 1)) (5000 + 48 * (k + 1)) (wA h cI cII cL g o S' M' F') 1605 [(4, .int (nI (4 * k))), (3, .ref o), (2, .ref (g 0)), (1, .ref (h 0)), (0, .ref b)] []) : v_V p l e room_1 s m #[Value.ref b] below meth c D vwCl (fun q : Nat => s.heap.size ≤ q) 7 (lw_Z below #[Value.ref b] s) (100 + 8 * k) (5000 + 48 * k) (wA h cI cII cL g o S M F) 824 [(4, .int (nI (4 * k))), (3, .ref o), (2, .ref (g 0)), (1, .ref (h 0)), (0, .ref b)] [] := by
  have hbA : ¬ (fun q : Nat => s.heap.size ≤ q) b := Nat.not_le.mpr hbl
  obtain ⟨hth, hv, hR⟩ := sim_greatestBid hRel (by omega) (xs (nI (4 * k) + 1).toNatClampNeg)
  refine v_aload_n X dL_law_824 rfl ?_
  refine v_aload_n X dL_law_825 rfl ?_
  refine v_iload X dL_law_826 rfl ?_
  refine v_iconst (x := 1) X dL_law_828 rfl ?_
  refine v_iadd X dL_law_829 ?_
  refine v_sld X hX hbl hbA (by rw [ix_n (4 * k) 1 1 rfl]; exact vp_in_nI (by omega) (by omega)) dL_law_830 ?_
  refine v_aload_n X dL_law_831 rfl ?_
  refine v_callLic (As := [.ref (h 0), .int (xs (nI (4 * k) + 1).toNatClampNeg), .ref o]) (rest := []) (w' := (wA h cI cII cL g o S M (f_L_greatestBid S (xs (nI (4 * k) + 1).toNatClampNeg) F))) X hXW (c_L_greatestBid l D cI cII cL hlt h o S (xs (nI (4 * k) + 1).toNatClampNeg) F ) (vx_cwSW 3 X.2.2.2.1 gL_law_L_greatestBid rfl rfl rfl (by decide +kernel) ⟨Nat.le_of_ble_eq_true rfl, Nat.le_of_ble_eq_true rfl⟩) aC1 aR1 aP1 (cutA1 h cI cII cL g o) rfl rfl (Nat.le_of_ble_eq_true rfl) dL_law_832 ⟨(show _ ≤ 601024 by show 100 + 8 * k + 1 ≤ 601024; omega), (show _ ≤ 7293034 by show 5000 + 48 * k + 6 ≤ 7293034; omega)⟩ ?_
  refine v_istore (lv' := [(5, .int (k_L_greatestBid S (xs (nI (4 * k) + 1).toNatClampNeg))), (4, .int (nI (4 * k))), (3, .ref o), (2, .ref (g 0)), (1, .ref (h 0)), (0, .ref b)]) X dL_law_835 (by decide) rfl ?_
  refine v_aload_n X dL_law_837 rfl ?_
  refine v_aload_n X dL_law_838 rfl ?_
  refine v_iload X dL_law_839 rfl ?_
  refine v_iconst (x := 1) X dL_law_841 rfl ?_
  refine v_iadd X dL_law_842 ?_
  refine v_sld X hX hbl hbA (by rw [ix_n (4 * k) 1 1 rfl]; exact vp_in_nI (by omega) (by omega)) dL_law_843 ?_
  refine v_callVic (As := [.int (xs (nI (4 * k) + 1).toNatClampNeg)]) (rest := []) (w' := (wA h cI cII cL g o S (s_X4_greatestBid M (xs (nI (4 * k) + 1).toNatClampNeg)) (f_L_greatestBid S (xs (nI (4 * k) + 1).toNatClampNeg) F))) X (c_X4_greatestBid l D cI cII cL g M (xs (nI (4 * k) + 1).toNatClampNeg) ) (cwV 1 X.2.2.2.1 gL_law_X4_greatestBid rfl rfl rfl (by decide +kernel) ⟨Nat.le_of_ble_eq_true rfl, Nat.le_of_ble_eq_true rfl⟩) aC3 aR3 aP3 (cutA3 h cI cII cL g o) 0 4 rfl rfl wM_g0 rfl rfl (Nat.le_of_ble_eq_true rfl) dL_law_844 ⟨(show _ ≤ 601024 by show 100 + 8 * k + 1 ≤ 601024; omega), (show _ ≤ 7293034 by show 5000 + 48 * k + 6 ≤ 7293034; omega)⟩ ?_
  refine v_istore (lv' := [(6, .int (r_X4_greatestBid M (xs (nI (4 * k) + 1).toNatClampNeg))), (5, .int (k_L_greatestBid S (xs (nI (4 * k) + 1).toNatClampNeg))), (4, .int (nI (4 * k))), (3, .ref o), (2, .ref (g 0)), (1, .ref (h 0)), (0, .ref b)]) X dL_law_847 (by decide) rfl ?_
  refine v_aload_n X dL_law_849 rfl ?_
  refine v_callVic (As := []) (rest := []) (w' := (wA h cI cII cL g o S (s_X4_greatestBid M (xs (nI (4 * k) + 1).toNatClampNeg)) (f_L_greatestBid S (xs (nI (4 * k) + 1).toNatClampNeg) F))) X (c_X4_thrown l D cI cII cL g (s_X4_greatestBid M (xs (nI (4 * k) + 1).toNatClampNeg))) (cwV 0 X.2.2.2.1 gL_law_X4_thrown rfl rfl rfl (by decide +kernel) ⟨Nat.le_of_ble_eq_true rfl, Nat.le_of_ble_eq_true rfl⟩) aC3 aR3 aP3 (cutA3 h cI cII cL g o) 0 4 rfl rfl wM_g0 rfl rfl (Nat.le_of_ble_eq_true rfl) dL_law_850 ⟨(show _ ≤ 601024 by show 100 + 8 * k + 1 ≤ 601024; omega), (show _ ≤ 7293034 by show 5000 + 48 * k + 6 ≤ 7293034; omega)⟩ ?_
  refine v_iload X dL_law_853 rfl ?_
  refine v_icmp_eq (tgt := 860) X dL_law_855 (by decide) (fun c_1 => ?_) (fun c_1 => absurd hth c_1)
  refine v_iload X dL_law_860 rfl ?_
  refine v_if_ne (tgt := 877) X dL_law_862 (by decide) (fun c_2 => ?_) (fun c_2 => ?_)
  · refine v_goto (tgt := 1605) X dL_law_877 (by decide) ?_
    refine v_lv [2, 3, 4, 5, 6] rfl ?_
    refine v_wd (cells' := 100 + 8 * (k + 1)) (slots' := 5000 + 48 * (k + 1)) (by show 100 + 8 * k + 1 ≤ _; omega) (by show 5000 + 48 * k + 6 ≤ _; omega) ?_
    exact hnext _ _ _ hR
  · have hv := hv c_2 F
    refine v_aload_n X dL_law_865 rfl ?_
    refine v_iconst (x := 0) X dL_law_866 rfl ?_
    refine v_lald X 43 2 wA_go rfl (vp_in_nI (n := 0) (by decide) (by decide)) dL_law_867 ?_
    refine v_iload X dL_law_868 rfl ?_
    refine v_i2l X dL_law_870 ?_
    refine v_lcmp X dL_law_871 ?_
    refine v_if_eq (tgt := 877) X dL_law_872 (by decide) (fun c_3 => ?_) (fun c_3 => absurd (show lg_cmp ((f_L_greatestBid S (xs (nI (4 * k) + 1).toNatClampNeg) F) 0) (r_X4_greatestBid M (xs (nI (4 * k) + 1).toNatClampNeg)).toInt64 = 0 from by rw [hv]; exact lg_self _) c_3)
    refine v_goto (tgt := 1605) X dL_law_877 (by decide) ?_
    refine v_lv [2, 3, 4, 5, 6] rfl ?_
    refine v_wd (cells' := 100 + 8 * (k + 1)) (slots' := 5000 + 48 * (k + 1)) (by show 100 + 8 * k + 1 ≤ _; omega) (by show 5000 + 48 * k + 6 ≤ _; omega) ?_
    exact hnext _ _ _ hR
