set_option maxHeartbeats 1000000 in
set_option maxRecDepth 100000 in
theorem law_loop {p : Program} {e : Env} {s : State} {m : MethodId} {below : List Frame} {meth : Method} {c : Code} {b L : Nat} {xs : Nat → Int32} (l : Launch) (hlt : l.stackTraces = false) (D : va_G) (cI cII cL : ClassId) (h g : Nat → Nat) (o : Nat) (X : v_C p s m #[Value.ref b] c code RL wsL_law 7 D vwCl (tyl cI cII cL) (fun q : Nat => s.heap.size ≤ q)) (hXW : v_XW (fun q : Nat => s.heap.size ≤ q) s) (hX : va_X b L xs s s.heap) (hbl : b < s.heap.size) (hr : meth.sig.returnType = ret) (hlocks : meth.locks = false) (hL : L ≤ 2048) : ∀ (d k : Nat) (S M : St) (F : Nat → Int64), k + d = 513 → 4 * k ≤ L → Rel k S M → v_V p l e room_1 s m #[Value.ref b] below meth c D vwCl (fun q : Nat => s.heap.size ≤ q) 7 (lw_Z below #[Value.ref b] s) (100 + 8 * k) (5000 + 48 * k) (wA h cI cII cL g o S M F) 23 [(4, .int (nI (4 * k))), (3, .ref o), (2, .ref (g 0)), (1, .ref (h 0)), (0, .ref b)] [] := by
  have hbA : ¬ (fun q : Nat => s.heap.size ≤ q) b := Nat.not_le.mpr hbl
  intro d
  induction d with
  | zero => intro k S M F hd hk; exact absurd hd (by omega)
  | succ d ih =>
    intro k S M F hd hk hRel
    refine v_iload X dL_law_23 rfl ?_
    refine v_aload_n X dL_law_25 rfl ?_
    refine v_slen X hX hbl hbA dL_law_26 ?_
    refine v_iconst (x := 4) X dL_law_27 rfl ?_
    refine v_isub X dL_law_28 ?_
    have hsub : (Int32.ofNat L - 4).toInt = (L : Int) - 4 := pk_sub_toInt (a := L) (b := 4) (by omega) (by decide)
    have hki : (nI (4 * k)).toInt = ((4 * k : Nat) : Int) := nI_toInt (by omega)
    refine v_icmp_gt (tgt := 1611) X dL_law_29 (by decide) (fun c_1 => ?_) (fun c_1 => ?_)
    · refine v_iconst (x := 1) X dL_law_1611 rfl ?_
      intro H locs ls hP hD hS hl
      refine va_forget (fun q hq => hS.2.2 q hq) ?_
      refine W.widen (k := 601024) (n := 7293034) (by show 100 + 8 * k ≤ 601024; omega) (by show 5000 + 48 * k ≤ 7293034; omega) ?_
      exact lw_ret X.1 X.2.1 hr hlocks dL_law_1612
    · have hk4 : 4 * k + 4 ≤ L := by
        rw [Int32.lt_iff_toInt_lt, hsub, hki] at c_1
        omega
      have hnext : ∀ (S' M' : St) (F' : Nat → Int64), Rel (k + 1) S' M' → v_V p l e room_1 s m #[Value.ref b] below meth c D vwCl (fun q : Nat => s.heap.size ≤ q) 7 (lw_Z below #[Value.ref b] s) (100 + 8 * (k + 1)) (5000 + 48 * (k + 1)) (wA h cI cII cL g o S' M' F') 1605 [(4, .int (nI (4 * k))), (3, .ref o), (2, .ref (g 0)), (1, .ref (h 0)), (0, .ref b)] [] := by
        intro S' M' F' hR
        refine v_iinc (y := nI (4 * (k + 1))) (lv' := [(4, .int (nI (4 * (k + 1)))), (3, .ref o), (2, .ref (g 0)), (1, .ref (h 0)), (0, .ref b)]) X dL_law_1605 rfl (by rw [ix_n (4 * k) 4 (Int32.ofInt 4) rfl]; rfl) (by decide) rfl ?_
        refine v_goto (tgt := 23) X dL_law_1608 (by decide) ?_
        exact ih (k + 1) S' M' F' (by omega) (by omega) hR
      refine v_aload_n X dL_law_32 rfl ?_
      refine v_iload X dL_law_33 rfl ?_
      refine v_sld X hX hbl hbA (vp_in_nI (by omega) (by omega)) dL_law_35 ?_
      refine v_bipush (x := 31) X dL_law_36 rfl ?_
      refine v_iand X dL_law_38 ?_
      obtain ⟨j, hj, ej⟩ := pk_andE (xs (nI (4 * k)).toNatClampNeg) (m := 31) 5 rfl
      rw [ej]
      have hdef : ∀ j : Nat, 24 ≤ j → j < 32 → v_V p l e room_1 s m #[Value.ref b] below meth c D vwCl (fun q : Nat => s.heap.size ≤ q) 7 (lw_Z below #[Value.ref b] s) (100 + 8 * k) (5000 + 48 * k) (wA h cI cII cL g o S M F) 39 [(4, .int (nI (4 * k))), (3, .ref o), (2, .ref (g 0)), (1, .ref (h 0)), (0, .ref b)] [.int (nI j)] := fun j h1 h2 => v_tableOut (tgt := 1605) X dL_law_39 (Or.inr (by rw [nI_toInt (by omega)]; omega)) (by decide) (v_wd (by omega) (by omega) (hnext S M F (Rel_mono hRel)))
      match j, hj with
      | 0, _ => exact v_tableIn (off := 109) (tgt := 148) X dL_law_39 (by decide) (by decide) (by decide) (by decide) (law_c0 l hlt D cI cII cL h g o X hXW hX hbl S M F k hk4 hL hRel hnext)
      | 1, _ => exact v_tableIn (off := 177) (tgt := 216) X dL_law_39 (by decide) (by decide) (by decide) (by decide) (law_c1 l hlt D cI cII cL h g o X hXW hX hbl S M F k hk4 hL hRel hnext)
      | 2, _ => exact v_tableIn (off := 233) (tgt := 272) X dL_law_39 (by decide) (by decide) (by decide) (by decide) (law_c2 l hlt D cI cII cL h g o X hXW hX hbl S M F k hk4 hL hRel hnext)
      | 3, _ => exact v_tableIn (off := 289) (tgt := 328) X dL_law_39 (by decide) (by decide) (by decide) (by decide) (law_c3 l hlt D cI cII cL h g o X hXW hX hbl S M F k hk4 hL hRel hnext)
      | 4, _ => exact v_tableIn (off := 345) (tgt := 384) X dL_law_39 (by decide) (by decide) (by decide) (by decide) (law_c4 l hlt D cI cII cL h g o X hXW hX hbl S M F k hk4 hL hRel hnext)
      | 5, _ => exact v_tableIn (off := 401) (tgt := 440) X dL_law_39 (by decide) (by decide) (by decide) (by decide) (law_c5 l hlt D cI cII cL h g o X hXW hX hbl S M F k hk4 hL hRel hnext)
      | 6, _ => exact v_tableIn (off := 457) (tgt := 496) X dL_law_39 (by decide) (by decide) (by decide) (by decide) (law_c6 l hlt D cI cII cL h g o X hXW hX hbl S M F k hk4 hL hRel hnext)
      | 7, _ => exact v_tableIn (off := 525) (tgt := 564) X dL_law_39 (by decide) (by decide) (by decide) (by decide) (law_c7 l hlt D cI cII cL h g o X hXW hX hbl S M F k hk4 hL hRel hnext)
      | 8, _ => exact v_tableIn (off := 605) (tgt := 644) X dL_law_39 (by decide) (by decide) (by decide) (by decide) (law_c8 l hlt D cI cII cL h g o X hXW hX hbl S M F k hk4 hL hRel hnext)
      | 9, _ => exact v_tableIn (off := 661) (tgt := 700) X dL_law_39 (by decide) (by decide) (by decide) (by decide) (law_c9 l hlt D cI cII cL h g o X hXW hX hbl S M F k hk4 hL hRel hnext)
      | 10, _ => exact v_tableIn (off := 729) (tgt := 768) X dL_law_39 (by decide) (by decide) (by decide) (by decide) (law_c10 l hlt D cI cII cL h g o X hXW hX hbl S M F k hk4 hL hRel hnext)
      | 11, _ => exact v_tableIn (off := 785) (tgt := 824) X dL_law_39 (by decide) (by decide) (by decide) (by decide) (law_c11 l hlt D cI cII cL h g o X hXW hX hbl S M F k hk4 hL hRel hnext)
      | 12, _ => exact v_tableIn (off := 841) (tgt := 880) X dL_law_39 (by decide) (by decide) (by decide) (by decide) (law_c12 l hlt D cI cII cL h g o X hXW hX hbl S M F k hk4 hL hRel hnext)
      | 13, _ => exact v_tableIn (off := 889) (tgt := 928) X dL_law_39 (by decide) (by decide) (by decide) (by decide) (law_c13 l hlt D cI cII cL h g o X hXW hX hbl S M F k hk4 hL hRel hnext)
      | 14, _ => exact v_tableIn (off := 945) (tgt := 984) X dL_law_39 (by decide) (by decide) (by decide) (by decide) (law_c14 l hlt D cI cII cL h g o X hXW hX hbl S M F k hk4 hL hRel hnext)
      | 15, _ => exact v_tableIn (off := 981) (tgt := 1020) X dL_law_39 (by decide) (by decide) (by decide) (by decide) (law_c15 l hlt D cI cII cL h g o X hXW hX hbl S M F k hk4 hL hRel hnext)
      | 16, _ => exact v_tableIn (off := 1061) (tgt := 1100) X dL_law_39 (by decide) (by decide) (by decide) (by decide) (law_c16 l hlt D cI cII cL h g o X hXW hX hbl S M F k hk4 hL hRel hnext)
      | 17, _ => exact v_tableIn (off := 1129) (tgt := 1168) X dL_law_39 (by decide) (by decide) (by decide) (by decide) (law_c17 l hlt D cI cII cL h g o X hXW hX hbl S M F k hk4 hL hRel hnext)
      | 18, _ => exact v_tableIn (off := 1192) (tgt := 1231) X dL_law_39 (by decide) (by decide) (by decide) (by decide) (law_c18 l hlt D cI cII cL h g o X hXW hX hbl S M F k hk4 hL hRel hnext)
      | 19, _ => exact v_tableIn (off := 1255) (tgt := 1294) X dL_law_39 (by decide) (by decide) (by decide) (by decide) (law_c19 l hlt D cI cII cL h g o X hXW hX hbl S M F k hk4 hL hRel hnext)
      | 20, _ => exact v_tableIn (off := 1311) (tgt := 1350) X dL_law_39 (by decide) (by decide) (by decide) (by decide) (law_c20 l hlt D cI cII cL h g o X hXW hX hbl S M F k hk4 hL hRel hnext)
      | 21, _ => exact v_tableIn (off := 1379) (tgt := 1418) X dL_law_39 (by decide) (by decide) (by decide) (by decide) (law_c21 l hlt D cI cII cL h g o X hXW hX hbl S M F k hk4 hL hRel hnext)
      | 22, _ => exact v_tableIn (off := 1442) (tgt := 1481) X dL_law_39 (by decide) (by decide) (by decide) (by decide) (law_c22 l hlt D cI cII cL h g o X hXW hX hbl S M F k hk4 hL hRel hnext)
      | 23, _ => exact v_tableIn (off := 1498) (tgt := 1537) X dL_law_39 (by decide) (by decide) (by decide) (by decide) (law_c23 l hlt D cI cII cL h g o X hXW hX hbl S M F k hk4 hL hRel hnext)
      | 24, _ => exact hdef 24 (by decide) (by decide)
      | 25, _ => exact hdef 25 (by decide) (by decide)
      | 26, _ => exact hdef 26 (by decide) (by decide)
      | 27, _ => exact hdef 27 (by decide) (by decide)
      | 28, _ => exact hdef 28 (by decide) (by decide)
      | 29, _ => exact hdef 29 (by decide) (by decide)
      | 30, _ => exact hdef 30 (by decide) (by decide)
      | 31, _ => exact hdef 31 (by decide) (by decide)
      | j + 32, h => exact absurd h (by omega)
