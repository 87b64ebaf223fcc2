theorem v_arrK {args : Array Value} {s : State} {ty : FieldType} (h : (Cond.arrayClass ty).before args s = true) : ∃ cA, ArrOfT s cA ty ∧ s.vm.findClass ("[" ++ ty.toString) = some cA := by
  obtain ⟨cA, kA, comp, h1, h2, h3⟩ := Cond.arrayClass_spec h
  exact ⟨cA, fun n z => ⟨fun k h => (by cases h), kA, h2, comp, h3⟩, h1⟩
theorem v_arrKK {s : State} {ty : FieldType} (h : va_AOA ty s) : ∃ cA, ArrOfT s cA (.array ty) ∧ s.vm.findClass ("[" ++ (FieldType.array ty).toString) = some cA := by
  obtain ⟨comp, c, k, h1, h2, h3, h4, h5⟩ := arrayOver_specB h
  exact ⟨c, fun n z => ⟨fun k h => (by cases h), k, h3, comp, h4⟩, h5⟩
theorem v_m1 : ∀ q ∈ v_strs, Cond.stringRef RX3 q.1 q.2 ∈ lw_tbl := by decide +kernel
theorem v_m2 : ∀ q ∈ v_strs, Cond.exactly (.string RX3 q.1) "java/lang/String" ∈ flatC (Jvm.Cond.and given_1 narrow_1) := by decide +kernel
theorem v_m3 : ∀ E ∈ [v_E1, v_E2, v_E3], Cond.castable E E ∈ lw_tbl := by decide +kernel
theorem v_m4 : ∀ Y ∈ v_sup, Cond.declares (Bundle.initS Y) ∈ lw_tbl := by decide +kernel
theorem v_m5 : ∀ q ∈ [(v_E2, v_E1), (v_E3, v_E1), (v_E3, v_E2)], Cond.not (.castable q.1 q.2) ∈ flatC (Jvm.Cond.and given_1 narrow_1) := by decide +kernel
theorem v_m6 : ∀ w ∈ [Cond.laysStatic Bundle.tN "UNASSIGNED_STACK" Bundle.steD, Cond.laysStatic Bundle.tN "SUPPRESSED_SENTINEL" Bundle.listD, Cond.initialized Bundle.tN, Cond.arrayOver (.array .int), Cond.arrayClass .int, Cond.arrayClass .long, Cond.methodLinkNest RX3 9 yX1_init RX3, Cond.methodLinkNest RX3 18 yX0_init RX3, Cond.methodLinkNest RX3 25 yX2_init RX3, Cond.instantiable RX0 2, Cond.instantiable RX1 9, Cond.instantiable RX2 3, Cond.instantiable RX3 8, Cond.instantiable RX4 17], w ∈ lw_tbl := by decide +kernel
theorem v_m7 : ∀ w ∈ [Cond.isRef (.static Bundle.tN "UNASSIGNED_STACK" Bundle.steD), Cond.isRef (.static Bundle.tN "SUPPRESSED_SENTINEL" Bundle.listD)], w ∈ flatC (Jvm.Cond.and given_1 narrow_1) := by decide +kernel
theorem v_XWof {s : State} {b : Nat} (hts : ∀ w ∈ lw_tbl, w.before #[Value.ref b] s = true) (hgv : (Jvm.Cond.and given_1 narrow_1).before #[Value.ref b] s = true) : v_XW (fun q : Nat => s.heap.size ≤ q) s := by
  have hs := flat_of_before _ hgv
  have hm := fun w hw => hts w (v_m6 w hw)
  have hA : ∀ a : Nat, a < s.heap.size → ¬ (fun q : Nat => s.heap.size ≤ q) a := fun a h => Nat.not_le.mpr h
  refine ⟨vx_Zqof (hm _ (by decide +kernel)) (hm _ (by decide +kernel)) (hs _ (v_m7 _ (by decide +kernel))) hA, vx_Zqof (hm _ (by decide +kernel)) (hm _ (by decide +kernel)) (hs _ (v_m7 _ (by decide +kernel))) hA, fun q hq => ?_, fun E hE => va_Nw.of rfl (hts _ (v_m3 E hE)), fun Y hY => va_Nw.of rfl (hts _ (v_m4 Y hY)), fun q hq => va_Nc.of (hs _ (v_m5 q hq))⟩
  obtain ⟨a, c, cell, k, h1, -⟩ := Cond.exactly_spec (hs _ (v_m2 q hq))
  exact ⟨a, vk_R.of (hts _ (v_m1 q hq)) h1⟩
theorem v_IXof {s : State} {b : Nat} (hts : ∀ w ∈ lw_tbl, w.before #[Value.ref b] s = true) : v_IX s := by
  have hm := fun w hw => hts w (v_m6 w hw)
  exact ⟨va_AOA.of (hm _ (by decide +kernel)), va_Nw.of rfl (hm _ (by decide +kernel)), va_Nw.of rfl (hm _ (by decide +kernel)), va_Nw.of rfl (hm _ (by decide +kernel))⟩
set_option maxHeartbeats 4000000 in
set_option maxRecDepth 100000 in
theorem whole_start {p : Program} {e : Env} {s : State} {m : MethodId} {below : List Frame} {meth : Method} {c : Code} (l : Launch) (hflags : l.flags = flags0) {b L : Nat} {xs : Nat → Int32} (hL : L ≤ 2048) (C0 : lw_At p s m meth c b L xs) : W p l e room_1 s m #[Value.ref b] below meth c s.heap [] 0 0 (lw_Z below #[Value.ref b] s) (entryFrame m ([Value.ref b] : List Value).toArray 7) := by
  obtain ⟨hx, hb, hr, hml, hown, hts, hX, hbl, hlocks, hgv⟩ := C0
  have hlt : l.stackTraces = false := by unfold Launch.stackTraces; rw [hflags]; decide +kernel
  have hXW := v_XWof hts hgv
  have hIX := v_IXof hts
  have hm := fun w hw => hts w (v_m6 w hw)
  obtain ⟨c0, iS0, hKn0⟩ := u_known (C := RX0) (T := TX0) (N := 2) (n := 2) hts inX0 (hm _ (by decide +kernel))
  obtain ⟨c1, iS1, hKn1⟩ := u_known (C := RX1) (T := TX1) (N := 9) (n := 9) hts inX1 (hm _ (by decide +kernel))
  obtain ⟨c2, iS2, hKn2⟩ := u_known (C := RX2) (T := TX2) (N := 3) (n := 3) hts inX2 (hm _ (by decide +kernel))
  obtain ⟨c3, iS3, hKn3⟩ := u_known (C := RX3) (T := TX3) (N := 8) (n := 8) hts inX3 (hm _ (by decide +kernel))
  obtain ⟨c4, iS4, hKn4⟩ := u_known (C := RX4) (T := TX4) (N := 17) (n := 17) hts inX4 (hm _ (by decide +kernel))
  obtain ⟨dC, dI, hKc⟩ : ∃ (dC : Nat → ClassId) (dI : Nat → Nat → Nat), ∀ (k : Nat) (q : vw_C), vwCl[k]? = some q → u_Kn s q.1 q.2.1 q.2.2 (dC k) (dI k) := by
    refine ⟨fun k => if k = 0 then c0 else if k = 1 then c1 else if k = 2 then c2 else if k = 3 then c3 else c4, fun k => if k = 0 then iS0 else if k = 1 then iS1 else if k = 2 then iS2 else if k = 3 then iS3 else iS4, ?_⟩
    intro k q hq
    match k, hq with
    | 0, hq => cases hq; exact hKn0
    | 1, hq => cases hq; exact hKn1
    | 2, hq => cases hq; exact hKn2
    | 3, hq => cases hq; exact hKn3
    | 4, hq => cases hq; exact hKn4
    | k + 5, hq => simp [vwCl] at hq
  obtain ⟨cI, aI, fI⟩ := v_arrK (ty := .int) (hm _ (by decide +kernel))
  obtain ⟨cL, aL, fL⟩ := v_arrK (ty := .long) (hm _ (by decide +kernel))
  obtain ⟨cII, aII, fII⟩ := v_arrKK (ty := .int) hIX.1
  have hK : va_K (dC, dI) vwCl (tyl cI cII cL) s := by
    refine ⟨hKc, fun k q hk => ?_⟩
    match k, hk with
    | 0, hk => cases hk; exact ⟨aI, fI⟩
    | 1, hk => cases hk; exact ⟨aII, fII⟩
    | 2, hk => cases hk; exact ⟨aL, fL⟩
    | k + 3, hk => simp [tyl] at hk
  have X : v_C p s m #[Value.ref b] c code RL wsL_law 7 (dC, dI) vwCl (tyl cI cII cL) (fun q : Nat => s.heap.size ≤ q) := ⟨hx, hb, hown, fun w hw => hts w (wsL_law_in w hw), hml, hK, fun _ h => h⟩
  have hl := lv_entry ([.ref b]) (n := 7) (Nat.le_of_ble_eq_true rfl)
  rw [lg_entry_eq]
  have hP0 : va_P (dC, dI) vwCl [] s.heap := fun k q h => by simp at h
  have hD0 : va_D (fun q : Nat => s.heap.size ≤ q) [] := ⟨fun i j p q h => by simp at h, fun k q h => by simp at h⟩
  suffices K : v_V p l e room_1 s m #[Value.ref b] below meth c (dC, dI) vwCl (fun q : Nat => s.heap.size ≤ q) 7 (lw_Z below #[Value.ref b] s) 0 0 [] 0 [(0, .ref b)] [] from K s.heap [] _ hP0 hD0 va_S.rf hl
  have iX3 : ∀ w ∈ wsX30, w ∈ wsL_law := inlX3
  have iX4 : ∀ w ∈ wsX40, w ∈ wsL_law := inlX4
  refine v_newobj (ci := 3) (fs := [.null, .null, .null, .null, .null, .null, .int 0, .int 0]) (index := 8) X iX3 tyX3 tyX3_ok (by decide +kernel) (by decide +kernel) (by decide +kernel) rfl (fun j hj => by rcases (show j = 0 ∨ j = 1 ∨ j = 2 ∨ j = 3 ∨ j = 4 ∨ j = 5 ∨ j = 6 ∨ j = 7 by omega) with rfl | rfl | rfl | rfl | rfl | rfl | rfl | rfl <;> rfl) (Nat.le_of_ble_eq_true rfl) (Nat.le_of_ble_eq_true rfl) dL_law_0 (fun q1 => ?_)
  refine v_w (w' := [(q1, .inr (3, [.null, .null, .null, .null, .null, .null, .int 0, .int 0]))]) rfl ?_
  refine v_dup X dL_law_3 rfl ?_
  refine v_callI (wr := []) (As := []) (rest := [.ref q1]) X hIX (c_X3_init l (dC, dI) cI cII cL q1) (cwI 0 X.2.2.2.1 gL_law_X3_init rfl rfl rfl (X.2.2.2.1 _ (by decide +kernel)) (X.2.2.2.1 _ (by decide +kernel)) (X.2.2.2.1 _ (by decide +kernel)) rfl (by decide +kernel) ⟨Nat.le_of_ble_eq_true rfl, Nat.le_of_ble_eq_true rfl⟩) [0] [] rfl rfl (by decide) (by decide) (by decide) rfl rfl (Nat.le_of_ble_eq_true rfl) dL_law_4 ⟨Nat.le_of_ble_eq_true rfl, Nat.le_of_ble_eq_true rfl⟩ (fun h hph => ?_)
  obtain rfl : q1 = h 0 := hph.symm
  refine v_w (w' := wT h cI cII S0c) rfl ?_
  refine v_astore_n (lv' := [(1, .ref (h 0)), (0, .ref b)]) X dL_law_7 (by decide) rfl ?_
  refine v_newobj (ci := 4) (fs := [.int 0, .null, .null, .null, .null, .null, .null, .null, .null, .null, .int 0, .null, .null, .int 0, .null, .null, .int 0]) (index := 94) X iX4 tyX4 tyX4_ok (by decide +kernel) (by decide +kernel) (by decide +kernel) rfl (fun j hj => by rcases (show j = 0 ∨ j = 1 ∨ j = 2 ∨ j = 3 ∨ j = 4 ∨ j = 5 ∨ j = 6 ∨ j = 7 ∨ j = 8 ∨ j = 9 ∨ j = 10 ∨ j = 11 ∨ j = 12 ∨ j = 13 ∨ j = 14 ∨ j = 15 ∨ j = 16 by omega) with rfl | rfl | rfl | rfl | rfl | rfl | rfl | rfl | rfl | rfl | rfl | rfl | rfl | rfl | rfl | rfl | rfl <;> rfl) (Nat.le_of_ble_eq_true rfl) (Nat.le_of_ble_eq_true rfl) dL_law_8 (fun q2 => ?_)
  refine v_dup X dL_law_11 rfl ?_
  refine v_callI (wr := wT h cI cII S0c) (As := []) (rest := [.ref q2]) X hIX (c_X4_init l (dC, dI) cI cII cL q2) (cwI 0 X.2.2.2.1 gL_law_X4_init rfl rfl rfl (X.2.2.2.1 _ (by decide +kernel)) (X.2.2.2.1 _ (by decide +kernel)) (X.2.2.2.1 _ (by decide +kernel)) rfl (by decide +kernel) ⟨Nat.le_of_ble_eq_true rfl, Nat.le_of_ble_eq_true rfl⟩) [29] (List.range 29) rfl rfl (by decide) (by decide) (by decide) rfl rfl (Nat.le_of_ble_eq_true rfl) dL_law_12 ⟨Nat.le_of_ble_eq_true rfl, Nat.le_of_ble_eq_true rfl⟩ (fun g hpg => ?_)
  obtain rfl : q2 = g 0 := hpg.symm
  refine v_astore_n (lv' := [(2, .ref (g 0)), (1, .ref (h 0)), (0, .ref b)]) X dL_law_15 (by decide) rfl ?_
  refine v_iconst (x := 1) X dL_law_16 rfl ?_
  refine v_newlong (cL := cL) (N := 1) X (by decide +kernel) rfl rfl (by decide) (Nat.le_of_ble_eq_true rfl) (Nat.le_of_ble_eq_true rfl) (Nat.le_of_ble_eq_true rfl) dL_law_17 (fun o => ?_)
  refine v_w (w' := wA h cI cII cL g o S0c S0m (fun _ => 0)) rfl ?_
  refine v_astore_n (lv' := [(3, .ref o), (2, .ref (g 0)), (1, .ref (h 0)), (0, .ref b)]) X dL_law_19 (by decide) rfl ?_
  refine v_iconst (x := 0) X dL_law_20 rfl ?_
  refine v_istore (lv' := [(4, .int 0), (3, .ref o), (2, .ref (g 0)), (1, .ref (h 0)), (0, .ref b)]) X dL_law_21 (by decide) rfl ?_
  refine v_wd (cells' := 100 + 8 * 0) (slots' := 5000 + 48 * 0) (Nat.le_of_ble_eq_true rfl) (Nat.le_of_ble_eq_true rfl) ?_
  exact law_loop l hlt (dC, dI) cI cII cL h g o X hXW hX hbl hr hlocks hL 513 0 S0c S0m (fun _ => 0) rfl (Nat.zero_le _) Rel_0
