section VC5
variable {p : Program} {l : Launch} {e : Env} {R : Room} {s : State} {m : MethodId} {args : Array Value} {below : List Frame} {meth : Method} {c : Code} {cc : ByteArray} {own : String} {Ts : List Cond} {nL : Nat} {D : va_G} {cl : List vw_C} {tys : List (ClassId × FieldType)} {A : Nat → Prop} {Q : State → Prop} {cells slots : Nat} {w w' : va_W} {pc tgt : Nat} {lv lv' : List (Nat × Value)} {st rest : List Value} {a b n index : Nat} {r : Int32}
variable {y : MethodName} {bytes : ByteArray} {maxL : Nat} {ret : Option FieldType} {ws : List Cond} {rm : Room} {C : String} {As : List Value} {wc wc' wr : va_W}
/-- the callee's cells among the caller's, and the caller's world behind it -/
def v_cut (w wc wr wc' w' : va_W) (isC isR perm : List Nat) : Prop :=
  isC.map (fun i => w[i]?) = wc.map some ∧ isR.map (fun i => w[i]?) = wr.map some ∧ va_nd isC = true ∧ va_nd isR = true ∧ (∀ i ∈ isR, i ∉ isC) ∧ perm.map (fun i => (wr ++ wc')[i]?) = w'.map some ∧ va_nd perm = true
theorem v_fr0 {H : Heap} {locs : List Loc} (X : v_C p s m args c cc own Ts nL D cl tys A) (hD : va_D A w) (hS : va_S A s.heap H locs) : ∀ q, va_A w H.size q → A q := by
  intro q h
  rcases h with ⟨k, e, h⟩ | h
  · exact hD.2 k (q, e) h
  · exact X.2.2.2.2.2.2 q (Nat.le_trans hS.1 h)
theorem v_blind {av : List Value} {sz : Nat} : FrameBlind (va_Pc av (fun U => U.heap.size = sz ∧ va_P D cl w U.heap ∧ va_K D cl tys U ∧ va_D (fun _ => True) w)) :=
  fun a U g mk q => ⟨q.1, q.2.1, q.2.2.1, va_K.moved (u := U) (U := U.calling g mk a) (Vm.Alike.refl U.vm) q.2.2.2.1, q.2.2.2.2⟩
theorem v_pre {H : Heap} {av : List Value} (X : v_C p s m args c cc own Ts nL D cl tys A) (hP : va_P D cl w H) (hD : va_D A w) (U : State) (hU : U.heap = H) (hW : s.WarmedH U.vm) : va_Pc av (fun U => U.heap.size = H.size ∧ va_P D cl w U.heap ∧ va_K D cl tys U ∧ va_D (fun _ => True) w) av.toArray U :=
  ⟨rfl, by rw [hU], by rw [hU]; exact hP, va_K.moved hW.alike X.2.2.2.2.2.1, hD.weaken (fun _ _ _ _ => trivial)⟩
/-- an instance method, the callee's cells are the whole world -/
theorem v_callVi (X : v_C p s m args c cc own Ts nL D cl tys A) (hM : v_Mi l D cl tys y ws rm (.ref b :: As) w r w') (cw : CallW R s args own C index y bytes maxL ret ws rm rm.cells rm.slots n)
    (q0 ci : Nat) {q : vw_C} {fs : List Value} (hcl : cl[ci]? = some q) (hqC : q.1 = C) (he : w[q0]? = some (b, .inr (ci, fs))) (hn : As.length = n) (hst : st = As.reverse ++ .ref b :: rest) (hroom : (rest.map fun v => v.category).sum ≤ 8) (hdg : decode cc pc = .ok (.invokevirtual index, 3)) (hf : cells + rm.cells ≤ R.cells ∧ slots + rm.slots ≤ R.slots)
    (kk : v_V p l e R s m args below meth c D cl A nL Q (cells + rm.cells) (slots + rm.slots) w' (pc + 3) lv (.int r :: rest)) : v_V p l e R s m args below meth c D cl A nL Q cells slots w pc lv st := by
  intro H locs ls hP hD hS hl
  subst hst hqC
  have hFc := v_fr0 X hD hS
  refine va_calli (va_runV (As := As) (rest := rest) ⟨X.1, X.2.1, X.2.2.2.2.1, X.2.2.1, X.2.2.2.1⟩ (hM H.size) cw ⟨v_blind, va_recv X.2.2.2.2.2.1 hP hcl he, v_pre X hP hD⟩ rfl hn hl.1 rfl (lv_room hroom) hdg hf) hS (fun q _ h => hFc q h) hFc (fun r' u t H1 locs1 ht hvm hw hB hz1 hk1 hS1 => ?_)
  obtain ⟨hP1, hK1, hD1⟩ := hB
  rw [ht] at hP1
  subst hw
  exact kk H1 locs1 ls hP1 (hD1.weaken (fun _ q _ h => hFc q.1 h)) hS1 hl
theorem v_callVv (X : v_C p s m args c cc own Ts nL D cl tys A) (hM : v_Mv l D cl tys y ws rm (.ref b :: As) w w') (cw : CallW R s args own C index y bytes maxL ret ws rm rm.cells rm.slots n)
    (q0 ci : Nat) {q : vw_C} {fs : List Value} (hcl : cl[ci]? = some q) (hqC : q.1 = C) (he : w[q0]? = some (b, .inr (ci, fs))) (hn : As.length = n) (hst : st = As.reverse ++ .ref b :: rest) (hroom : (rest.map fun v => v.category).sum ≤ 8) (hdg : decode cc pc = .ok (.invokevirtual index, 3)) (hf : cells + rm.cells ≤ R.cells ∧ slots + rm.slots ≤ R.slots)
    (kk : v_V p l e R s m args below meth c D cl A nL Q (cells + rm.cells) (slots + rm.slots) w' (pc + 3) lv rest) : v_V p l e R s m args below meth c D cl A nL Q cells slots w pc lv st := by
  intro H locs ls hP hD hS hl
  subst hst hqC
  have hFc := v_fr0 X hD hS
  refine va_callv (va_runV (As := As) (rest := rest) ⟨X.1, X.2.1, X.2.2.2.2.1, X.2.2.1, X.2.2.2.1⟩ (hM H.size) cw ⟨v_blind, va_recv X.2.2.2.2.2.1 hP hcl he, v_pre X hP hD⟩ rfl hn hl.1 rfl (lv_room hroom) hdg hf) hS (fun q _ h => hFc q h) hFc (fun u t H1 locs1 ht hvm hw hB hz1 hk1 hS1 => ?_)
  obtain ⟨hP1, hK1, hD1⟩ := hB
  rw [ht] at hP1
  exact kk H1 locs1 ls hP1 (hD1.weaken (fun _ q _ h => hFc q.1 h)) hS1 hl
/-- .. the callee's cells are a part of it -/
theorem v_callVic (X : v_C p s m args c cc own Ts nL D cl tys A) (hM : v_Mi l D cl tys y ws rm (.ref b :: As) wc r wc') (cw : CallW R s args own C index y bytes maxL ret ws rm rm.cells rm.slots n) (isC isR perm : List Nat) (hcut : v_cut w wc wr wc' w' isC isR perm)
    (q0 ci : Nat) {q : vw_C} {fs : List Value} (hcl : cl[ci]? = some q) (hqC : q.1 = C) (he : wc[q0]? = some (b, .inr (ci, fs))) (hn : As.length = n) (hst : st = As.reverse ++ .ref b :: rest) (hroom : (rest.map fun v => v.category).sum ≤ 8) (hdg : decode cc pc = .ok (.invokevirtual index, 3)) (hf : cells + rm.cells ≤ R.cells ∧ slots + rm.slots ≤ R.slots)
    (kk : v_V p l e R s m args below meth c D cl A nL Q (cells + rm.cells) (slots + rm.slots) w' (pc + 3) lv (.int r :: rest)) : v_V p l e R s m args below meth c D cl A nL Q cells slots w pc lv st := by
  intro H locs ls hP hD hS hl
  subst hst hqC
  obtain ⟨hC, hR, hnC, hnR, hdis, hj, hnj⟩ := hcut
  have hPc := hP.sub (ws' := wc) isC (v_fm hC)
  have hDc := hD.sub (ws' := wc) isC hnC hC
  have hFc := va_free (wc := wc) hD hS X.2.2.2.2.2.2 isC hC
  refine va_calli (va_runV (As := As) (rest := rest) ⟨X.1, X.2.1, X.2.2.2.2.1, X.2.2.1, X.2.2.2.1⟩ (hM H.size) cw ⟨v_blind, va_recv X.2.2.2.2.2.1 hPc hcl he, v_pre X hPc hDc⟩ rfl hn hl.1 rfl (lv_room hroom) hdg hf) hS (fun q _ h => hFc q h) hFc (fun r' u t H1 locs1 ht hvm hw hB hz1 hk1 hS1 => ?_)
  obtain ⟨hP1, hK1, hD1⟩ := hB
  rw [ht] at hP1
  subst hw
  obtain ⟨hP2, hD2⟩ := va_join (wr := wr) (w1 := wc') hP hD isC isR hC hR hnR hdis hk1 hFc hP1 hD1
  exact kk H1 locs1 ls (hP2.sub perm (v_fm hj)) (hD2.sub perm hnj hj) hS1 hl
theorem v_callVvc (X : v_C p s m args c cc own Ts nL D cl tys A) (hM : v_Mv l D cl tys y ws rm (.ref b :: As) wc wc') (cw : CallW R s args own C index y bytes maxL ret ws rm rm.cells rm.slots n) (isC isR perm : List Nat) (hcut : v_cut w wc wr wc' w' isC isR perm)
    (q0 ci : Nat) {q : vw_C} {fs : List Value} (hcl : cl[ci]? = some q) (hqC : q.1 = C) (he : wc[q0]? = some (b, .inr (ci, fs))) (hn : As.length = n) (hst : st = As.reverse ++ .ref b :: rest) (hroom : (rest.map fun v => v.category).sum ≤ 8) (hdg : decode cc pc = .ok (.invokevirtual index, 3)) (hf : cells + rm.cells ≤ R.cells ∧ slots + rm.slots ≤ R.slots)
    (kk : v_V p l e R s m args below meth c D cl A nL Q (cells + rm.cells) (slots + rm.slots) w' (pc + 3) lv rest) : v_V p l e R s m args below meth c D cl A nL Q cells slots w pc lv st := by
  intro H locs ls hP hD hS hl
  subst hst hqC
  obtain ⟨hC, hR, hnC, hnR, hdis, hj, hnj⟩ := hcut
  have hPc := hP.sub (ws' := wc) isC (v_fm hC)
  have hDc := hD.sub (ws' := wc) isC hnC hC
  have hFc := va_free (wc := wc) hD hS X.2.2.2.2.2.2 isC hC
  refine va_callv (va_runV (As := As) (rest := rest) ⟨X.1, X.2.1, X.2.2.2.2.1, X.2.2.1, X.2.2.2.1⟩ (hM H.size) cw ⟨v_blind, va_recv X.2.2.2.2.2.1 hPc hcl he, v_pre X hPc hDc⟩ rfl hn hl.1 rfl (lv_room hroom) hdg hf) hS (fun q _ h => hFc q h) hFc (fun u t H1 locs1 ht hvm hw hB hz1 hk1 hS1 => ?_)
  obtain ⟨hP1, hK1, hD1⟩ := hB
  rw [ht] at hP1
  obtain ⟨hP2, hD2⟩ := va_join (wr := wr) (w1 := wc') hP hD isC isR hC hR hnR hdis hk1 hFc hP1 hD1
  exact kk H1 locs1 ls (hP2.sub perm (v_fm hj)) (hD2.sub perm hnj hj) hS1 hl
/-- a static method that sees no cell -/
theorem v_callSi0 (X : v_C p s m args c cc own Ts nL D cl tys A) (hM : v_Mi l D cl tys y ws rm As [] r []) (cw : CallB R s args own index y bytes maxL ret ws rm rm.cells rm.slots n ∧ (Cond.static y).before args s = true)
    (hn : As.length = n) (hst : st = As.reverse ++ rest) (hroom : (rest.map fun v => v.category).sum ≤ 8) (hdg : decode cc pc = .ok (.invokestatic index, 3)) (hf : cells + rm.cells ≤ R.cells ∧ slots + rm.slots ≤ R.slots)
    (kk : v_V p l e R s m args below meth c D cl A nL Q (cells + rm.cells) (slots + rm.slots) w (pc + 3) lv (.int r :: rest)) : v_V p l e R s m args below meth c D cl A nL Q cells slots w pc lv st := by
  intro H locs ls hP hD hS hl
  subst hst
  have hP0 : va_P D cl [] H := fun k q h => by simp at h
  have hD0 : va_D A [] := ⟨fun i j p q h => by simp at h, fun k q h => by simp at h⟩
  have hFc : ∀ q, va_A [] H.size q → A q := v_fr0 X hD0 hS
  refine va_calli (va_runS (As := As) (rest := rest) ⟨X.1, X.2.1, X.2.2.2.2.1, X.2.2.1, X.2.2.2.1⟩ (hM H.size) cw ⟨v_blind, v_pre X hP0 hD0⟩ rfl hn hl.1 rfl (lv_room hroom) hdg hf) hS (fun q _ h => hFc q h) hFc (fun r' u t H1 locs1 ht hvm hw hB hz1 hk1 hS1 => ?_)
  subst hw
  refine kk H1 locs1 ls (hP.kept (fun k q hk => hk1 q.1 (hP k q hk).lt (fun h => ?_))) hD hS1 hl
  rcases h with ⟨k2, e2, h⟩ | h
  · simp at h
  · exact absurd (hP k q hk).lt (Nat.not_lt.mpr h)
end VC5
