def v_E1 : String := "java/lang/IndexOutOfBoundsException"
def v_E2 : String := "java/lang/IllegalArgumentException"
def v_E3 : String := "java/lang/IllegalStateException"
def v_nm : List String := ["java/lang/RuntimeException", "java/lang/Exception"]
def v_strs : List (Nat × String) := [(66, "there are as many cards as there can be"), (105, "the card is not free, or its kind is banned"), (128, "too few coins, a bid for the kind already, or a banned kind"), (143, "the card is not for sale"), (145, "the player has no bid for the kind"), (152, "both cards have the same owner"), (155, "the card is not free"), (163, "the card can't be swapped now"), (165, "no swap is told of the card"), (167, "days out of range, or the player is the owner"), (172, "day out of range"), (177, "days out of range"), (193, "a match needs two players"), (195, "one of the decks is not right"), (199, "no such player"), (202, "no such kind"), (206, "no such card"), (208, "price out of range")]
def v_sup : List String := ["java/lang/RuntimeException", "java/lang/Exception", Bundle.tN]
/-- what a throw asks of the start, beside the words -/
def v_XW (A : Nat → Prop) (U : State) : Prop :=
  vx_Zq Bundle.tN "UNASSIGNED_STACK" Bundle.steD A U U.heap ∧ vx_Zq Bundle.tN "SUPPRESSED_SENTINEL" Bundle.listD A U U.heap ∧ (∀ q ∈ v_strs, ∃ sa : Nat, vk_R RX3 q.1 q.2 sa U) ∧ (∀ E ∈ [v_E1, v_E2, v_E3], va_Nw (.castable E E) U) ∧ (∀ Y ∈ v_sup, va_Nw (.declares (Bundle.initS Y)) U) ∧ ∀ q ∈ [(v_E2, v_E1), (v_E3, v_E1), (v_E3, v_E2)], va_Nc q.1 q.2 U
theorem v_XW.to {A B : Nat → Prop} {s U : State} {H : Heap} {locs : List Loc} (h : v_XW A s) (hS : va_S A s.heap H locs) (hU : U.heap = H) (hW : s.WarmedH U.vm) (hAB : ∀ q, B q → A q) : v_XW B U := by
  obtain ⟨h1, h2, h3, h4, h6, h5⟩ := h
  refine ⟨?_, ?_, fun q hq => ?_, fun E hE => va_Nw.same rfl (rfl : (s.setVm U.vm).vm = U.vm) (va_Nw.warmC hW (h4 E hE)), fun Y hY => va_tabs rfl (rfl : (s.setVm U.vm).vm = U.vm) (by rw [Cond.declares_setVm hW.alike]; exact h6 Y hY), fun q hq => (h5 q hq).moved hW.alike⟩
  · rw [hU]; exact ((h1.kept hS.2.1).moved hW.alike).narrow hAB
  · rw [hU]; exact ((h2.kept hS.2.1).moved hW.alike).narrow hAB
  · obtain ⟨sa, ha⟩ := h3 q hq
    exact ⟨sa, vk_R.warm hW ha⟩
theorem v_XW.calling {A : Nat → Prop} {U : State} {g : JFrame} {mk : MethodId} {a : Array Value} (h : v_XW A U) : v_XW A (U.calling g mk a) := by
  obtain ⟨h1, h2, h3, h4, h6, h5⟩ := h
  refine ⟨vx_Zq.moved (u := U) (Vm.Alike.refl U.vm) h1, vx_Zq.moved (u := U) (Vm.Alike.refl U.vm) h2, fun q hq => ?_, fun E hE => va_Nw.same rfl rfl (h4 E hE), fun Y hY => va_Nw.same rfl rfl (h6 Y hY), fun q hq => va_Nc.moved (u := U) (Vm.Alike.refl U.vm) (h5 q hq)⟩
  obtain ⟨sa, ha⟩ := h3 q hq
  exact ⟨sa, vk_R.same rfl ha⟩
section VX6
variable {p : Program} {l : Launch} {e : Env} {R : Room} {s : State} {m : MethodId} {args : Array Value} {below : List Frame} {meth : Method} {c : Code} {cc : ByteArray} {own : String} {Ts : List Cond} {nL : Nat} {D : va_G} {cl : List vw_C} {tys : List (ClassId × FieldType)} {A : Nat → Prop} {Q : State → Prop} {cells slots : Nat} {w w' : va_W} {pc tgt : Nat} {lv lv' : List (Nat × Value)} {st rest : List Value} {a b n index : Nat} {x r : Int32}
variable {y : MethodName} {bytes : ByteArray} {maxL : Nat} {ret : Option FieldType} {ws : List Cond} {rm : Room} {C : String} {As av : List Value} {wc wc' wr w0 : va_W} {xc xo : Option String}
def v_Pc (D : va_G) (cl : List vw_C) (tys : List (ClassId × FieldType)) (av : List Value) (w : va_W) (sz : Nat) : Array Value → State → Prop :=
  va_Pc av (fun U => U.heap.size = sz ∧ va_P D cl w U.heap ∧ va_K D cl tys U ∧ va_D (fun _ => True) w ∧ v_XW (va_A w sz) U)
def v_XC (D : va_G) (cl : List vw_C) (tys : List (ClassId × FieldType)) (w : va_W) (sz : Nat) (xo : Option String) : String → State → State → Prop :=
  vx_X (fun (_ : Unit) => True) (fun E _ t => xo = some E ∧ va_P D cl w t.heap ∧ va_K D cl tys t ∧ va_D (va_A w sz) w) (va_A w sz)
/-- contracts of methods that return or throw, the start's functions tell which -/
def v_Xi (l : Launch) (D : va_G) (cl : List vw_C) (tys : List (ClassId × FieldType)) (y : MethodName) (ws : List Cond) (rm : Room) (av : List Value) (w : va_W) (xo : Option String) (r : Int32) (w' : va_W) : Prop :=
  ∀ sz : Nat, vx_Met l y ws rm (v_Pc D cl tys av w sz) (va_Qi (fun (x : Int32) (_ : Unit) => xo = none ∧ x = r) (fun _ t => va_P D cl w' t.heap ∧ va_K D cl tys t ∧ va_D (va_A w sz) w') (va_A w sz)) (v_XC D cl tys w sz xo) rm.cells rm.slots (va_A w sz)
def v_Xv (l : Launch) (D : va_G) (cl : List vw_C) (tys : List (ClassId × FieldType)) (y : MethodName) (ws : List Cond) (rm : Room) (av : List Value) (w : va_W) (xo : Option String) (w' : va_W) : Prop :=
  ∀ sz : Nat, vx_Met l y ws rm (v_Pc D cl tys av w sz) (va_Qv (fun (_ : Unit) => xo = none) (fun _ t => va_P D cl w' t.heap ∧ va_K D cl tys t ∧ va_D (va_A w sz) w') (va_A w sz)) (v_XC D cl tys w sz xo) rm.cells rm.slots (va_A w sz)
def v_QXi (below : List Frame) (s : State) (D : va_G) (cl : List vw_C) (tys : List (ClassId × FieldType)) (rm : Room) (av : List Value) (w : va_W) (xo : Option String) (r : Int32) (w' : va_W) : State → Prop :=
  vx_MQ below (va_Qi (fun (x : Int32) (_ : Unit) => xo = none ∧ x = r) (fun _ t => va_P D cl w' t.heap ∧ va_K D cl tys t ∧ va_D (va_A w s.heap.size) w') (va_A w s.heap.size)) (v_XC D cl tys w s.heap.size xo) av.toArray s rm.cells rm.slots (va_A w s.heap.size)
def v_QXv (below : List Frame) (s : State) (D : va_G) (cl : List vw_C) (tys : List (ClassId × FieldType)) (rm : Room) (av : List Value) (w : va_W) (xo : Option String) (w' : va_W) : State → Prop :=
  vx_MQ below (va_Qv (fun (_ : Unit) => xo = none) (fun _ t => va_P D cl w' t.heap ∧ va_K D cl tys t ∧ va_D (va_A w s.heap.size) w') (va_A w s.heap.size)) (v_XC D cl tys w s.heap.size xo) av.toArray s rm.cells rm.slots (va_A w s.heap.size)
/-- what a walk that may throw stands on beside v_C -/
def v_T (l : Launch) (s : State) (meth : Method) (c : Code) (A : Nat → Prop) : Prop := l.stackTraces = false ∧ v_XW A s ∧ (∀ x ∈ c.exceptionTable.toList, False) ∧ meth.locks = false
theorem v_ofXi {ws' : List Cond} {lv0 : List (Nat × Value)} (hlt : l.stackTraces = false) (hy : plainName y.cls = true) (hw : ws = Cond.code y cc maxL ret :: ws') (hown : y.cls = own) (hlv : lv_args 0 av = lv0) (hn : (lg_sl av).length ≤ maxL)
    (body : ∀ (p : Program) (e : Env) (s : State) (m : MethodId) (below : List Frame) (meth : Method) (c : Code), v_C p s m av.toArray c cc own ws maxL D cl tys (va_A w s.heap.size) → v_T l s meth c (va_A w s.heap.size) → meth.sig.returnType = ret →
      v_V p l e rm s m av.toArray below meth c D cl (va_A w s.heap.size) maxL (v_QXi below s D cl tys rm av w xo r w') 0 0 w 0 lv0 []) : v_Xi l D cl tys y ws rm av w xo r w' := by
  intro sz
  refine vx_ofW (cc := cc) (maxL := maxL) (ret := ret) hy hw ?_
  intro p e s m args below meth c s₁ B hml ht hv
  obtain ⟨rfl, hsz, hP, hK, hD0, hXW⟩ := hv
  subst hsz
  have hl := lv_entry av (n := maxL) hn
  rw [hlv] at hl
  rw [lg_entry_eq]
  exact body p e s m below meth c ⟨B.exec, B.bytes, by rw [← hown]; exact findClass_of_methodNamed B.named, atoms_spec (ws := ws) B.pre, hml, hK, fun q h => Or.inr h⟩ ⟨hlt, hXW, ht, B.notSynchronized⟩ B.returns s.heap [] _ hP (hD0.self (sz := s.heap.size)) va_S.rf hl
theorem v_ofXv {ws' : List Cond} {lv0 : List (Nat × Value)} (hlt : l.stackTraces = false) (hy : plainName y.cls = true) (hw : ws = Cond.code y cc maxL ret :: ws') (hown : y.cls = own) (hlv : lv_args 0 av = lv0) (hn : (lg_sl av).length ≤ maxL)
    (body : ∀ (p : Program) (e : Env) (s : State) (m : MethodId) (below : List Frame) (meth : Method) (c : Code), v_C p s m av.toArray c cc own ws maxL D cl tys (va_A w s.heap.size) → v_T l s meth c (va_A w s.heap.size) → meth.sig.returnType = ret →
      v_V p l e rm s m av.toArray below meth c D cl (va_A w s.heap.size) maxL (v_QXv below s D cl tys rm av w xo w') 0 0 w 0 lv0 []) : v_Xv l D cl tys y ws rm av w xo w' := by
  intro sz
  refine vx_ofW (cc := cc) (maxL := maxL) (ret := ret) hy hw ?_
  intro p e s m args below meth c s₁ B hml ht hv
  obtain ⟨rfl, hsz, hP, hK, hD0, hXW⟩ := hv
  subst hsz
  have hl := lv_entry av (n := maxL) hn
  rw [hlv] at hl
  rw [lg_entry_eq]
  exact body p e s m below meth c ⟨B.exec, B.bytes, by rw [← hown]; exact findClass_of_methodNamed B.named, atoms_spec (ws := ws) B.pre, hml, hK, fun q h => Or.inr h⟩ ⟨hlt, hXW, ht, B.notSynchronized⟩ B.returns s.heap [] _ hP (hD0.self (sz := s.heap.size)) va_S.rf hl
theorem v_xreti (X : v_C p s m av.toArray c cc own Ts nL D cl tys (va_A w0 s.heap.size)) (T : v_T l s meth c (va_A w0 s.heap.size)) {ty : FieldType} (hr : meth.sig.returnType = some ty) (hn : narrow ty (.int x) = .int x) (hxo : xo = none) (hv : x = r) (hw : w = w') (hc : cells ≤ rm.cells) (hs : slots ≤ rm.slots) (hdg : decode cc pc = .ok (.ireturn, 1)) :
    v_V p l e R s m av.toArray below meth c D cl (va_A w0 s.heap.size) nL (v_QXi below s D cl tys rm av w0 xo r w') cells slots w pc lv [.int x] := by
  intro H locs ls hP hD hS hl
  subst hv hw
  refine W.widen hc hs (vx_ret ?_)
  exact W.zret X.1 X.2.1 hr hn (fun t ht hW => ⟨⟨x, (), rfl, ⟨hxo, rfl⟩, by rw [ht]; exact hP, va_K.moved hW.alike X.2.2.2.2.2.1, hD⟩, hS.F ht⟩) hS.2.2 hdg T.2.2.2
theorem v_xretv (X : v_C p s m av.toArray c cc own Ts nL D cl tys (va_A w0 s.heap.size)) (T : v_T l s meth c (va_A w0 s.heap.size)) (hr : meth.sig.returnType = none) (hxo : xo = none) (hw : w = w') (hc : cells ≤ rm.cells) (hs : slots ≤ rm.slots) (hdg : decode cc pc = .ok (.return_, 1)) :
    v_V p l e R s m av.toArray below meth c D cl (va_A w0 s.heap.size) nL (v_QXv below s D cl tys rm av w0 xo w') cells slots w pc lv [] := by
  intro H locs ls hP hD hS hl
  subst hw
  refine W.widen hc hs (vx_ret ?_)
  exact W.vret X.1 X.2.1 hr (fun t ht hW => ⟨⟨(), rfl, hxo, by rw [ht]; exact hP, va_K.moved hW.alike X.2.2.2.2.2.1, hD⟩, hS.F ht⟩) hS.2.2 hdg T.2.2.2
/-- what a throw of E links: the places ik (the class), ic (its constructor) -/
def v_EL (E : String) (ik ic : Nat) : Prop := Bundle.fit E = true ∧ (∀ w ∈ Cond.classLink RX3 ik E :: Cond.initialized E :: vx_atS RX3 ic E v_nm, vx_ot w = true) ∧ (∀ w ∈ (vx_atS RX3 ic E v_nm).filter (fun w => !goodWord w), w ∈ Cond.castable E E :: v_sup.map (fun Y => Cond.declares (Bundle.initS Y))) ∧ E ∈ [v_E1, v_E2, v_E3]
theorem v_EL1 : v_EL v_E1 197 201 := ⟨by decide +kernel, by decide +kernel, by decide +kernel, by decide +kernel⟩
theorem v_EL2 : v_EL v_E2 150 154 := ⟨by decide +kernel, by decide +kernel, by decide +kernel, by decide +kernel⟩
theorem v_EL3 : v_EL v_E3 64 68 := ⟨by decide +kernel, by decide +kernel, by decide +kernel, by decide +kernel⟩
theorem v_nmok : ∀ n ∈ v_nm, Bundle.fit n = true := by decide +kernel
theorem v_throwG {Qc : Array Value → State → Outcome → State → Prop} {E text : String} {ik is ic : Nat} (X : v_C p s m av.toArray c cc RX3 Ts nL D cl tys (va_A w0 s.heap.size)) (T : v_T l s meth c (va_A w0 s.heap.size)) (hE : v_EL E ik ic) (hk : Cond.classLink RX3 ik E ∈ Ts) (hini : Cond.initialized E ∈ Ts) (hat : ∀ w ∈ (vx_atS RX3 ic E v_nm).filter goodWord, w ∈ Ts) (hstr : (is, text) ∈ v_strs)
    (d0 : decode cc pc = .ok (.new ik, 3)) (d3 : decode cc (pc + 3) = .ok (.dup, 1)) (d4 : decode cc (pc + 4) = .ok (.ldc is, 2)) (d6 : decode cc (pc + 6) = .ok (.invokespecial ic, 3)) (d9 : decode cc (pc + 9) = .ok (.athrow, 1))
    (hxo : xo = some E) (hw : w = w0) (hR : 6 ≤ R.frames ∧ (st.map fun v => v.category).sum + 82 ≤ R.locals ∧ cells + 1 ≤ R.cells ∧ slots + 6 ≤ R.slots) (hc : cells + 1 ≤ rm.cells) (hs : slots + 6 ≤ rm.slots) :
    v_V p l e R s m av.toArray below meth c D cl (va_A w0 s.heap.size) nL (vx_MQ below Qc (v_XC D cl tys w0 s.heap.size xo) av.toArray s rm.cells rm.slots (va_A w0 s.heap.size)) cells slots w pc lv st := by
  intro H locs ls hP hD hS hl
  subst hw
  obtain ⟨hEf, hgood, hng, hEm⟩ := hE
  obtain ⟨hlt, hXW, htab, hlocks⟩ := T
  obtain ⟨sa, hsa⟩ := hXW.2.2.1 _ hstr
  have hcast : (Cond.castable E E).before av.toArray s = true := va_Nw.use rfl (hXW.2.2.2.1 E hEm)
  refine vx_throwS (A := va_A w s.heap.size) (text := text) (is := is) (sa := sa) X.1 X.2.1 hlt X.2.2.1 hEf v_nmok (X.2.2.2.1 _ hk) (X.2.2.2.1 _ hini) hsa (vx_hat (fun w hw => X.2.2.2.1 _ (hat w hw)) hng (vx_c hcast (fun w hw => by
    obtain ⟨Y, hY, rfl⟩ := List.mem_map.mp hw
    exact va_Nw.use rfl (hXW.2.2.2.2.1 Y hY)))) hgood hXW.1 hXW.2.1 hS (hl.1.trans X.2.2.2.2.1.symm) d0 d3 d4 d6 d9 (fun x hx => (htab x hx).elim) ?_ ?_ hR.2.2.1 hR.2.2.2 hlocks ?_ hS.2.2 hc hs
  · show 2 + 3 < R.frames
    exact hR.1
  · exact hR.2.1
  · intro t hal hz hk
    refine ⟨(), trivial, ⟨hxo, hP.kept (fun k q hq => hk q.1 (hP k q hq).lt), va_K.moved hal X.2.2.2.2.2.1, hD⟩, Nat.le_trans hS.1 hz, fun q h1 h2 => ?_⟩
    rw [hk q (Nat.lt_of_lt_of_le h1 hS.1)]
    exact hS.2.1 q h1 h2
/-- a thrown E is under way at pc -/
def v_VX (p : Program) (l : Launch) (e : Env) (R : Room) (s : State) (m : MethodId) (args : Array Value) (below : List Frame) (meth : Method) (c : Code) (D : va_G) (cl : List vw_C) (A : Nat → Prop) (nL : Nat) (Q : State → Prop) (cells slots : Nat) (w : va_W) (pc : Nat) (lv : List (Nat × Value)) (st : List Value) (E : String) (q9 : Nat) : Prop :=
  ∀ (H : Heap) (locs : List Loc) (ls : Array Slot) (ce : Cell), va_P D cl w H → va_D A w → va_S A s.heap H locs → lv_has ls nL lv → H[q9]? = some ce → ce.vm = .none → s.vm.findClass E = some ce.cls → vx_W p l e R s m args below meth c H locs cells slots Q (F0 m pc ls st) q9
theorem v_outG {Qc : Array Value → State → Outcome → State → Prop} {E : String} {q9 : Nat} (X : v_C p s m av.toArray c cc own Ts nL D cl tys (va_A w0 s.heap.size)) (T : v_T l s meth c (va_A w0 s.heap.size)) (hxo : xo = some E) (hw : w = w0) (hc : cells ≤ rm.cells) (hs : slots ≤ rm.slots) :
    v_VX p l e R s m av.toArray below meth c D cl (va_A w0 s.heap.size) nL (vx_MQ below Qc (v_XC D cl tys w0 s.heap.size xo) av.toArray s rm.cells rm.slots (va_A w0 s.heap.size)) cells slots w pc lv st E q9 := by
  intro H locs ls ce hP hD hS hl hce hcv hcl
  subst hw
  refine vx_out (fun x hx => (T.2.2.1 x hx).elim) T.2.2.2 hce hcv hcl (fun t ht hal => ?_) hS.2.2 hc hs
  exact ⟨(), trivial, ⟨hxo, by rw [ht]; exact hP, va_K.moved hal X.2.2.2.2.2.1, hD⟩, hS.F ht⟩
theorem v_catch {E name : String} {q9 : Nat} {pre suf : List ExceptionTableEntry} {z : ExceptionTableEntry} (X : v_C p s m args c cc own Ts nL D cl tys A) (htab : c.exceptionTable.toList = pre ++ z :: suf) (hpass : ∀ y ∈ pre, covers y pc = false ∨ (y.catchType ≠ 0 ∧ ∃ nm : String, (Cond.classLink own y.catchType nm).before args s = true ∧ va_Nc E nm s)) (hz : covers z pc = true) (h0 : z.catchType ≠ 0) (hlink : Cond.classLink own z.catchType name ∈ Ts) (hcast : va_Nw (.castable E name) s)
    (k : v_V p l e R s m args below meth c D cl A nL Q cells slots w z.handlerPc lv [.ref q9]) : v_VX p l e R s m args below meth c D cl A nL Q cells slots w pc lv st E q9 := by
  intro H locs ls ce hP hD hS hl hce hcv hcl
  exact vx_catch X.2.2.1 pre z suf htab hpass hz h0 (X.2.2.2.1 _ hlink) (va_Nw.use rfl hcast) hce hcv hcl (k H locs ls hP hD hS hl)
theorem v_blindX {sz : Nat} : FrameBlind (v_Pc D cl tys av w sz) :=
  fun a U g mk q => ⟨q.1, q.2.1, q.2.2.1, va_K.moved (u := U) (U := U.calling g mk a) (Vm.Alike.refl U.vm) q.2.2.2.1, q.2.2.2.2.1, q.2.2.2.2.2.calling⟩
theorem v_preX {H : Heap} {locs : List Loc} (X : v_C p s m args c cc own Ts nL D cl tys A) (hXW : v_XW A s) (hS : va_S A s.heap H locs) (hP : va_P D cl w H) (hD : va_D A w) (hF : ∀ q, va_A w H.size q → A q) (U : State) (hU : U.heap = H) (hW : s.WarmedH U.vm) : v_Pc D cl tys av w H.size av.toArray U :=
  ⟨rfl, by rw [hU], by rw [hU]; exact hP, va_K.moved hW.alike X.2.2.2.2.2.1, hD.weaken (fun _ _ _ _ => trivial), hXW.to hS hU hW hF⟩
/-- calls of methods that may throw -/
theorem v_xcallVi (X : v_C p s m args c cc own Ts nL D cl tys A) (hXW : v_XW A s) (hM : v_Xi l D cl tys y ws rm (.ref b :: As) w xc r w') (cw : CallW R s args own C index y bytes maxL ret ws rm rm.cells rm.slots n)
    (q0 ci : Nat) {q : vw_C} {fs : List Value} (hcl : cl[ci]? = some q) (hqC : q.1 = C) (he : w[q0]? = some (b, .inr (ci, fs))) (hn : As.length = n) (hst : st = As.reverse ++ .ref b :: rest) (hroom : (rest.map fun v => v.category).sum ≤ 8) (hdg : decode cc pc = .ok (.invokevirtual index, 3)) (hf : cells + rm.cells ≤ R.cells ∧ slots + rm.slots ≤ R.slots)
    (kx : ∀ (E : String) (q9 : Nat), xc = some E → v_VX p l e R s m args below meth c D cl A nL Q (cells + rm.cells) (slots + rm.slots) w pc lv rest E q9)
    (kk : xc = none → v_V p l e R s m args below meth c D cl A nL Q (cells + rm.cells) (slots + rm.slots) w' (pc + 3) lv (.int r :: rest)) : v_V p l e R s m args below meth c D cl A nL Q cells slots w pc lv st := by
  intro H locs ls hP hD hS hl
  subst hst hqC
  have hFc := v_fr0 X hD hS
  refine vx_calli (vx_runV (As := As) (rest := rest) ⟨X.1, X.2.1, X.2.2.2.2.1, X.2.2.1, X.2.2.2.1⟩ (hM H.size) cw ⟨v_blindX, va_recv X.2.2.2.2.2.1 hP hcl he, v_preX X hXW hS hP hD hFc⟩ rfl hn hl.1 rfl (lv_room hroom) hdg hf) hS (fun q _ h => hFc q h) hFc (fun q _ h => hFc q h) (fun E ce q9 u t H1 locs1 ht hvm hpx hB hz1 hk1 hS1 hce hcv hfc => ?_) (fun r' u t H1 locs1 ht hvm hw hB hz1 hk1 hS1 => ?_)
  · obtain ⟨hx, hP1, hK1, hD1⟩ := hB
    rw [ht] at hP1
    exact kx E q9 hx H1 locs1 ls ce hP1 hD hS1 hl hce hcv hfc
  · obtain ⟨hP1, hK1, hD1⟩ := hB
    rw [ht] at hP1
    obtain ⟨hx, rfl⟩ := hw
    exact kk hx H1 locs1 ls hP1 (hD1.weaken (fun _ q _ h => hFc q.1 h)) hS1 hl
theorem v_xcallVv (X : v_C p s m args c cc own Ts nL D cl tys A) (hXW : v_XW A s) (hM : v_Xv l D cl tys y ws rm (.ref b :: As) w xc w') (cw : CallW R s args own C index y bytes maxL ret ws rm rm.cells rm.slots n)
    (q0 ci : Nat) {q : vw_C} {fs : List Value} (hcl : cl[ci]? = some q) (hqC : q.1 = C) (he : w[q0]? = some (b, .inr (ci, fs))) (hn : As.length = n) (hst : st = As.reverse ++ .ref b :: rest) (hroom : (rest.map fun v => v.category).sum ≤ 8) (hdg : decode cc pc = .ok (.invokevirtual index, 3)) (hf : cells + rm.cells ≤ R.cells ∧ slots + rm.slots ≤ R.slots)
    (kx : ∀ (E : String) (q9 : Nat), xc = some E → v_VX p l e R s m args below meth c D cl A nL Q (cells + rm.cells) (slots + rm.slots) w pc lv rest E q9)
    (kk : xc = none → v_V p l e R s m args below meth c D cl A nL Q (cells + rm.cells) (slots + rm.slots) w' (pc + 3) lv rest) : v_V p l e R s m args below meth c D cl A nL Q cells slots w pc lv st := by
  intro H locs ls hP hD hS hl
  subst hst hqC
  have hFc := v_fr0 X hD hS
  refine vx_callv (vx_runV (As := As) (rest := rest) ⟨X.1, X.2.1, X.2.2.2.2.1, X.2.2.1, X.2.2.2.1⟩ (hM H.size) cw ⟨v_blindX, va_recv X.2.2.2.2.2.1 hP hcl he, v_preX X hXW hS hP hD hFc⟩ rfl hn hl.1 rfl (lv_room hroom) hdg hf) hS (fun q _ h => hFc q h) hFc (fun q _ h => hFc q h) (fun E ce q9 u t H1 locs1 ht hvm hpx hB hz1 hk1 hS1 hce hcv hfc => ?_) (fun u t H1 locs1 ht hvm hw hB hz1 hk1 hS1 => ?_)
  · obtain ⟨hx, hP1, hK1, hD1⟩ := hB
    rw [ht] at hP1
    exact kx E q9 hx H1 locs1 ls ce hP1 hD hS1 hl hce hcv hfc
  · obtain ⟨hP1, hK1, hD1⟩ := hB
    rw [ht] at hP1
    exact kk hw H1 locs1 ls hP1 (hD1.weaken (fun _ q _ h => hFc q.1 h)) hS1 hl
/-- .. the callee's cells are a part -/
theorem v_xcallVic (X : v_C p s m args c cc own Ts nL D cl tys A) (hXW : v_XW A s) (hM : v_Xi l D cl tys y ws rm (.ref b :: As) wc xc r wc') (cw : CallW R s args own C index y bytes maxL ret ws rm rm.cells rm.slots n) (isC isR perm : List Nat) (hcut : v_cut w wc wr wc' w' isC isR perm) (hcut0 : v_cut w wc wr wc w isC isR perm)
    (q0 ci : Nat) {q : vw_C} {fs : List Value} (hcl : cl[ci]? = some q) (hqC : q.1 = C) (he : wc[q0]? = some (b, .inr (ci, fs))) (hn : As.length = n) (hst : st = As.reverse ++ .ref b :: rest) (hroom : (rest.map fun v => v.category).sum ≤ 8) (hdg : decode cc pc = .ok (.invokevirtual index, 3)) (hf : cells + rm.cells ≤ R.cells ∧ slots + rm.slots ≤ R.slots)
    (kx : ∀ (E : String) (q9 : Nat), xc = some E → v_VX p l e R s m args below meth c D cl A nL Q (cells + rm.cells) (slots + rm.slots) w pc lv rest E q9)
    (kk : xc = none → v_V p l e R s m args below meth c D cl A nL Q (cells + rm.cells) (slots + rm.slots) w' (pc + 3) lv (.int r :: rest)) : v_V p l e R s m args below meth c D cl A nL Q cells slots w pc lv st := by
  intro H locs ls hP hD hS hl
  subst hst hqC
  obtain ⟨hC, hR, hnC, hnR, hdis, hj, hnj⟩ := hcut
  have hPc := hP.sub (ws' := wc) isC (v_fm hC)
  have hDc := hD.sub (ws' := wc) isC hnC hC
  have hFc := va_free (wc := wc) hD hS X.2.2.2.2.2.2 isC hC
  refine vx_calli (vx_runV (As := As) (rest := rest) ⟨X.1, X.2.1, X.2.2.2.2.1, X.2.2.1, X.2.2.2.1⟩ (hM H.size) cw ⟨v_blindX, va_recv X.2.2.2.2.2.1 hPc hcl he, v_preX X hXW hS hPc hDc hFc⟩ rfl hn hl.1 rfl (lv_room hroom) hdg hf) hS (fun q _ h => hFc q h) hFc (fun q _ h => hFc q h) (fun E ce q9 u t H1 locs1 ht hvm hpx hB hz1 hk1 hS1 hce hcv hfc => ?_) (fun r' u t H1 locs1 ht hvm hw hB hz1 hk1 hS1 => ?_)
  · obtain ⟨hx, hP1, hK1, hD1⟩ := hB
    rw [ht] at hP1
    obtain ⟨hP2, hD2⟩ := va_join (wr := wr) (w1 := wc) hP hD isC isR hC hR hnR hdis hk1 hFc hP1 hD1
    exact kx E q9 hx H1 locs1 ls ce (hP2.sub perm (v_fm hcut0.2.2.2.2.2.1)) hD hS1 hl hce hcv hfc
  · obtain ⟨hP1, hK1, hD1⟩ := hB
    rw [ht] at hP1
    obtain ⟨hx, rfl⟩ := hw
    obtain ⟨hP2, hD2⟩ := va_join (wr := wr) (w1 := wc') hP hD isC isR hC hR hnR hdis hk1 hFc hP1 hD1
    exact kk hx H1 locs1 ls (hP2.sub perm (v_fm hj)) (hD2.sub perm hnj hj) hS1 hl
theorem v_xcallVvc (X : v_C p s m args c cc own Ts nL D cl tys A) (hXW : v_XW A s) (hM : v_Xv l D cl tys y ws rm (.ref b :: As) wc xc wc') (cw : CallW R s args own C index y bytes maxL ret ws rm rm.cells rm.slots n) (isC isR perm : List Nat) (hcut : v_cut w wc wr wc' w' isC isR perm) (hcut0 : v_cut w wc wr wc w isC isR perm)
    (q0 ci : Nat) {q : vw_C} {fs : List Value} (hcl : cl[ci]? = some q) (hqC : q.1 = C) (he : wc[q0]? = some (b, .inr (ci, fs))) (hn : As.length = n) (hst : st = As.reverse ++ .ref b :: rest) (hroom : (rest.map fun v => v.category).sum ≤ 8) (hdg : decode cc pc = .ok (.invokevirtual index, 3)) (hf : cells + rm.cells ≤ R.cells ∧ slots + rm.slots ≤ R.slots)
    (kx : ∀ (E : String) (q9 : Nat), xc = some E → v_VX p l e R s m args below meth c D cl A nL Q (cells + rm.cells) (slots + rm.slots) w pc lv rest E q9)
    (kk : xc = none → v_V p l e R s m args below meth c D cl A nL Q (cells + rm.cells) (slots + rm.slots) w' (pc + 3) lv rest) : v_V p l e R s m args below meth c D cl A nL Q cells slots w pc lv st := by
  intro H locs ls hP hD hS hl
  subst hst hqC
  obtain ⟨hC, hR, hnC, hnR, hdis, hj, hnj⟩ := hcut
  have hPc := hP.sub (ws' := wc) isC (v_fm hC)
  have hDc := hD.sub (ws' := wc) isC hnC hC
  have hFc := va_free (wc := wc) hD hS X.2.2.2.2.2.2 isC hC
  refine vx_callv (vx_runV (As := As) (rest := rest) ⟨X.1, X.2.1, X.2.2.2.2.1, X.2.2.1, X.2.2.2.1⟩ (hM H.size) cw ⟨v_blindX, va_recv X.2.2.2.2.2.1 hPc hcl he, v_preX X hXW hS hPc hDc hFc⟩ rfl hn hl.1 rfl (lv_room hroom) hdg hf) hS (fun q _ h => hFc q h) hFc (fun q _ h => hFc q h) (fun E ce q9 u t H1 locs1 ht hvm hpx hB hz1 hk1 hS1 hce hcv hfc => ?_) (fun u t H1 locs1 ht hvm hw hB hz1 hk1 hS1 => ?_)
  · obtain ⟨hx, hP1, hK1, hD1⟩ := hB
    rw [ht] at hP1
    obtain ⟨hP2, hD2⟩ := va_join (wr := wr) (w1 := wc) hP hD isC isR hC hR hnR hdis hk1 hFc hP1 hD1
    exact kx E q9 hx H1 locs1 ls ce (hP2.sub perm (v_fm hcut0.2.2.2.2.2.1)) hD hS1 hl hce hcv hfc
  · obtain ⟨hP1, hK1, hD1⟩ := hB
    rw [ht] at hP1
    obtain ⟨hP2, hD2⟩ := va_join (wr := wr) (w1 := wc') hP hD isC isR hC hR hnR hdis hk1 hFc hP1 hD1
    exact kk hw H1 locs1 ls (hP2.sub perm (v_fm hj)) (hD2.sub perm hnj hj) hS1 hl
theorem v_xcallSv0 (X : v_C p s m args c cc own Ts nL D cl tys A) (hXW : v_XW A s) (hM : v_Xv l D cl tys y ws rm As [] xc []) (cw : CallB R s args own index y bytes maxL ret ws rm rm.cells rm.slots n ∧ (Cond.static y).before args s = true)
    (hn : As.length = n) (hst : st = As.reverse ++ rest) (hroom : (rest.map fun v => v.category).sum ≤ 8) (hdg : decode cc pc = .ok (.invokestatic index, 3)) (hf : cells + rm.cells ≤ R.cells ∧ slots + rm.slots ≤ R.slots)
    (kx : ∀ (E : String) (q9 : Nat), xc = some E → v_VX p l e R s m args below meth c D cl A nL Q (cells + rm.cells) (slots + rm.slots) w pc lv rest E q9)
    (kk : xc = none → v_V p l e R s m args below meth c D cl A nL Q (cells + rm.cells) (slots + rm.slots) w (pc + 3) lv rest) : v_V p l e R s m args below meth c D cl A nL Q cells slots w pc lv st := by
  intro H locs ls hP hD hS hl
  subst hst
  have hP0 : va_P D cl [] H := fun k q h => by simp at h
  have hD0 : va_D A [] := ⟨fun i j p q h => by simp at h, fun k q h => by simp at h⟩
  have hFc : ∀ q, va_A [] H.size q → A q := v_fr0 X hD0 hS
  have hst : ∀ H1 : Heap, (∀ q : Nat, q < H.size → ¬ va_A [] H.size q → H1[q]? = H[q]?) → va_P D cl w H1 := fun H1 hk1 => hP.kept (fun k q hk => hk1 q.1 (hP k q hk).lt (fun h => by
    rcases h with ⟨k2, e2, h⟩ | h
    · simp at h
    · exact absurd (hP k q hk).lt (Nat.not_lt.mpr h)))
  refine vx_callv (vx_runS (As := As) (rest := rest) ⟨X.1, X.2.1, X.2.2.2.2.1, X.2.2.1, X.2.2.2.1⟩ (hM H.size) cw ⟨v_blindX, v_preX X hXW hS hP0 hD0 hFc⟩ rfl hn hl.1 rfl (lv_room hroom) hdg hf) hS (fun q _ h => hFc q h) hFc (fun q _ h => hFc q h) (fun E ce q9 u t H1 locs1 ht hvm hpx hB hz1 hk1 hS1 hce hcv hfc => ?_) (fun u t H1 locs1 ht hvm hw hB hz1 hk1 hS1 => ?_)
  · exact kx E q9 hB.1 H1 locs1 ls ce (hst H1 hk1) hD hS1 hl hce hcv hfc
  · exact kk hw H1 locs1 ls (hst H1 hk1) hD hS1 hl
end VX6
