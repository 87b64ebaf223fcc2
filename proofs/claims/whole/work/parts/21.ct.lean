section V21
variable {p : Program} {l : Launch} {e : Env} {R : Room} {s : State} {m : MethodId} {args : Array Value} {below : List Frame} {meth : Method} {c : Code} {cc : ByteArray} {own : String} {Ts : List Cond} {nL : Nat} {D : va_G} {cl : List vw_C} {tys : List (ClassId × FieldType)} {A : Nat → Prop} {Q : State → Prop} {cells slots : Nat} {w w' : va_W} {pc tgt : Nat} {lv lv' : List (Nat × Value)} {st rest : List Value} {a b n index : Nat} {x r : Int32}
variable {y : MethodName} {bytes : ByteArray} {maxL : Nat} {ret : Option FieldType} {ws : List Cond} {rm : Room} {C : String} {As av : List Value} {wc wc' wr w0 : va_W} {cI cII cL : ClassId}
theorem va_AOA.moved {u U : State} (hvm : u.vm.Alike U.vm) {t : FieldType} (h : va_AOA t u) : va_AOA t U := arrayOver_alikeB hvm h
/-- what the constructors ask beside the words -/
def v_IX (U : State) : Prop := va_AOA .int U ∧ va_Nw (.methodLinkNest RX3 9 yX1_init RX3) U ∧ va_Nw (.methodLinkNest RX3 18 yX0_init RX3) U ∧ va_Nw (.methodLinkNest RX3 25 yX2_init RX3) U
theorem v_IX.warm {s U : State} (hW : s.WarmedH U.vm) (h : v_IX s) : v_IX U := ⟨h.1.moved hW.alike, va_Nw.warmM hW h.2.1, va_Nw.warmM hW h.2.2.1, va_Nw.warmM hW h.2.2.2⟩
theorem v_IX.calling {U : State} {g : JFrame} {mk : MethodId} {a : Array Value} (h : v_IX U) : v_IX (U.calling g mk a) := ⟨va_AOA.moved (u := U) (Vm.Alike.refl U.vm) h.1, va_Nw.same rfl rfl h.2.1, va_Nw.same rfl rfl h.2.2.1, va_Nw.same rfl rfl h.2.2.2⟩
theorem v_newarr (X : v_C p s m args c cc own Ts nL D cl tys A) (harr : Cond.arrayClass .int ∈ Ts) (hI : tys[0]? = some (cI, .int)) {N : Nat} (hN : x.toNatClampNeg = N) (hn : ¬ x < 0) (hb : N * componentBytes .int ≤ 536870912) (hcells : cells + 1 ≤ R.cells) (hslots : slots + N ≤ R.slots) (hdg : decode cc pc = .ok (.newarray .int, 2))
    (kk : ∀ q : Nat, v_V p l e R s m args below meth c D cl A nL Q (cells + 1) (slots + N) (w ++ [(q, .inl (cI, N, .inl (fun _ => 0)))]) (pc + 2) lv (.ref q :: st)) : v_V p l e R s m args below meth c D cl A nL Q cells slots w pc lv (.int x :: st) := by
  intro H locs ls hP hD hS hl
  refine va_newa (atype := .int) (ty := .int) (a0 := (N, .inl (fun _ => 0))) X.1 X.2.1 (X.2.2.2.1 _ harr) rfl X.2.2.2.2.2.1 hP hD hS X.2.2.2.2.2.2 (fun _ => rfl) hn hN hb hcells hslots hdg (fun q cA H1 hK1 hP1 hD1 hS1 => ?_)
  have h1 : s.vm.findClass ("[" ++ FieldType.int.toString) = some cI := (X.2.2.2.2.2.1.2 0 _ hI).2
  have h2 : s.vm.findClass ("[" ++ FieldType.int.toString) = some cA := (hK1.2 tys.length (cA, .int) (by simp)).2
  obtain rfl : cI = cA := Option.some.inj (h1.symm.trans h2)
  exact kk q H1 locs ls hP1 hD1 hS1 hl
theorem v_newlong (X : v_C p s m args c cc own Ts nL D cl tys A) (harr : Cond.arrayClass .long ∈ Ts) (hI : tys[2]? = some (cL, .long)) {N : Nat} (hN : x.toNatClampNeg = N) (hn : ¬ x < 0) (hb : N * componentBytes .long ≤ 536870912) (hcells : cells + 1 ≤ R.cells) (hslots : slots + N ≤ R.slots) (hdg : decode cc pc = .ok (.newarray .long, 2))
    (kk : ∀ q : Nat, v_V p l e R s m args below meth c D cl A nL Q (cells + 1) (slots + N) (w ++ [(q, .inl (cL, N, .inr (.inl (fun _ => 0))))]) (pc + 2) lv (.ref q :: st)) : v_V p l e R s m args below meth c D cl A nL Q cells slots w pc lv (.int x :: st) := by
  intro H locs ls hP hD hS hl
  refine va_newa (atype := .long) (ty := .long) (a0 := (N, .inr (.inl (fun _ => 0)))) X.1 X.2.1 (X.2.2.2.1 _ harr) rfl X.2.2.2.2.2.1 hP hD hS X.2.2.2.2.2.2 (fun _ => rfl) hn hN hb hcells hslots hdg (fun q cA H1 hK1 hP1 hD1 hS1 => ?_)
  have h1 : s.vm.findClass ("[" ++ FieldType.long.toString) = some cL := (X.2.2.2.2.2.1.2 2 _ hI).2
  have h2 : s.vm.findClass ("[" ++ FieldType.long.toString) = some cA := (hK1.2 tys.length (cA, .long) (by simp)).2
  obtain rfl : cL = cA := Option.some.inj (h1.symm.trans h2)
  exact kk q H1 locs ls hP1 hD1 hS1 hl
theorem v_newobj (X : v_C p s m args c cc own Ts nL D cl tys A) {T : u_T} {N ci : Nat} (hin : ∀ w ∈ u_ws C T N, w ∈ Ts) (ty : Nat → FieldType) (hty : ∀ k, k < N → parseFieldDescriptor (T k).2.2.1 = some (ty k)) (hcl : Cond.classLink own index C ∈ Ts) (hinst : Cond.instantiable C N ∈ Ts) (hini : Cond.initialized C ∈ Ts) (hc : cl[ci]? = some (C, T, N)) {fs : List Value} (hfs : ∀ j, j < N → defaultValue (ty j) = vp_V fs j) (hcells : cells + 1 ≤ R.cells) (hslots : slots + N ≤ R.slots) (hdg : decode cc pc = .ok (.new index, 3))
    (kk : ∀ q : Nat, v_V p l e R s m args below meth c D cl A nL Q (cells + 1) (slots + N) (w ++ [(q, .inr (ci, fs))]) (pc + 3) lv (.ref q :: st)) : v_V p l e R s m args below meth c D cl A nL Q cells slots w pc lv st :=
  fun H locs ls hP hD hS hl => va_new X.1 X.2.1 X.2.2.2.1 hin ty hty X.2.2.1 (X.2.2.2.1 _ hcl) (X.2.2.2.1 _ hinst) (X.2.2.2.1 _ hini) X.2.2.2.2.2.1 hP hD hS X.2.2.2.2.2.2 hc hfs hcells hslots hdg (fun q H1 hP1 hD1 hS1 => kk q H1 locs ls hP1 hD1 hS1 hl)
theorem v_rows (r : Nat → Nat) (e : va_E) (f : Nat → va_E) : va_pl ([] ++ (List.range 5).map r) (vr_up f ((List.range 5).map r) e) = [(r 0, e), (r 1, e), (r 2, e), (r 3, e), (r 4, e)] := by
  simp [va_pl, List.range_succ, vr_up]
theorem v_mna (X : v_C p s m args c cc own Ts nL D cl tys A) (hover : va_AOA .int s) (hlink : Cond.classLink own index "[[I" ∈ Ts) (harr : Cond.arrayClass .int ∈ Ts) (hI : tys[0]? = some (cI, .int)) (hII : tys[1]? = some (cII, .array .int)) (hcells : cells + 6 ≤ R.cells) (hslots : slots + 45 ≤ R.slots) (hdg : decode cc pc = .ok (.multianewarray index 2, 4))
    (kk : ∀ (q : Nat) (r : Nat → Nat), v_V p l e R s m args below meth c D cl A nL Q (cells + 6) (slots + 45) ((w ++ [(q, .inl (cII, 5, .inr (.inr (.inr (.inr (fun i => if i < 5 then some (r i) else none))))))]) ++ [(r 0, .inl (cI, 8, .inl (fun _ => 0))), (r 1, .inl (cI, 8, .inl (fun _ => 0))), (r 2, .inl (cI, 8, .inl (fun _ => 0))), (r 3, .inl (cI, 8, .inl (fun _ => 0))), (r 4, .inl (cI, 8, .inl (fun _ => 0)))]) (pc + 4) lv (.ref q :: st)) : v_V p l e R s m args below meth c D cl A nL Q cells slots w pc lv (.int 8 :: .int 5 :: st) := by
  intro H locs ls hP hD hS hl
  have h1 : s.vm.findClass ("[" ++ FieldType.int.toString) = some cI := (X.2.2.2.2.2.1.2 0 _ hI).2
  have h3 : s.vm.findClass ("[" ++ (FieldType.array .int).toString) = some cII := (X.2.2.2.2.2.1.2 1 _ hII).2
  have eP : w ++ va_pl [] (fun _ => (Sum.inr (0, []) : va_E)) = w := by simp [va_pl]
  refine va_mna (X := w) (L := []) (f := fun _ => (Sum.inr (0, []) : va_E)) (ty := .int) (cy := cI) (N' := 5) (K' := 8) (z := (8, .inl (fun _ => 0))) X.1 X.2.1 X.2.2.1 (X.2.2.2.1 _ hlink) hover (X.2.2.2.1 _ harr) h1 X.2.2.2.2.2.1 (by rw [eP]; exact hP) (by rw [eP]; exact hD) hS X.2.2.2.2.2.2 (by decide) (by decide) rfl rfl (by decide) (by decide) (by decide) rfl rfl hcells hslots (fun c => ?_) hdg (fun q r cA H1 hr1 hr2 hK1 hP1 hD1 hS1 => ?_)
  · show ({ cls := c, slots := Array.replicate 8 (defaultValue .int), vm := .none } : Cell) = arrV c 8 (fun _ => .int 0)
    rw [arrV_new]
    rfl
  · have h2 : s.vm.findClass ("[" ++ (FieldType.array .int).toString) = some cA := (hK1.2 tys.length (cA, .array .int) (by simp)).2
    obtain rfl : cII = cA := Option.some.inj (h3.symm.trans h2)
    rw [v_rows] at hP1 hD1
    exact kk q r H1 locs ls hP1 hD1 hS1 hl
theorem v_objinit (X : v_C p s m args c cc own Ts nL D cl tys A) (hlink : Cond.methodLink own index Lib.objectInit ∈ Ts) (hinst : Cond.instanceMethod Lib.objectInit ∈ Ts) (hcode : Cond.code Lib.objectInit ⟨#[0xb1]⟩ 1 none ∈ Ts) (hdg : decode cc pc = .ok (.invokespecial index, 3)) (hf : 1 ≤ R.frames) (hloc : (st.map fun v => v.category).sum + 12 ≤ R.locals)
    (k : v_V p l e R s m args below meth c D cl A nL Q cells slots w (pc + 3) lv st) : v_V p l e R s m args below meth c D cl A nL Q cells slots w pc lv (.ref a :: st) := by
  intro H locs ls hP hD hS hl
  refine W.objInit X.1 X.2.1 X.2.2.1 (X.2.2.2.1 _ hlink) (X.2.2.2.1 _ hinst) (X.2.2.2.1 _ hcode) rfl (hl.1.trans X.2.2.2.2.1.symm) rfl hdg hf (by show 2 * 0 + _ + 12 ≤ _; omega) (k H locs ls hP hD hS hl)
theorem v_perm (is : List Nat) (hs : is.map (fun i => w[i]?) = w'.map some) (hn : va_nd is = true) (k : v_V p l e R s m args below meth c D cl A nL Q cells slots w' pc lv st) : v_V p l e R s m args below meth c D cl A nL Q cells slots w pc lv st :=
  fun H locs ls hP hD hS hl => k H locs ls (hP.sub is (v_fm hs)) (hD.sub is hn hs) hS hl
/-- contracts of constructors: the new cells' addresses come with the end -/
def v_Pi (D : va_G) (cl : List vw_C) (tys : List (ClassId × FieldType)) (av : List Value) (w : va_W) (sz : Nat) : Array Value → State → Prop :=
  va_Pc av (fun U => U.heap.size = sz ∧ va_P D cl w U.heap ∧ va_K D cl tys U ∧ va_D (fun _ => True) w ∧ v_IX U)
def v_Ci (l : Launch) (D : va_G) (cl : List vw_C) (tys : List (ClassId × FieldType)) (y : MethodName) (ws : List Cond) (rm : Room) (av : List Value) (w : va_W) (post : (Nat → Nat) → Prop) (w' : (Nat → Nat) → va_W) : Prop :=
  ∀ sz : Nat, Met l y ws rm (v_Pi D cl tys av w sz) (va_Qv post (fun h t => va_P D cl (w' h) t.heap ∧ va_K D cl tys t ∧ va_D (va_A w sz) (w' h)) (va_A w sz)) rm.cells rm.slots (va_A w sz)
def v_Qc (below : List Frame) (s : State) (D : va_G) (cl : List vw_C) (tys : List (ClassId × FieldType)) (rm : Room) (av : List Value) (w : va_W) (post : (Nat → Nat) → Prop) (w' : (Nat → Nat) → va_W) : State → Prop :=
  MQ below (va_Qv post (fun h t => va_P D cl (w' h) t.heap ∧ va_K D cl tys t ∧ va_D (va_A w s.heap.size) (w' h)) (va_A w s.heap.size)) av.toArray s rm.cells rm.slots (va_A w s.heap.size)
theorem v_ofCi {ws' : List Cond} {post : (Nat → Nat) → Prop} {w1 : (Nat → Nat) → va_W} {lv0 : List (Nat × Value)} (hy : plainName y.cls = true) (hw : ws = Cond.code y cc maxL none :: ws') (hown : y.cls = own) (hlv : lv_args 0 av = lv0) (hn : (lg_sl av).length ≤ maxL) (hyn : y.name = "<init>")
    (body : ∀ (p : Program) (e : Env) (s : State) (m : MethodId) (below : List Frame) (meth : Method) (c : Code), v_C p s m av.toArray c cc own ws maxL D cl tys (va_A w s.heap.size) → v_IX s → meth.sig.returnType = none → meth.locks = false → meth.name = "<init>" →
      v_V p l e rm s m av.toArray below meth c D cl (va_A w s.heap.size) maxL (v_Qc below s D cl tys rm av w post w1) 0 0 w 0 lv0 []) : v_Ci l D cl tys y ws rm av w post w1 := by
  intro sz
  refine Met.ofW (cc := cc) (maxL := maxL) (ret := none) hy hw ?_
  intro p e s m args below meth c s₁ B hml hv
  obtain ⟨rfl, hsz, hP, hK, hD0, hIX⟩ := hv
  subst hsz
  have hl := lv_entry av (n := maxL) hn
  rw [hlv] at hl
  rw [lg_entry_eq]
  exact body p e s m below meth c ⟨B.exec, B.bytes, by rw [← hown]; exact findClass_of_methodNamed B.named, atoms_spec (ws := ws) B.pre, hml, hK, fun q h => Or.inr h⟩ hIX B.returns B.notSynchronized ((name_of_methodNamed B.named B.method).1.trans hyn) s.heap [] _ hP (hD0.self (sz := s.heap.size)) va_S.rf hl
theorem v_retc {post : (Nat → Nat) → Prop} {w1 : (Nat → Nat) → va_W} (X : v_C p s m av.toArray c cc own Ts nL D cl tys (va_A w0 s.heap.size)) (hr : meth.sig.returnType = none) (hlk : meth.locks = false) (h : Nat → Nat) (hp : post h) (hw : w = w1 h) (hc : cells ≤ rm.cells) (hs : slots ≤ rm.slots) (hdg : decode cc pc = .ok (.return_, 1)) :
    v_V p l e R s m av.toArray below meth c D cl (va_A w0 s.heap.size) nL (v_Qc below s D cl tys rm av w0 post w1) cells slots w pc lv [] := by
  intro H locs ls hP hD hS hl
  subst hw
  refine W.widen hc hs ?_
  exact W.vret X.1 X.2.1 hr (fun t ht hW => ⟨⟨h, rfl, hp, by rw [ht]; exact hP, va_K.moved hW.alike X.2.2.2.2.2.1, hD⟩, hS.F ht⟩) hS.2.2 hdg hlk
theorem v_blindI {sz : Nat} : FrameBlind (v_Pi D cl tys av w sz) :=
  fun a U g mk q => ⟨q.1, q.2.1, q.2.2.1, va_K.moved (u := U) (U := U.calling g mk a) (Vm.Alike.refl U.vm) q.2.2.2.1, q.2.2.2.2.1, q.2.2.2.2.2.calling⟩
theorem v_preI {H : Heap} (X : v_C p s m args c cc own Ts nL D cl tys A) (hIX : v_IX s) (hP : va_P D cl w H) (hD : va_D A w) (U : State) (hU : U.heap = H) (hW : s.WarmedH U.vm) : v_Pi D cl tys av w H.size av.toArray U :=
  ⟨rfl, by rw [hU], by rw [hU]; exact hP, va_K.moved hW.alike X.2.2.2.2.2.1, hD.weaken (fun _ _ _ _ => trivial), hIX.warm hW⟩
theorem v_callI {post : (Nat → Nat) → Prop} {w1 : (Nat → Nat) → va_W} (X : v_C p s m args c cc own Ts nL D cl tys A) (hIX : v_IX s) (hM : v_Ci l D cl tys y ws rm (.ref b :: As) wc post w1) (cw : CallB R s args own index y bytes maxL none ws rm rm.cells rm.slots n ∧ y.name = "<init>" ∧ (Cond.instanceMethod y).before args s = true) (isC isR : List Nat) (hC : isC.map (fun i => w[i]?) = wc.map some) (hR : isR.map (fun i => w[i]?) = wr.map some) (hnC : va_nd isC = true) (hnR : va_nd isR = true) (hdis : ∀ i ∈ isR, i ∉ isC)
    (hn : As.length = n) (hst : st = As.reverse ++ .ref b :: rest) (hroom : (rest.map fun v => v.category).sum ≤ 8) (hdg : decode cc pc = .ok (.invokespecial index, 3)) (hf : cells + rm.cells ≤ R.cells ∧ slots + rm.slots ≤ R.slots)
    (kk : ∀ h, post h → v_V p l e R s m args below meth c D cl A nL Q (cells + rm.cells) (slots + rm.slots) (wr ++ w1 h) (pc + 3) lv rest) : v_V p l e R s m args below meth c D cl A nL Q cells slots w pc lv st := by
  intro H locs ls hP hD hS hl
  subst hst
  have hPc := hP.sub (ws' := wc) isC (v_fm hC)
  have hDc := hD.sub (ws' := wc) isC hnC hC
  have hFc := va_free (wc := wc) hD hS X.2.2.2.2.2.2 isC hC
  refine va_callv (va_runI (As := As) (rest := rest) ⟨X.1, X.2.1, X.2.2.2.2.1, X.2.2.1, X.2.2.2.1⟩ (hM H.size) cw ⟨v_blindI, v_preI X hIX hPc hDc⟩ rfl hn hl.1 rfl (lv_room hroom) hdg hf) hS (fun q _ h => hFc q h) hFc (fun u t H1 locs1 ht hvm hw hB hz1 hk1 hS1 => ?_)
  obtain ⟨hP1, hK1, hD1⟩ := hB
  rw [ht] at hP1
  obtain ⟨hP2, hD2⟩ := va_join (wr := wr) (w1 := w1 u) hP hD isC isR hC hR hnR hdis hk1 hFc hP1 hD1
  exact kk u hw H1 locs1 ls hP2 hD2 hS1 hl
theorem v_callIN {host : String} {post : (Nat → Nat) → Prop} {w1 : (Nat → Nat) → va_W} (X : v_C p s m args c cc own Ts nL D cl tys A) (hIX : v_IX s) (hM : v_Ci l D cl tys y ws rm (.ref b :: As) wc post w1) (cw : va_CN R s args own index y host bytes maxL none ws rm rm.cells rm.slots n ∧ y.name = "<init>" ∧ (Cond.instanceMethod y).before args s = true) (isC isR : List Nat) (hC : isC.map (fun i => w[i]?) = wc.map some) (hR : isR.map (fun i => w[i]?) = wr.map some) (hnC : va_nd isC = true) (hnR : va_nd isR = true) (hdis : ∀ i ∈ isR, i ∉ isC)
    (hn : As.length = n) (hst : st = As.reverse ++ .ref b :: rest) (hroom : (rest.map fun v => v.category).sum ≤ 8) (hdg : decode cc pc = .ok (.invokespecial index, 3)) (hf : cells + rm.cells ≤ R.cells ∧ slots + rm.slots ≤ R.slots)
    (kk : ∀ h, post h → v_V p l e R s m args below meth c D cl A nL Q (cells + rm.cells) (slots + rm.slots) (wr ++ w1 h) (pc + 3) lv rest) : v_V p l e R s m args below meth c D cl A nL Q cells slots w pc lv st := by
  intro H locs ls hP hD hS hl
  subst hst
  have hPc := hP.sub (ws' := wc) isC (v_fm hC)
  have hDc := hD.sub (ws' := wc) isC hnC hC
  have hFc := va_free (wc := wc) hD hS X.2.2.2.2.2.2 isC hC
  refine va_callv (va_runIN (As := As) (rest := rest) ⟨X.1, X.2.1, X.2.2.2.2.1, X.2.2.1, X.2.2.2.1⟩ (hM H.size) cw ⟨v_blindI, v_preI X hIX hPc hDc⟩ rfl hn hl.1 rfl (lv_room hroom) hdg hf) hS (fun q _ h => hFc q h) hFc (fun u t H1 locs1 ht hvm hw hB hz1 hk1 hS1 => ?_)
  obtain ⟨hP1, hK1, hD1⟩ := hB
  rw [ht] at hP1
  obtain ⟨hP2, hD2⟩ := va_join (wr := wr) (w1 := w1 u) hP hD isC isR hC hR hnR hdis hk1 hFc hP1 hD1
  exact kk u hw H1 locs1 ls hP2 hD2 hS1 hl
theorem v_alen (X : v_C p s m args c cc own Ts nL D cl tys A) (q0 t0 : Nat) {cA : ClassId} {xx : vp_A} (ha : w[q0]? = some (a, .inl (cA, xx))) {ty : FieldType} (ht : tys[t0]? = some (cA, ty)) {v : Int32} (hv : Int32.ofNat xx.1 = v) (hdg : decode cc pc = .ok (.arraylength, 1)) (kk : v_V p l e R s m args below meth c D cl A nL Q cells slots w (pc + 1) lv (.int v :: st)) : v_V p l e R s m args below meth c D cl A nL Q cells slots w pc lv (.ref a :: st) :=
  fun H locs ls hP hD hS hl => va_alen X.1 X.2.1 X.2.2.2.2.2.1 hP q0 t0 ha ht hv hdg (kk H locs ls hP hD hS hl)
/-- a static method on a part of the world -/
theorem v_callSvc (X : v_C p s m args c cc own Ts nL D cl tys A) (hM : v_Mv l D cl tys y ws rm As wc wc') (cw : CallB R s args own index y bytes maxL ret ws rm rm.cells rm.slots n ∧ (Cond.static y).before args s = true) (isC isR perm : List Nat) (hcut : v_cut w wc wr wc' w' isC isR perm)
    (hn : As.length = n) (hst : st = As.reverse ++ rest) (hroom : (rest.map fun v => v.category).sum ≤ 8) (hdg : decode cc pc = .ok (.invokestatic index, 3)) (hf : cells + rm.cells ≤ R.cells ∧ slots + rm.slots ≤ R.slots)
    (kk : v_V p l e R s m args below meth c D cl A nL Q (cells + rm.cells) (slots + rm.slots) w' (pc + 3) lv rest) : v_V p l e R s m args below meth c D cl A nL Q cells slots w pc lv st := by
  intro H locs ls hP hD hS hl
  subst hst
  obtain ⟨hC, hR, hnC, hnR, hdis, hj, hnj⟩ := hcut
  have hPc := hP.sub (ws' := wc) isC (v_fm hC)
  have hDc := hD.sub (ws' := wc) isC hnC hC
  have hFc := va_free (wc := wc) hD hS X.2.2.2.2.2.2 isC hC
  refine va_callv (va_runS (As := As) (rest := rest) ⟨X.1, X.2.1, X.2.2.2.2.1, X.2.2.1, X.2.2.2.1⟩ (hM H.size) cw ⟨v_blind, v_pre X hPc hDc⟩ rfl hn hl.1 rfl (lv_room hroom) hdg hf) hS (fun q _ h => hFc q h) hFc (fun u t H1 locs1 ht hvm hw hB hz1 hk1 hS1 => ?_)
  obtain ⟨hP1, hK1, hD1⟩ := hB
  rw [ht] at hP1
  obtain ⟨hP2, hD2⟩ := va_join (wr := wr) (w1 := wc') hP hD isC isR hC hR hnR hdis hk1 hFc hP1 hD1
  exact kk H1 locs1 ls (hP2.sub perm (v_fm hj)) (hD2.sub perm hnj hj) hS1 hl
end V21
