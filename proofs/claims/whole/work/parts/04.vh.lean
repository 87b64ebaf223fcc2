section VH
variable {p : Program} {l : Launch} {e : Env} {R : Room} {s : State} {m : MethodId} {args : Array Value} {below : List Frame} {meth : Method} {c : Code} {cc : ByteArray} {own : String} {Ts : List Cond} {nL : Nat} {D : va_G} {cl : List vw_C} {tys : List (ClassId × FieldType)} {A : Nat → Prop} {Q : State → Prop} {cells slots : Nat} {w w' : va_W} {pc tgt : Nat} {lv lv' : List (Nat × Value)} {st : List Value} {x y z : Int32} {off : Int} {a : Nat} {cA : ClassId} {n : Nat}
theorem v_getfield (X : v_C p s m args c cc own Ts nL D cl tys A) {ref C : String} {T : u_T} {N ci index : Nat} (hin : ∀ w ∈ u_ws C T N, w ∈ Ts) (q0 : Nat) {fs : List Value} (he : w[q0]? = some (a, .inr (ci, fs))) (hc : cl[ci]? = some (C, T, N)) (k : Nat) (hk : k < N) (hlink : Cond.fieldLink own index ref (T k).2.1 (T k).2.2.1 ∈ Ts) (hsame : ∀ x, s.fieldFound? (T k).1 (T k).2.1 (T k).2.2.1 = some x → s.fieldFound? ref (T k).2.1 (T k).2.2.1 = some x) {v : Value} (hv : fs[k]? = some v) (hdg : decode cc pc = .ok (.getfield index, 3))
    (kk : v_V p l e R s m args below meth c D cl A nL Q cells slots w (pc + 3) lv (v :: st)) : v_V p l e R s m args below meth c D cl A nL Q cells slots w pc lv (.ref a :: st) :=
  fun H locs ls hP hD hS hl => va_get X.1 X.2.1 X.2.2.2.1 hin X.2.2.1 X.2.2.2.2.2.1 hP q0 he hc k hk (X.2.2.2.1 _ hlink) hsame hv hdg (kk H locs ls hP hD hS hl)
theorem v_putfield (X : v_C p s m args c cc own Ts nL D cl tys A) {ref C : String} {T : u_T} {N ci index : Nat} (hin : ∀ w ∈ u_ws C T N, w ∈ Ts) (ty0 : Nat → FieldType) (hty : ∀ k, k < N → parseFieldDescriptor (T k).2.2.1 = some (ty0 k)) (hnm : ∀ a, a < N → ∀ b, b < N → a ≠ b → (T a).2.1 ≠ (T b).2.1) (q0 : Nat) {fs : List Value} (he : w[q0]? = some (a, .inr (ci, fs))) (hc : cl[ci]? = some (C, T, N)) (k : Nat) (hk : k < N) (hlink : Cond.fieldLink own index ref (T k).2.1 (T k).2.2.1 ∈ Ts) (hsame : ∀ x, s.fieldFound? (T k).1 (T k).2.1 (T k).2.2.1 = some x → s.fieldFound? ref (T k).2.1 (T k).2.2.1 = some x) (hfin : (T k).2.2.2 = false) {ty : FieldType} {v : Value} (hd : parseFieldDescriptor (T k).2.2.1 = some ty) (hn : narrow ty v = v) (hfit : fits ty v = true) (hlen : k < fs.length) (hdg : decode cc pc = .ok (.putfield index, 3)) (hw : w.set q0 (a, .inr (ci, fs.set k v)) = w')
    (kk : v_V p l e R s m args below meth c D cl A nL Q cells slots w' (pc + 3) lv st) : v_V p l e R s m args below meth c D cl A nL Q cells slots w pc lv (v :: .ref a :: st) := by
  intro H locs ls hP hD hS hl
  subst hw
  exact va_put X.1 X.2.1 X.2.2.2.1 hin ty0 hty hnm X.2.2.1 X.2.2.2.2.2.1 hP hD hS q0 he hc k hk (X.2.2.2.1 _ hlink) hsame hfin hd hn hfit hlen hdg (fun H1 locs1 hP1 hD1 hS1 => kk H1 locs1 ls hP1 hD1 hS1 hl)
theorem v_putfieldF (X : v_C p s m args c cc own Ts nL D cl tys A) {ref C : String} {T : u_T} {N ci index : Nat} (hin : ∀ w ∈ u_ws C T N, w ∈ Ts) (ty0 : Nat → FieldType) (hty : ∀ k, k < N → parseFieldDescriptor (T k).2.2.1 = some (ty0 k)) (hnm : ∀ a, a < N → ∀ b, b < N → a ≠ b → (T a).2.1 ≠ (T b).2.1) (q0 : Nat) {fs : List Value} (he : w[q0]? = some (a, .inr (ci, fs))) (hc : cl[ci]? = some (C, T, N)) (k : Nat) (hk : k < N) (hlink : Cond.fieldLink own index ref (T k).2.1 (T k).2.2.1 ∈ Ts) (hsame : ∀ x, s.fieldFound? (T k).1 (T k).2.1 (T k).2.2.1 = some x → s.fieldFound? ref (T k).2.1 (T k).2.2.1 = some x) (hfin : (T k).2.2.2 = true) (hin2 : meth.name = "<init>") (hdecl : (T k).1 = own) {ty : FieldType} {v : Value} (hd : parseFieldDescriptor (T k).2.2.1 = some ty) (hn : narrow ty v = v) (hfit : fits ty v = true) (hlen : k < fs.length) (hdg : decode cc pc = .ok (.putfield index, 3)) (hw : w.set q0 (a, .inr (ci, fs.set k v)) = w')
    (kk : v_V p l e R s m args below meth c D cl A nL Q cells slots w' (pc + 3) lv st) : v_V p l e R s m args below meth c D cl A nL Q cells slots w pc lv (v :: .ref a :: st) := by
  intro H locs ls hP hD hS hl
  subst hw
  exact va_putF X.1 X.2.1 X.2.2.2.1 hin ty0 hty hnm X.2.2.1 X.2.2.2.2.2.1 hP hD hS q0 he hc k hk (X.2.2.2.1 _ hlink) hsame hfin hin2 hdecl hd hn hfit hlen hdg (fun H1 locs1 hP1 hD1 hS1 => kk H1 locs1 ls hP1 hD1 hS1 hl)
theorem v_iald (X : v_C p s m args c cc own Ts nL D cl tys A) (q0 t0 : Nat) {f : Nat → Int32} (ha : w[q0]? = some (a, .inl (cA, n, .inl f))) (ht : tys[t0]? = some (cA, .int)) {i : Int32} (hin : vp_in i n) (hdg : decode cc pc = .ok (.iaload, 1))
    (kk : v_V p l e R s m args below meth c D cl A nL Q cells slots w (pc + 1) lv (.int (f i.toNatClampNeg) :: st)) : v_V p l e R s m args below meth c D cl A nL Q cells slots w pc lv (.int i :: .ref a :: st) :=
  fun H locs ls hP hD hS hl => va_iald X.1 X.2.1 X.2.2.2.2.2.1 hP q0 t0 ha ht hin hdg (kk H locs ls hP hD hS hl)
theorem v_iast (X : v_C p s m args c cc own Ts nL D cl tys A) (q0 t0 : Nat) {f : Nat → Int32} (ha : w[q0]? = some (a, .inl (cA, n, .inl f))) (ht : tys[t0]? = some (cA, .int)) {i : Int32} (hin : vp_in i n) (hdg : decode cc pc = .ok (.iastore, 1)) (hw : w.set q0 (a, .inl (cA, n, .inl (upd f i.toNatClampNeg x))) = w')
    (kk : v_V p l e R s m args below meth c D cl A nL Q cells slots w' (pc + 1) lv st) : v_V p l e R s m args below meth c D cl A nL Q cells slots w pc lv (.int x :: .int i :: .ref a :: st) := by
  intro H locs ls hP hD hS hl
  subst hw
  exact va_iast X.1 X.2.1 X.2.2.2.2.2.1 hP hD hS q0 t0 ha ht hin hdg (fun H1 locs1 hP1 hD1 hS1 => kk H1 locs1 ls hP1 hD1 hS1 hl)
theorem va_ald2 {H : Heap} {locs : List Loc} {ls : Array Slot} {ws : va_W} (hexec : p.tables.exec = Jvm.exec) (hb : c.code = cc) (hK : va_K D cl tys s) (hP : va_P D cl ws H) (q0 t0 : Nat) {f : Nat → Option Nat} (ha : ws[q0]? = some (a, .inl (cA, n, .inr (.inr (.inr (.inr f)))))) (ht : tys[t0]? = some (cA, .array .int)) {i : Int32} (hin : vp_in i n) (hdg : decode cc pc = .ok (.aaload, 1))
    (kk : W p l e R s m args below meth c H locs cells slots Q (F0 m (pc + 1) ls (va_rf (f i.toNatClampNeg) :: st))) : W p l e R s m args below meth c H locs cells slots Q (F0 m pc ls (.int i :: .ref a :: st)) := by
  have hlt : i.toNatClampNeg < n := Nat.not_le.mp fun q => hin (Or.inr q)
  exact W.aald (v := va_rf (f i.toNatClampNeg)) (ty := .array .int) hexec hb (hP q0 _ ha) ((hK.2 t0 _ ht).1 n (fun j => va_rf (f j))) rfl (fun q => by cases q) (by show ¬ (i < 0 ∨ (arrV _ _ _).slots.size ≤ _); rw [arrV_size]; exact hin) (by show (arrV _ _ _).slots[_]? = _; rw [arrV_read _ _ hlt]) rfl rfl hdg kk
theorem v_aald (X : v_C p s m args c cc own Ts nL D cl tys A) (q0 t0 : Nat) {f : Nat → Option Nat} (ha : w[q0]? = some (a, .inl (cA, n, .inr (.inr (.inr (.inr f)))))) (ht : tys[t0]? = some (cA, .array .int)) {i : Int32} (hin : vp_in i n) {b : Nat} (hf : f i.toNatClampNeg = some b) (hdg : decode cc pc = .ok (.aaload, 1))
    (kk : v_V p l e R s m args below meth c D cl A nL Q cells slots w (pc + 1) lv (.ref b :: st)) : v_V p l e R s m args below meth c D cl A nL Q cells slots w pc lv (.int i :: .ref a :: st) := by
  intro H locs ls hP hD hS hl
  refine va_ald2 X.1 X.2.1 X.2.2.2.2.2.1 hP q0 t0 ha ht hin hdg ?_
  rw [hf]
  exact kk H locs ls hP hD hS hl
theorem v_lald (X : v_C p s m args c cc own Ts nL D cl tys A) (q0 t0 : Nat) {f : Nat → Int64} (ha : w[q0]? = some (a, .inl (cA, n, .inr (.inl f)))) (ht : tys[t0]? = some (cA, .long)) {i : Int32} (hin : vp_in i n) (hdg : decode cc pc = .ok (.laload, 1))
    (kk : v_V p l e R s m args below meth c D cl A nL Q cells slots w (pc + 1) lv (.long (f i.toNatClampNeg) :: st)) : v_V p l e R s m args below meth c D cl A nL Q cells slots w pc lv (.int i :: .ref a :: st) :=
  fun H locs ls hP hD hS hl => va_lald X.1 X.2.1 X.2.2.2.2.2.1 hP q0 t0 ha ht hin hdg (kk H locs ls hP hD hS hl)
theorem v_last (X : v_C p s m args c cc own Ts nL D cl tys A) (q0 t0 : Nat) {f : Nat → Int64} {v : Int64} (ha : w[q0]? = some (a, .inl (cA, n, .inr (.inl f)))) (ht : tys[t0]? = some (cA, .long)) {i : Int32} (hin : vp_in i n) (hdg : decode cc pc = .ok (.lastore, 1)) (hw : w.set q0 (a, .inl (cA, n, .inr (.inl (vp_updL f i.toNatClampNeg v)))) = w')
    (kk : v_V p l e R s m args below meth c D cl A nL Q cells slots w' (pc + 1) lv st) : v_V p l e R s m args below meth c D cl A nL Q cells slots w pc lv (.long v :: .int i :: .ref a :: st) := by
  intro H locs ls hP hD hS hl
  subst hw
  exact va_last X.1 X.2.1 X.2.2.2.2.2.1 hP hD hS q0 t0 ha ht hin hdg (fun H1 locs1 hP1 hD1 hS1 => kk H1 locs1 ls hP1 hD1 hS1 hl)
/-- contracts of methods that return, make nothing, and whose answer and world are told by functions of the start -/
def v_Mi (l : Launch) (D : va_G) (cl : List vw_C) (tys : List (ClassId × FieldType)) (y : MethodName) (ws : List Cond) (rm : Room) (av : List Value) (w : va_W) (r : Int32) (w' : va_W) : Prop :=
  ∀ sz : Nat, Met l y ws rm (va_Pc av (fun U => U.heap.size = sz ∧ va_P D cl w U.heap ∧ va_K D cl tys U ∧ va_D (fun _ => True) w)) (va_Qi (fun (x : Int32) (_ : Unit) => x = r) (fun _ t => va_P D cl w' t.heap ∧ va_K D cl tys t ∧ va_D (va_A w sz) w') (va_A w sz)) rm.cells rm.slots (va_A w sz)
def v_Mv (l : Launch) (D : va_G) (cl : List vw_C) (tys : List (ClassId × FieldType)) (y : MethodName) (ws : List Cond) (rm : Room) (av : List Value) (w : va_W) (w' : va_W) : Prop :=
  ∀ sz : Nat, Met l y ws rm (va_Pc av (fun U => U.heap.size = sz ∧ va_P D cl w U.heap ∧ va_K D cl tys U ∧ va_D (fun _ => True) w)) (va_Qv (fun (_ : Unit) => True) (fun _ t => va_P D cl w' t.heap ∧ va_K D cl tys t ∧ va_D (va_A w sz) w') (va_A w sz)) rm.cells rm.slots (va_A w sz)
def v_Qi (below : List Frame) (s : State) (D : va_G) (cl : List vw_C) (tys : List (ClassId × FieldType)) (rm : Room) (av : List Value) (w : va_W) (r : Int32) (w' : va_W) : State → Prop :=
  MQ below (va_Qi (fun (x : Int32) (_ : Unit) => x = r) (fun _ t => va_P D cl w' t.heap ∧ va_K D cl tys t ∧ va_D (va_A w s.heap.size) w') (va_A w s.heap.size)) av.toArray s rm.cells rm.slots (va_A w s.heap.size)
def v_Qv (below : List Frame) (s : State) (D : va_G) (cl : List vw_C) (tys : List (ClassId × FieldType)) (rm : Room) (av : List Value) (w : va_W) (w' : va_W) : State → Prop :=
  MQ below (va_Qv (fun (_ : Unit) => True) (fun _ t => va_P D cl w' t.heap ∧ va_K D cl tys t ∧ va_D (va_A w s.heap.size) w') (va_A w s.heap.size)) av.toArray s rm.cells rm.slots (va_A w s.heap.size)
theorem v_ofMi {y : MethodName} {ws ws' : List Cond} {rm : Room} {maxL : Nat} {ret : Option FieldType} {av : List Value} {r : Int32} {lv0 : List (Nat × Value)} (hy : plainName y.cls = true) (hw : ws = Cond.code y cc maxL ret :: ws') (hown : y.cls = own) (hlv : lv_args 0 av = lv0) (hn : (lg_sl av).length ≤ maxL)
    (body : ∀ (p : Program) (e : Env) (s : State) (m : MethodId) (below : List Frame) (meth : Method) (c : Code), v_C p s m av.toArray c cc own ws maxL D cl tys (va_A w s.heap.size) → meth.sig.returnType = ret → meth.locks = false → (y.name = "<init>" → meth.name = "<init>") →
      v_V p l e rm s m av.toArray below meth c D cl (va_A w s.heap.size) maxL (v_Qi below s D cl tys rm av w r w') 0 0 w 0 lv0 []) : v_Mi l D cl tys y ws rm av w r w' := by
  intro sz
  refine Met.ofW (cc := cc) (maxL := maxL) (ret := ret) hy hw ?_
  intro p e s m args below meth c s₁ B hml hv
  obtain ⟨rfl, hsz, hP, hK, hD0⟩ := hv
  subst hsz
  have hl := lv_entry av (n := maxL) hn
  rw [hlv] at hl
  rw [lg_entry_eq]
  exact body p e s m below meth c ⟨B.exec, B.bytes, by rw [← hown]; exact findClass_of_methodNamed B.named, atoms_spec (ws := ws) B.pre, hml, hK, fun q h => Or.inr h⟩ B.returns B.notSynchronized (fun h => by rw [(name_of_methodNamed B.named B.method).1]; exact h) s.heap [] _ hP (hD0.self (sz := s.heap.size)) va_S.rf hl
theorem v_ofMv {y : MethodName} {ws ws' : List Cond} {rm : Room} {maxL : Nat} {ret : Option FieldType} {av : List Value} {lv0 : List (Nat × Value)} (hy : plainName y.cls = true) (hw : ws = Cond.code y cc maxL ret :: ws') (hown : y.cls = own) (hlv : lv_args 0 av = lv0) (hn : (lg_sl av).length ≤ maxL)
    (body : ∀ (p : Program) (e : Env) (s : State) (m : MethodId) (below : List Frame) (meth : Method) (c : Code), v_C p s m av.toArray c cc own ws maxL D cl tys (va_A w s.heap.size) → meth.sig.returnType = ret → meth.locks = false → (y.name = "<init>" → meth.name = "<init>") →
      v_V p l e rm s m av.toArray below meth c D cl (va_A w s.heap.size) maxL (v_Qv below s D cl tys rm av w w') 0 0 w 0 lv0 []) : v_Mv l D cl tys y ws rm av w w' := by
  intro sz
  refine Met.ofW (cc := cc) (maxL := maxL) (ret := ret) hy hw ?_
  intro p e s m args below meth c s₁ B hml hv
  obtain ⟨rfl, hsz, hP, hK, hD0⟩ := hv
  subst hsz
  have hl := lv_entry av (n := maxL) hn
  rw [hlv] at hl
  rw [lg_entry_eq]
  exact body p e s m below meth c ⟨B.exec, B.bytes, by rw [← hown]; exact findClass_of_methodNamed B.named, atoms_spec (ws := ws) B.pre, hml, hK, fun q h => Or.inr h⟩ B.returns B.notSynchronized (fun h => by rw [(name_of_methodNamed B.named B.method).1]; exact h) s.heap [] _ hP (hD0.self (sz := s.heap.size)) va_S.rf hl
theorem v_reti {av : List Value} {w0 : va_W} {r : Int32} {rm : Room} (X : v_C p s m av.toArray c cc own Ts nL D cl tys (va_A w0 s.heap.size)) {ty : FieldType} (hr : meth.sig.returnType = some ty) (hlk : meth.locks = false) (hn : narrow ty (.int x) = .int x) (hv : x = r) (hw : w = w') (hc : cells ≤ rm.cells) (hs : slots ≤ rm.slots) (hdg : decode cc pc = .ok (.ireturn, 1)) :
    v_V p l e R s m av.toArray below meth c D cl (va_A w0 s.heap.size) nL (v_Qi below s D cl tys rm av w0 r w') cells slots w pc lv [.int x] := by
  intro H locs ls hP hD hS hl
  subst hv hw
  refine W.widen hc hs ?_
  exact W.zret X.1 X.2.1 hr hn (fun t ht hW => ⟨⟨x, (), rfl, rfl, by rw [ht]; exact hP, va_K.moved hW.alike X.2.2.2.2.2.1, hD⟩, hS.F ht⟩) hS.2.2 hdg hlk
theorem v_retv {av : List Value} {w0 : va_W} {rm : Room} (X : v_C p s m av.toArray c cc own Ts nL D cl tys (va_A w0 s.heap.size)) (hr : meth.sig.returnType = none) (hlk : meth.locks = false) (hw : w = w') (hc : cells ≤ rm.cells) (hs : slots ≤ rm.slots) (hdg : decode cc pc = .ok (.return_, 1)) :
    v_V p l e R s m av.toArray below meth c D cl (va_A w0 s.heap.size) nL (v_Qv below s D cl tys rm av w0 w') cells slots w pc lv [] := by
  intro H locs ls hP hD hS hl
  subst hw
  refine W.widen hc hs ?_
  exact W.vret X.1 X.2.1 hr (fun t ht hW => ⟨⟨(), rfl, trivial, by rw [ht]; exact hP, va_K.moved hW.alike X.2.2.2.2.2.1, hD⟩, hS.F ht⟩) hS.2.2 hdg hlk
theorem v_fm {α : Type} {ws ws' : List α} {is : List Nat} (h : is.map (fun i => ws[i]?) = ws'.map some) : is.filterMap (fun i => ws[i]?) = ws' := by
  have h2 := congrArg (List.filterMap id) h
  rw [List.filterMap_map, List.filterMap_map] at h2
  simpa using h2
end VH
