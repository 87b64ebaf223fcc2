section VV
/-- a value of the list of locals -/
def lvg : List (Nat × Value) → Nat → Option Value
  | [], _ => none
  | (j, v) :: r, i => if j = i then some v else lvg r i
theorem lvg_mem : ∀ {lv : List (Nat × Value)} {i : Nat} {v : Value}, lvg lv i = some v → (i, v) ∈ lv
  | [], _, _, h => by cases h
  | (j, u) :: r, i, v, h => by
    unfold lvg at h
    by_cases e : j = i
    · rw [if_pos e] at h
      cases h
      rw [e]
      exact List.mem_cons_self
    · rw [if_neg e] at h
      exact List.mem_cons_of_mem _ (lvg_mem h)
theorem lvg_at {ls : Array Slot} {nL : Nat} {lv : List (Nat × Value)} {i : Nat} {v : Value} (h : lv_has ls nL lv) (hg : lvg lv i = some v) : ls[i]? = some (.val v) := h.2.2 (i, v) (lvg_mem hg)
theorem lvg_ix {lv : List (Nat × Value)} {i : Nat} {v : Value} (hg : lvg lv i = some v) : ∃ k : Nat, lv[k]? = some (i, v) := List.getElem?_of_mem (lvg_mem hg)
abbrev lvs (lv : List (Nat × Value)) (i : Nat) (v : Value) : List (Nat × Value) := (i, v) :: lv.filter (fun q => !(q.1 == i) && !(q.1 + 1 == i && q.2.category == 2))
/-- what a walk stands on -/
def v_C (p : Program) (s : State) (m : MethodId) (args : Array Value) (c : Code) (cc : ByteArray) (own : String) (Ts : List Cond) (nL : Nat) (D : va_G) (cl : List vw_C) (tys : List (ClassId × FieldType)) (A : Nat → Prop) : Prop :=
  p.tables.exec = Jvm.exec ∧ c.code = cc ∧ s.vm.findClass own = some m.cls ∧ (∀ w ∈ Ts, w.before args s = true) ∧ c.maxLocals = nL ∧ va_K D cl tys s ∧ (∀ q : Nat, s.heap.size ≤ q → A q)
/-- the machine at pc, over any heap that holds the world w -/
def v_V (p : Program) (l : Launch) (e : Env) (R : Room) (s : State) (m : MethodId) (args : Array Value) (below : List Frame) (meth : Method) (c : Code) (D : va_G) (cl : List vw_C) (A : Nat → Prop) (nL : Nat) (Q : State → Prop) (cells slots : Nat) (w : va_W) (pc : Nat) (lv : List (Nat × Value)) (st : List Value) : Prop :=
  ∀ (H : Heap) (locs : List Loc) (ls : Array Slot), va_P D cl w H → va_D A w → va_S A s.heap H locs → lv_has ls nL lv → W p l e R s m args below meth c H locs cells slots Q (F0 m pc ls st)
variable {p : Program} {l : Launch} {e : Env} {R : Room} {s : State} {m : MethodId} {args : Array Value} {below : List Frame} {meth : Method} {c : Code} {cc : ByteArray} {own : String} {Ts : List Cond} {nL : Nat} {D : va_G} {cl : List vw_C} {tys : List (ClassId × FieldType)} {A : Nat → Prop} {Q : State → Prop} {cells slots : Nat} {w w' : va_W} {pc tgt : Nat} {lv lv' : List (Nat × Value)} {st : List Value} {x y z : Int32} {off : Int}
theorem v_pc {pc' : Nat} (h : pc' = pc) (k : v_V p l e R s m args below meth c D cl A nL Q cells slots w pc lv st) : v_V p l e R s m args below meth c D cl A nL Q cells slots w pc' lv st := h ▸ k
theorem v_wd {cells' slots' : Nat} (h1 : cells ≤ cells') (h2 : slots ≤ slots') (k : v_V p l e R s m args below meth c D cl A nL Q cells' slots' w pc lv st) : v_V p l e R s m args below meth c D cl A nL Q cells slots w pc lv st :=
  fun H locs ls hP hD hS hl => W.widen h1 h2 (k H locs ls hP hD hS hl)
theorem v_w (hw : w = w') (k : v_V p l e R s m args below meth c D cl A nL Q cells slots w' pc lv st) : v_V p l e R s m args below meth c D cl A nL Q cells slots w pc lv st := hw ▸ k
theorem v_lv (ks : List Nat) (hl' : lv_pick lv ks = lv') (k : v_V p l e R s m args below meth c D cl A nL Q cells slots w pc lv' st) : v_V p l e R s m args below meth c D cl A nL Q cells slots w pc lv st :=
  fun H locs ls hP hD hS hl => k H locs ls hP hD hS (lv_sub hl ks hl')
theorem v_iload_n (X : v_C p s m args c cc own Ts nL D cl tys A) {i : Fin 4} (hdg : decode cc pc = .ok (.iload_n i, 1)) (hg : lvg lv i = some (.int x)) (k : v_V p l e R s m args below meth c D cl A nL Q cells slots w (pc + 1) lv (.int x :: st)) : v_V p l e R s m args below meth c D cl A nL Q cells slots w pc lv st :=
  fun H locs ls hP hD hS hl => lv_iload_n X.1 X.2.1 hdg rfl (lvg_at hl hg) (k H locs ls hP hD hS hl)
theorem v_iload (X : v_C p s m args c cc own Ts nL D cl tys A) {i : Nat} (hdg : decode cc pc = .ok (.iload i, 2)) (hg : lvg lv i = some (.int x)) (k : v_V p l e R s m args below meth c D cl A nL Q cells slots w (pc + 2) lv (.int x :: st)) : v_V p l e R s m args below meth c D cl A nL Q cells slots w pc lv st :=
  fun H locs ls hP hD hS hl => lv_iload X.1 X.2.1 hdg (lvg_at hl hg) (k H locs ls hP hD hS hl)
theorem v_aload_n (X : v_C p s m args c cc own Ts nL D cl tys A) {i : Fin 4} {a : Nat} (hdg : decode cc pc = .ok (.aload_n i, 1)) (hg : lvg lv i = some (.ref a)) (k : v_V p l e R s m args below meth c D cl A nL Q cells slots w (pc + 1) lv (.ref a :: st)) : v_V p l e R s m args below meth c D cl A nL Q cells slots w pc lv st :=
  fun H locs ls hP hD hS hl => lv_aload_n X.1 X.2.1 hdg rfl (lvg_at hl hg) (k H locs ls hP hD hS hl)
theorem v_aload (X : v_C p s m args c cc own Ts nL D cl tys A) {i a : Nat} (hdg : decode cc pc = .ok (.aload i, 2)) (hg : lvg lv i = some (.ref a)) (k : v_V p l e R s m args below meth c D cl A nL Q cells slots w (pc + 2) lv (.ref a :: st)) : v_V p l e R s m args below meth c D cl A nL Q cells slots w pc lv st :=
  fun H locs ls hP hD hS hl => lv_aload X.1 X.2.1 hdg (lvg_at hl hg) (k H locs ls hP hD hS hl)
theorem v_istore_n (X : v_C p s m args c cc own Ts nL D cl tys A) {i : Fin 4} (hdg : decode cc pc = .ok (.istore_n i, 1)) (hn : (i : Nat) < nL) (hl' : lvs lv i (.int x) = lv') (k : v_V p l e R s m args below meth c D cl A nL Q cells slots w (pc + 1) lv' st) : v_V p l e R s m args below meth c D cl A nL Q cells slots w pc lv (.int x :: st) :=
  fun H locs ls hP hD hS hl => lv_istore_n (lv' := lv') X.1 X.2.1 hdg rfl hl hn hl' (fun ls2 hl2 => k H locs ls2 hP hD hS hl2)
theorem v_istore (X : v_C p s m args c cc own Ts nL D cl tys A) {i : Nat} (hdg : decode cc pc = .ok (.istore i, 2)) (hn : i < nL) (hl' : lvs lv i (.int x) = lv') (k : v_V p l e R s m args below meth c D cl A nL Q cells slots w (pc + 2) lv' st) : v_V p l e R s m args below meth c D cl A nL Q cells slots w pc lv (.int x :: st) :=
  fun H locs ls hP hD hS hl => lv_istore (lv' := lv') X.1 X.2.1 hdg hl hn hl' (fun ls2 hl2 => k H locs ls2 hP hD hS hl2)
theorem v_astore_n (X : v_C p s m args c cc own Ts nL D cl tys A) {i : Fin 4} {a : Nat} (hdg : decode cc pc = .ok (.astore_n i, 1)) (hn : (i : Nat) < nL) (hl' : lvs lv i (.ref a) = lv') (k : v_V p l e R s m args below meth c D cl A nL Q cells slots w (pc + 1) lv' st) : v_V p l e R s m args below meth c D cl A nL Q cells slots w pc lv (.ref a :: st) :=
  fun H locs ls hP hD hS hl => lv_astore_n (lv' := lv') X.1 X.2.1 hdg rfl hl hn hl' (fun ls2 hl2 => k H locs ls2 hP hD hS hl2)
theorem v_astore (X : v_C p s m args c cc own Ts nL D cl tys A) {i : Nat} {a : Nat} (hdg : decode cc pc = .ok (.astore i, 2)) (hn : i < nL) (hl' : lvs lv i (.ref a) = lv') (k : v_V p l e R s m args below meth c D cl A nL Q cells slots w (pc + 2) lv' st) : v_V p l e R s m args below meth c D cl A nL Q cells slots w pc lv (.ref a :: st) :=
  fun H locs ls hP hD hS hl => lv_astore (lv' := lv') X.1 X.2.1 hdg hl hn hl' (fun ls2 hl2 => k H locs ls2 hP hD hS hl2)
theorem v_iinc (X : v_C p s m args c cc own Ts nL D cl tys A) {i : Nat} {n : Int} (hdg : decode cc pc = .ok (.iinc i n, 3)) (hg : lvg lv i = some (.int x)) (hv : x + Int32.ofInt n = y) (hn : i < nL) (hl' : lvs lv i (.int y) = lv') (k : v_V p l e R s m args below meth c D cl A nL Q cells slots w (pc + 3) lv' st) : v_V p l e R s m args below meth c D cl A nL Q cells slots w pc lv st := by
  intro H locs ls hP hD hS hl
  obtain ⟨j, hj⟩ := lvg_ix hg
  exact lv_iinc (v := y) (lv' := lv') X.1 X.2.1 hdg hl hj hv hn hl' (fun ls2 hl2 => k H locs ls2 hP hD hS hl2)
theorem v_iconst (X : v_C p s m args c cc own Ts nL D cl tys A) {n : Int} (hdg : decode cc pc = .ok (.iconst n, 1)) (hv : Int32.ofInt n = x) (k : v_V p l e R s m args below meth c D cl A nL Q cells slots w (pc + 1) lv (.int x :: st)) : v_V p l e R s m args below meth c D cl A nL Q cells slots w pc lv st :=
  fun H locs ls hP hD hS hl => lv_iconst X.1 X.2.1 hdg hv (k H locs ls hP hD hS hl)
theorem v_bipush (X : v_C p s m args c cc own Ts nL D cl tys A) {n : Int} (hdg : decode cc pc = .ok (.bipush n, 2)) (hv : (Int8.ofInt n).toInt32 = x) (k : v_V p l e R s m args below meth c D cl A nL Q cells slots w (pc + 2) lv (.int x :: st)) : v_V p l e R s m args below meth c D cl A nL Q cells slots w pc lv st :=
  fun H locs ls hP hD hS hl => lv_bipush X.1 X.2.1 hdg hv (k H locs ls hP hD hS hl)
theorem v_sipush (X : v_C p s m args c cc own Ts nL D cl tys A) {n : Int} (hdg : decode cc pc = .ok (.sipush n, 3)) (hv : (Int16.ofInt n).toInt32 = x) (k : v_V p l e R s m args below meth c D cl A nL Q cells slots w (pc + 3) lv (.int x :: st)) : v_V p l e R s m args below meth c D cl A nL Q cells slots w pc lv st :=
  fun H locs ls hP hD hS hl => lv_sipush X.1 X.2.1 hdg hv (k H locs ls hP hD hS hl)
theorem v_ldc (X : v_C p s m args c cc own Ts nL D cl tys A) {index : Nat} (hc : Jvm.Cond.constant own index x ∈ Ts) (hdg : decode cc pc = .ok (.ldc index, 2)) (k : v_V p l e R s m args below meth c D cl A nL Q cells slots w (pc + 2) lv (.int x :: st)) : v_V p l e R s m args below meth c D cl A nL Q cells slots w pc lv st :=
  fun H locs ls hP hD hS hl => lv_ldc X.1 X.2.1 X.2.2.1 (X.2.2.2.1 _ hc) hdg (k H locs ls hP hD hS hl)
theorem v_iadd (X : v_C p s m args c cc own Ts nL D cl tys A) (hdg : decode cc pc = .ok (.iadd, 1)) (k : v_V p l e R s m args below meth c D cl A nL Q cells slots w (pc + 1) lv (.int (x + y) :: st)) : v_V p l e R s m args below meth c D cl A nL Q cells slots w pc lv (.int y :: .int x :: st) :=
  fun H locs ls hP hD hS hl => lv_iadd X.1 X.2.1 hdg (k H locs ls hP hD hS hl)
theorem v_isub (X : v_C p s m args c cc own Ts nL D cl tys A) (hdg : decode cc pc = .ok (.isub, 1)) (k : v_V p l e R s m args below meth c D cl A nL Q cells slots w (pc + 1) lv (.int (x - y) :: st)) : v_V p l e R s m args below meth c D cl A nL Q cells slots w pc lv (.int y :: .int x :: st) :=
  fun H locs ls hP hD hS hl => lv_isub X.1 X.2.1 hdg (k H locs ls hP hD hS hl)
theorem v_imul (X : v_C p s m args c cc own Ts nL D cl tys A) (hdg : decode cc pc = .ok (.imul, 1)) (k : v_V p l e R s m args below meth c D cl A nL Q cells slots w (pc + 1) lv (.int (x * y) :: st)) : v_V p l e R s m args below meth c D cl A nL Q cells slots w pc lv (.int y :: .int x :: st) :=
  fun H locs ls hP hD hS hl => lv_imul X.1 X.2.1 hdg (k H locs ls hP hD hS hl)
theorem v_iand (X : v_C p s m args c cc own Ts nL D cl tys A) (hdg : decode cc pc = .ok (.iand, 1)) (k : v_V p l e R s m args below meth c D cl A nL Q cells slots w (pc + 1) lv (.int (x &&& y) :: st)) : v_V p l e R s m args below meth c D cl A nL Q cells slots w pc lv (.int y :: .int x :: st) :=
  fun H locs ls hP hD hS hl => lv_iand X.1 X.2.1 hdg (k H locs ls hP hD hS hl)
theorem v_ixor (X : v_C p s m args c cc own Ts nL D cl tys A) (hdg : decode cc pc = .ok (.ixor, 1)) (k : v_V p l e R s m args below meth c D cl A nL Q cells slots w (pc + 1) lv (.int (x ^^^ y) :: st)) : v_V p l e R s m args below meth c D cl A nL Q cells slots w pc lv (.int y :: .int x :: st) :=
  fun H locs ls hP hD hS hl => lv_ixor X.1 X.2.1 hdg (k H locs ls hP hD hS hl)
theorem v_ishl (X : v_C p s m args c cc own Ts nL D cl tys A) (hdg : decode cc pc = .ok (.ishl, 1)) (k : v_V p l e R s m args below meth c D cl A nL Q cells slots w (pc + 1) lv (.int (x <<< (y &&& 31)) :: st)) : v_V p l e R s m args below meth c D cl A nL Q cells slots w pc lv (.int y :: .int x :: st) :=
  fun H locs ls hP hD hS hl => lv_ishl X.1 X.2.1 hdg (k H locs ls hP hD hS hl)
theorem v_ishr (X : v_C p s m args c cc own Ts nL D cl tys A) (hdg : decode cc pc = .ok (.ishr, 1)) (k : v_V p l e R s m args below meth c D cl A nL Q cells slots w (pc + 1) lv (.int (x >>> (y &&& 31)) :: st)) : v_V p l e R s m args below meth c D cl A nL Q cells slots w pc lv (.int y :: .int x :: st) :=
  fun H locs ls hP hD hS hl => lv_ishr X.1 X.2.1 hdg (k H locs ls hP hD hS hl)
theorem v_dup (X : v_C p s m args c cc own Ts nL D cl tys A) {v : Value} (hdg : decode cc pc = .ok (.dup, 1)) (hv : v.category = 1) (k : v_V p l e R s m args below meth c D cl A nL Q cells slots w (pc + 1) lv (v :: v :: st)) : v_V p l e R s m args below meth c D cl A nL Q cells slots w pc lv (v :: st) :=
  fun H locs ls hP hD hS hl => lv_dup X.1 X.2.1 hdg hv (k H locs ls hP hD hS hl)
theorem v_dup2 (X : v_C p s m args c cc own Ts nL D cl tys A) {v u : Value} (hdg : decode cc pc = .ok (.dup2, 1)) (hv : v.category = 1) (hu : u.category = 1) (k : v_V p l e R s m args below meth c D cl A nL Q cells slots w (pc + 1) lv (v :: u :: v :: u :: st)) : v_V p l e R s m args below meth c D cl A nL Q cells slots w pc lv (v :: u :: st) :=
  fun H locs ls hP hD hS hl => lv_dup2_11 X.1 X.2.1 hdg hv hu (k H locs ls hP hD hS hl)
theorem v_pop (X : v_C p s m args c cc own Ts nL D cl tys A) {v : Value} (hdg : decode cc pc = .ok (.pop, 1)) (hv : v.category = 1) (k : v_V p l e R s m args below meth c D cl A nL Q cells slots w (pc + 1) lv st) : v_V p l e R s m args below meth c D cl A nL Q cells slots w pc lv (v :: st) :=
  fun H locs ls hP hD hS hl => lv_pop X.1 X.2.1 hdg hv (k H locs ls hP hD hS hl)
theorem v_goto (X : v_C p s m args c cc own Ts nL D cl tys A) (hdg : decode cc pc = .ok (.goto off, 3)) (ht : (pc : Int) + off = (tgt : Int)) (k : v_V p l e R s m args below meth c D cl A nL Q cells slots w tgt lv st) : v_V p l e R s m args below meth c D cl A nL Q cells slots w pc lv st :=
  fun H locs ls hP hD hS hl => lv_goto X.1 X.2.1 hdg ht (k H locs ls hP hD hS hl)
theorem v_if_eq (X : v_C p s m args c cc own Ts nL D cl tys A) (hdg : decode cc pc = .ok (.ifCond .eq off, 3)) (ht : (pc : Int) + off = (tgt : Int)) (kt : x = 0 → v_V p l e R s m args below meth c D cl A nL Q cells slots w tgt lv st) (kf : ¬ x = 0 → v_V p l e R s m args below meth c D cl A nL Q cells slots w (pc + 3) lv st) : v_V p l e R s m args below meth c D cl A nL Q cells slots w pc lv (.int x :: st) :=
  fun H locs ls hP hD hS hl => lv_if_eq X.1 X.2.1 hdg ht (fun h => kt h H locs ls hP hD hS hl) (fun h => kf h H locs ls hP hD hS hl)
theorem v_if_ne (X : v_C p s m args c cc own Ts nL D cl tys A) (hdg : decode cc pc = .ok (.ifCond .ne off, 3)) (ht : (pc : Int) + off = (tgt : Int)) (kt : ¬ x = 0 → v_V p l e R s m args below meth c D cl A nL Q cells slots w tgt lv st) (kf : x = 0 → v_V p l e R s m args below meth c D cl A nL Q cells slots w (pc + 3) lv st) : v_V p l e R s m args below meth c D cl A nL Q cells slots w pc lv (.int x :: st) :=
  fun H locs ls hP hD hS hl => lv_if_ne X.1 X.2.1 hdg ht (fun h => kt h H locs ls hP hD hS hl) (fun h => kf h H locs ls hP hD hS hl)
theorem v_if_lt (X : v_C p s m args c cc own Ts nL D cl tys A) (hdg : decode cc pc = .ok (.ifCond .lt off, 3)) (ht : (pc : Int) + off = (tgt : Int)) (kt : x < 0 → v_V p l e R s m args below meth c D cl A nL Q cells slots w tgt lv st) (kf : ¬ x < 0 → v_V p l e R s m args below meth c D cl A nL Q cells slots w (pc + 3) lv st) : v_V p l e R s m args below meth c D cl A nL Q cells slots w pc lv (.int x :: st) :=
  fun H locs ls hP hD hS hl => lv_if_lt X.1 X.2.1 hdg ht (fun h => kt h H locs ls hP hD hS hl) (fun h => kf h H locs ls hP hD hS hl)
theorem v_if_le (X : v_C p s m args c cc own Ts nL D cl tys A) (hdg : decode cc pc = .ok (.ifCond .le off, 3)) (ht : (pc : Int) + off = (tgt : Int)) (kt : x ≤ 0 → v_V p l e R s m args below meth c D cl A nL Q cells slots w tgt lv st) (kf : ¬ x ≤ 0 → v_V p l e R s m args below meth c D cl A nL Q cells slots w (pc + 3) lv st) : v_V p l e R s m args below meth c D cl A nL Q cells slots w pc lv (.int x :: st) :=
  fun H locs ls hP hD hS hl => lv_if_le X.1 X.2.1 hdg ht (fun h => kt h H locs ls hP hD hS hl) (fun h => kf h H locs ls hP hD hS hl)
theorem v_if_gt (X : v_C p s m args c cc own Ts nL D cl tys A) (hdg : decode cc pc = .ok (.ifCond .gt off, 3)) (ht : (pc : Int) + off = (tgt : Int)) (kt : 0 < x → v_V p l e R s m args below meth c D cl A nL Q cells slots w tgt lv st) (kf : ¬ 0 < x → v_V p l e R s m args below meth c D cl A nL Q cells slots w (pc + 3) lv st) : v_V p l e R s m args below meth c D cl A nL Q cells slots w pc lv (.int x :: st) :=
  fun H locs ls hP hD hS hl => lv_if_gt X.1 X.2.1 hdg ht (fun h => kt h H locs ls hP hD hS hl) (fun h => kf h H locs ls hP hD hS hl)
theorem v_if_ge (X : v_C p s m args c cc own Ts nL D cl tys A) (hdg : decode cc pc = .ok (.ifCond .ge off, 3)) (ht : (pc : Int) + off = (tgt : Int)) (kt : 0 ≤ x → v_V p l e R s m args below meth c D cl A nL Q cells slots w tgt lv st) (kf : ¬ 0 ≤ x → v_V p l e R s m args below meth c D cl A nL Q cells slots w (pc + 3) lv st) : v_V p l e R s m args below meth c D cl A nL Q cells slots w pc lv (.int x :: st) :=
  fun H locs ls hP hD hS hl => lv_if_ge X.1 X.2.1 hdg ht (fun h => kt h H locs ls hP hD hS hl) (fun h => kf h H locs ls hP hD hS hl)
theorem v_icmp_eq (X : v_C p s m args c cc own Ts nL D cl tys A) (hdg : decode cc pc = .ok (.if_icmp .eq off, 3)) (ht : (pc : Int) + off = (tgt : Int)) (kt : x = y → v_V p l e R s m args below meth c D cl A nL Q cells slots w tgt lv st) (kf : ¬ x = y → v_V p l e R s m args below meth c D cl A nL Q cells slots w (pc + 3) lv st) : v_V p l e R s m args below meth c D cl A nL Q cells slots w pc lv (.int y :: .int x :: st) :=
  fun H locs ls hP hD hS hl => lv_icmp_eq X.1 X.2.1 hdg ht (fun h => kt h H locs ls hP hD hS hl) (fun h => kf h H locs ls hP hD hS hl)
theorem v_icmp_ne (X : v_C p s m args c cc own Ts nL D cl tys A) (hdg : decode cc pc = .ok (.if_icmp .ne off, 3)) (ht : (pc : Int) + off = (tgt : Int)) (kt : ¬ x = y → v_V p l e R s m args below meth c D cl A nL Q cells slots w tgt lv st) (kf : x = y → v_V p l e R s m args below meth c D cl A nL Q cells slots w (pc + 3) lv st) : v_V p l e R s m args below meth c D cl A nL Q cells slots w pc lv (.int y :: .int x :: st) :=
  fun H locs ls hP hD hS hl => lv_icmp_ne X.1 X.2.1 hdg ht (fun h => kt h H locs ls hP hD hS hl) (fun h => kf h H locs ls hP hD hS hl)
theorem v_icmp_lt (X : v_C p s m args c cc own Ts nL D cl tys A) (hdg : decode cc pc = .ok (.if_icmp .lt off, 3)) (ht : (pc : Int) + off = (tgt : Int)) (kt : x < y → v_V p l e R s m args below meth c D cl A nL Q cells slots w tgt lv st) (kf : ¬ x < y → v_V p l e R s m args below meth c D cl A nL Q cells slots w (pc + 3) lv st) : v_V p l e R s m args below meth c D cl A nL Q cells slots w pc lv (.int y :: .int x :: st) :=
  fun H locs ls hP hD hS hl => lv_icmp_lt X.1 X.2.1 hdg ht (fun h => kt h H locs ls hP hD hS hl) (fun h => kf h H locs ls hP hD hS hl)
theorem v_icmp_le (X : v_C p s m args c cc own Ts nL D cl tys A) (hdg : decode cc pc = .ok (.if_icmp .le off, 3)) (ht : (pc : Int) + off = (tgt : Int)) (kt : x ≤ y → v_V p l e R s m args below meth c D cl A nL Q cells slots w tgt lv st) (kf : ¬ x ≤ y → v_V p l e R s m args below meth c D cl A nL Q cells slots w (pc + 3) lv st) : v_V p l e R s m args below meth c D cl A nL Q cells slots w pc lv (.int y :: .int x :: st) :=
  fun H locs ls hP hD hS hl => lv_icmp_le X.1 X.2.1 hdg ht (fun h => kt h H locs ls hP hD hS hl) (fun h => kf h H locs ls hP hD hS hl)
theorem v_icmp_gt (X : v_C p s m args c cc own Ts nL D cl tys A) (hdg : decode cc pc = .ok (.if_icmp .gt off, 3)) (ht : (pc : Int) + off = (tgt : Int)) (kt : y < x → v_V p l e R s m args below meth c D cl A nL Q cells slots w tgt lv st) (kf : ¬ y < x → v_V p l e R s m args below meth c D cl A nL Q cells slots w (pc + 3) lv st) : v_V p l e R s m args below meth c D cl A nL Q cells slots w pc lv (.int y :: .int x :: st) :=
  fun H locs ls hP hD hS hl => lv_icmp_gt X.1 X.2.1 hdg ht (fun h => kt h H locs ls hP hD hS hl) (fun h => kf h H locs ls hP hD hS hl)
theorem v_icmp_ge (X : v_C p s m args c cc own Ts nL D cl tys A) (hdg : decode cc pc = .ok (.if_icmp .ge off, 3)) (ht : (pc : Int) + off = (tgt : Int)) (kt : y ≤ x → v_V p l e R s m args below meth c D cl A nL Q cells slots w tgt lv st) (kf : ¬ y ≤ x → v_V p l e R s m args below meth c D cl A nL Q cells slots w (pc + 3) lv st) : v_V p l e R s m args below meth c D cl A nL Q cells slots w pc lv (.int y :: .int x :: st) :=
  fun H locs ls hP hD hS hl => lv_icmp_ge X.1 X.2.1 hdg ht (fun h => kt h H locs ls hP hD hS hl) (fun h => kf h H locs ls hP hD hS hl)
end VV
