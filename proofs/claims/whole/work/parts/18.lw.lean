section V18
variable {p : Program} {l : Launch} {e : Env} {R : Room} {s : State} {m : MethodId} {args : Array Value} {below : List Frame} {meth : Method} {c : Code} {cc : ByteArray} {own : String} {Ts : List Cond} {nL : Nat} {D : va_G} {cl : List vw_C} {tys : List (ClassId × FieldType)} {A : Nat → Prop} {Q : State → Prop} {cells slots : Nat} {w w' : va_W} {pc tgt : Nat} {lv lv' : List (Nat × Value)} {st rest : List Value} {a b n index : Nat} {x r : Int32}
variable {y : MethodName} {bytes : ByteArray} {maxL : Nat} {ret : Option FieldType} {ws : List Cond} {rm : Room} {C : String} {As av : List Value} {wc wc' wr w0 : va_W} {hh : List (Nat × Nat × Nat × Nat)}
theorem v_i2l (X : v_C p s m args c cc own Ts nL D cl tys A) (hdg : decode cc pc = .ok (.i2l, 1)) (k : v_V p l e R s m args below meth c D cl A nL Q cells slots w (pc + 1) lv (.long x.toInt64 :: st)) : v_V p l e R s m args below meth c D cl A nL Q cells slots w pc lv (.int x :: st) :=
  fun H locs ls hP hD hS hl => lv_i2l X.1 X.2.1 hdg rfl (k H locs ls hP hD hS hl)
theorem v_lconst (X : v_C p s m args c cc own Ts nL D cl tys A) {n : Fin 2} {v : Int64} (hdg : decode cc pc = .ok (.lconst n, 1)) (hv : Int64.ofNat (n : Nat) = v) (k : v_V p l e R s m args below meth c D cl A nL Q cells slots w (pc + 1) lv (.long v :: st)) : v_V p l e R s m args below meth c D cl A nL Q cells slots w pc lv st :=
  fun H locs ls hP hD hS hl => lv_lconst X.1 X.2.1 hdg hv (k H locs ls hP hD hS hl)
theorem v_lcmp (X : v_C p s m args c cc own Ts nL D cl tys A) {u v : Int64} (hdg : decode cc pc = .ok (.lcmp, 1)) (k : v_V p l e R s m args below meth c D cl A nL Q cells slots w (pc + 1) lv (.int (lg_cmp u v) :: st)) : v_V p l e R s m args below meth c D cl A nL Q cells slots w pc lv (.long v :: .long u :: st) :=
  fun H locs ls hP hD hS hl => W.lcmp X.1 X.2.1 hdg (k H locs ls hP hD hS hl)
/-- contracts of methods with a table, that return -/
def v_Li (l : Launch) (D : va_G) (cl : List vw_C) (tys : List (ClassId × FieldType)) (y : MethodName) (ws : List Cond) (rm : Room) (av : List Value) (w : va_W) (r : Int32) (w' : va_W) : Prop :=
  ∀ sz : Nat, Met l y ws rm (v_Pc D cl tys av w sz) (va_Qi (fun (x : Int32) (_ : Unit) => x = r) (fun _ t => va_P D cl w' t.heap ∧ va_K D cl tys t ∧ va_D (va_A w sz) w') (va_A w sz)) rm.cells rm.slots (va_A w sz)
theorem Met_ofWH {l : Launch} {y : MethodName} {ws ws' : List Cond} {rm : Room} {Pc : Array Value → State → Prop} {Qc : Array Value → State → Outcome → State → Prop} {mc ms : Nat} {free : Addr → Prop} {cc : ByteArray} {maxL : Nat} {ret : Option FieldType} {hh : List (Nat × Nat × Nat × Nat)}
    (hy : plainName y.cls = true) (hw : ws = Cond.codeWith y cc maxL ret hh :: ws')
    (body : ∀ p e s m args below meth c s₁, BodyLoose p l y (headSpec ws rm) cc maxL ret e s m args below meth c s₁ → c.maxLocals = maxL → c.exceptionTable.toList = tableOf hh → Pc args s →
      W p l e (headSpec ws rm).room s m args below meth c s.heap [] 0 0 (MQ below Qc args s mc ms free) (entryFrame m args maxL)) : Met l y ws rm Pc Qc mc ms free := by
  refine MetFree.of_bodyS (code := cc) (maxLocals := maxL) (ret := ret) hy ?_ ?_
  · intro args s m h hn
    obtain ⟨m9, meth, c, hn9, h1, h2, h3, h4, -, h5, h6, -⟩ := Cond.codeWith_spec (atoms_spec (ws := ws) h _ (by rw [hw]; exact List.mem_cons_self))
    cases hn.symm.trans hn9
    exact ⟨meth, c, h1, h2, h3, h4, h5, h6⟩
  · intro p e s m args below meth c s₁ B hml hP _
    have hh0 : s₁.heap = s.heap := by rw [B.state]; rfl
    have ht := vx_table (x := y) B (atoms_spec (ws := ws) B.pre _ (by rw [hw]; exact List.mem_cons_self))
    obtain ⟨t, a1, o, b1, b2, b3⟩ := body p e s m args below meth c s₁ B hml ht hP s₁ hh0 (Stand.of_body B)
    exact ⟨t, o, a1, b1, b2, ⟨b3.1, b3.2⟩⟩
theorem v_ofLi {ws' : List Cond} {lv0 : List (Nat × Value)} (hy : plainName y.cls = true) (hw : ws = Cond.codeWith y cc maxL ret hh :: ws') (hown : y.cls = own) (hlv : lv_args 0 av = lv0) (hn : (lg_sl av).length ≤ maxL)
    (body : ∀ (p : Program) (e : Env) (s : State) (m : MethodId) (below : List Frame) (meth : Method) (c : Code), v_C p s m av.toArray c cc own ws maxL D cl tys (va_A w s.heap.size) → v_XW (va_A w s.heap.size) s → c.exceptionTable.toList = tableOf hh → meth.sig.returnType = ret → meth.locks = false →
      v_V p l e rm s m av.toArray below meth c D cl (va_A w s.heap.size) maxL (v_Qi below s D cl tys rm av w r w') 0 0 w 0 lv0 []) : v_Li l D cl tys y ws rm av w r w' := by
  intro sz
  refine Met_ofWH (cc := cc) (maxL := maxL) (ret := ret) hy hw ?_
  intro p e s m args below meth c s₁ B hml ht hv
  obtain ⟨rfl, hsz, hP, hK, hD0, hXW⟩ := hv
  subst hsz
  have hl := lv_entry av (n := maxL) hn
  rw [hlv] at hl
  rw [lg_entry_eq]
  exact body p e s m below meth c ⟨B.exec, B.bytes, by rw [← hown]; exact findClass_of_methodNamed B.named, atoms_spec (ws := ws) B.pre, hml, hK, fun q h => Or.inr h⟩ hXW ht B.returns B.notSynchronized s.heap [] _ hP (hD0.self (sz := s.heap.size)) va_S.rf hl
theorem v_callLic (X : v_C p s m args c cc own Ts nL D cl tys A) (hXW : v_XW A s) (hM : v_Li l D cl tys y ws rm As wc r wc') (cw : vx_CSW R s args own index y bytes maxL ret hh ws rm rm.cells rm.slots n) (isC isR perm : List Nat) (hcut : v_cut w wc wr wc' w' isC isR perm)
    (hn : As.length = n) (hst : st = As.reverse ++ rest) (hroom : (rest.map fun v => v.category).sum ≤ 8) (hdg : decode cc pc = .ok (.invokestatic index, 3)) (hf : cells + rm.cells ≤ R.cells ∧ slots + rm.slots ≤ R.slots)
    (kk : v_V p l e R s m args below meth c D cl A nL Q (cells + rm.cells) (slots + rm.slots) w' (pc + 3) lv (.int r :: rest)) : v_V p l e R s m args below meth c D cl A nL Q cells slots w pc lv st := by
  intro H locs ls hP hD hS hl
  subst hst
  obtain ⟨hC, hR, hnC, hnR, hdis, hj, hnj⟩ := hcut
  have hPc := hP.sub (ws' := wc) isC (v_fm hC)
  have hDc := hD.sub (ws' := wc) isC hnC hC
  have hFc := va_free (wc := wc) hD hS X.2.2.2.2.2.2 isC hC
  refine va_calli (vx_runSW (As := As) (rest := rest) ⟨X.1, X.2.1, X.2.2.2.2.1, X.2.2.1, X.2.2.2.1⟩ (hM H.size) cw ⟨v_blindX, v_preX X hXW hS hPc hDc hFc⟩ rfl hn hl.1 rfl (lv_room hroom) hdg hf) hS (fun q _ h => hFc q h) hFc (fun r' u t H1 locs1 ht hvm hw hB hz1 hk1 hS1 => ?_)
  obtain ⟨hP1, hK1, hD1⟩ := hB
  rw [ht] at hP1
  subst hw
  obtain ⟨hP2, hD2⟩ := va_join (wr := wr) (w1 := wc') hP hD isC isR hC hR hnR hdis hk1 hFc hP1 hD1
  exact kk H1 locs1 ls (hP2.sub perm (v_fm hj)) (hD2.sub perm hnj hj) hS1 hl
end V18
def wL (h : Nat → Nat) (cI cII cL : ClassId) (o : Nat) (S : St) (F : Nat → Int64) : va_W := [(h 0, .inr (3, [.ref (h 4), .ref (h 13), .ref (h 26), .ref (h 1), .ref (h 2), .ref (h 3), .int (S 0 6), .int (S 0 7)])), (h 1, .inl (cI, 5, .inl (S 1))), (h 2, .inl (cI, 8, .inl (S 2))), (h 3, .inl (cI, 5, .inl (S 3))), (h 4, .inr (1, [.ref (h 5), .ref (h 6), .ref (h 7), .ref (h 8), .ref (h 9), .ref (h 10), .ref (h 11), .ref (h 12), .int (S 4 8)])), (h 5, .inl (cI, 30, .inl (S 5))), (h 6, .inl (cI, 30, .inl (S 6))), (h 7, .inl (cI, 30, .inl (S 7))), (h 8, .inl (cI, 30, .inl (S 8))), (h 9, .inl (cI, 30, .inl (S 9))), (h 10, .inl (cI, 30, .inl (S 10))), (h 11, .inl (cI, 30, .inl (S 11))), (h 12, .inl (cI, 30, .inl (S 12))), (h 13, .inr (0, [.ref (h 14), .ref (h 20)])), (h 14, .inl (cII, 5, .inr (.inr (.inr (.inr (fun j => if j < 5 then some (h (15 + j)) else none)))))), (h 15, .inl (cI, 8, .inl (S 15))), (h 16, .inl (cI, 8, .inl (S 16))), (h 17, .inl (cI, 8, .inl (S 17))), (h 18, .inl (cI, 8, .inl (S 18))), (h 19, .inl (cI, 8, .inl (S 19))), (h 20, .inl (cII, 5, .inr (.inr (.inr (.inr (fun j => if j < 5 then some (h (21 + j)) else none)))))), (h 21, .inl (cI, 8, .inl (S 21))), (h 22, .inl (cI, 8, .inl (S 22))), (h 23, .inl (cI, 8, .inl (S 23))), (h 24, .inl (cI, 8, .inl (S 24))), (h 25, .inl (cI, 8, .inl (S 25))), (h 26, .inr (2, [.ref (h 27), .ref (h 28), .int (S 26 2)])), (h 27, .inl (cI, 512, .inl (S 27))), (h 28, .inl (cI, 512, .inl (S 28))), (o, .inl (cL, 1, .inr (.inl F)))]
def isCL : List Nat := [0, 1, 2, 3, 4, 5, 6, 7, 8, 9, 10, 11, 12, 13, 14, 15, 16, 17, 18, 19, 20, 21, 22, 23, 24, 25, 26, 27, 28]
def isRL : List Nat := [29]
def pmL : List Nat := [1, 2, 3, 4, 5, 6, 7, 8, 9, 10, 11, 12, 13, 14, 15, 16, 17, 18, 19, 20, 21, 22, 23, 24, 25, 26, 27, 28, 29, 0]
theorem cutL (h : Nat → Nat) (cI cII cL : ClassId) (o : Nat) {S S' : St} {F : Nat → Int64} : v_cut (wL h cI cII cL o S F) (wT h cI cII S) [(o, .inl (cL, 1, .inr (.inl F)))] (wT h cI cII S') (wL h cI cII cL o S' F) isCL isRL pmL := ⟨rfl, rfl, by decide, by decide, by decide, rfl, by decide⟩
theorem wL_go {h : Nat → Nat} {cI cII cL : ClassId} {o : Nat} {S : St} {F : Nat → Int64} : (wL h cI cII cL o S F)[29]? = some (o, .inl (cL, 1, .inr (.inl F))) := rfl
theorem wL_so {h : Nat → Nat} {cI cII cL : ClassId} {o : Nat} {S : St} {F G : Nat → Int64} : (wL h cI cII cL o S F).set 29 (o, .inl (cL, 1, .inr (.inl G))) = wL h cI cII cL o S G := rfl
theorem xr_X3_needPlayer (p0 : Int32) : (x_X3_needPlayer p0) = none ∨ (x_X3_needPlayer p0) = some v_E1 := by
  unfold x_X3_needPlayer
  repeat' split
  all_goals first | exact Or.inl rfl | exact Or.inr (rfl)
theorem xr_X3_needKind (p0 : Int32) : (x_X3_needKind p0) = none ∨ (x_X3_needKind p0) = some v_E1 := by
  unfold x_X3_needKind
  repeat' split
  all_goals first | exact Or.inl rfl | exact Or.inr (rfl)
theorem xr_X3_needPrice (p0 : Int32) : (x_X3_needPrice p0) = none ∨ (x_X3_needPrice p0) = some v_E2 := by
  unfold x_X3_needPrice
  repeat' split
  all_goals first | exact Or.inl rfl | exact Or.inr (rfl)
theorem xr_X3_needCard (S : St) (p1 : Int32) : (x_X3_needCard S p1) = none ∨ (x_X3_needCard S p1) = some v_E1 := by
  unfold x_X3_needCard
  repeat' split
  all_goals first | exact Or.inl rfl | exact Or.inr (rfl)
theorem xr_X3_mint (S : St) (p1 p2 : Int32) : (x_X3_mint S p1 p2) = none ∨ (x_X3_mint S p1 p2) = some v_E1 ∨ (x_X3_mint S p1 p2) = some v_E3 := by
  unfold x_X3_mint
  repeat' split
  all_goals first | exact Or.inl rfl | exact Or.inr (Or.inl rfl) | exact Or.inr (Or.inr (rfl)) | exact ((fun h9 => h9.elim (fun h9 => Or.inl h9) (fun h9 => Or.inr (Or.inl h9))) (xr_X3_needKind _)) | exact ((fun h9 => h9.elim (fun h9 => Or.inl h9) (fun h9 => Or.inr (Or.inl h9))) (xr_X3_needPlayer _))
theorem xr_X3_owner (S : St) (p1 : Int32) : (x_X3_owner S p1) = none ∨ (x_X3_owner S p1) = some v_E1 := by
  unfold x_X3_owner
  repeat' split
  all_goals first | exact Or.inl rfl | exact Or.inr (rfl) | exact ((fun h9 => h9.elim (fun h9 => Or.inl h9) (fun h9 => Or.inr (h9))) (xr_X3_needCard _ _))
theorem xr_X3_ownerByHistory (S : St) (p1 : Int32) : (x_X3_ownerByHistory S p1) = none ∨ (x_X3_ownerByHistory S p1) = some v_E1 := by
  unfold x_X3_ownerByHistory
  repeat' split
  all_goals first | exact Or.inl rfl | exact Or.inr (rfl) | exact ((fun h9 => h9.elim (fun h9 => Or.inl h9) (fun h9 => Or.inr (h9))) (xr_X3_needCard _ _))
theorem xr_X3_holder (S : St) (p1 : Int32) : (x_X3_holder S p1) = none ∨ (x_X3_holder S p1) = some v_E1 := by
  unfold x_X3_holder
  repeat' split
  all_goals first | exact Or.inl rfl | exact Or.inr (rfl) | exact ((fun h9 => h9.elim (fun h9 => Or.inl h9) (fun h9 => Or.inr (h9))) (xr_X3_needCard _ _))
theorem xr_X3_stateOf (S : St) (p1 : Int32) : (x_X3_stateOf S p1) = none ∨ (x_X3_stateOf S p1) = some v_E1 := by
  unfold x_X3_stateOf
  repeat' split
  all_goals first | exact Or.inl rfl | exact Or.inr (rfl) | exact ((fun h9 => h9.elim (fun h9 => Or.inl h9) (fun h9 => Or.inr (h9))) (xr_X3_needCard _ _))
theorem xr_X3_coins (S : St) (p1 : Int32) : (x_X3_coins S p1) = none ∨ (x_X3_coins S p1) = some v_E1 := by
  unfold x_X3_coins
  repeat' split
  all_goals first | exact Or.inl rfl | exact Or.inr (rfl) | exact ((fun h9 => h9.elim (fun h9 => Or.inl h9) (fun h9 => Or.inr (h9))) (xr_X3_needPlayer _))
theorem xr_X3_sell (S : St) (p1 p2 : Int32) : (x_X3_sell S p1 p2) = none ∨ (x_X3_sell S p1 p2) = some v_E1 ∨ (x_X3_sell S p1 p2) = some v_E2 ∨ (x_X3_sell S p1 p2) = some v_E3 := by
  unfold x_X3_sell
  repeat' split
  all_goals first | exact Or.inl rfl | exact Or.inr (Or.inl rfl) | exact Or.inr (Or.inr (Or.inl rfl)) | exact Or.inr (Or.inr (Or.inr (rfl))) | exact ((fun h9 => h9.elim (fun h9 => Or.inl h9) (fun h9 => Or.inr (Or.inl h9))) (xr_X3_needCard _ _)) | exact ((fun h9 => h9.elim (fun h9 => Or.inl h9) (fun h9 => Or.inr (Or.inr (Or.inl h9)))) (xr_X3_needPrice _))
theorem xr_X3_bid (S : St) (p1 p2 p3 : Int32) : (x_X3_bid S p1 p2 p3) = none ∨ (x_X3_bid S p1 p2 p3) = some v_E1 ∨ (x_X3_bid S p1 p2 p3) = some v_E2 ∨ (x_X3_bid S p1 p2 p3) = some v_E3 := by
  unfold x_X3_bid
  repeat' split
  all_goals first | exact Or.inl rfl | exact Or.inr (Or.inl rfl) | exact Or.inr (Or.inr (Or.inl rfl)) | exact Or.inr (Or.inr (Or.inr (rfl))) | exact ((fun h9 => h9.elim (fun h9 => Or.inl h9) (fun h9 => Or.inr (Or.inl h9))) (xr_X3_needKind _)) | exact ((fun h9 => h9.elim (fun h9 => Or.inl h9) (fun h9 => Or.inr (Or.inl h9))) (xr_X3_needPlayer _)) | exact ((fun h9 => h9.elim (fun h9 => Or.inl h9) (fun h9 => Or.inr (Or.inr (Or.inl h9)))) (xr_X3_needPrice _))
theorem xr_X3_cancelSale (S : St) (p1 : Int32) : (x_X3_cancelSale S p1) = none ∨ (x_X3_cancelSale S p1) = some v_E1 ∨ (x_X3_cancelSale S p1) = some v_E3 := by
  unfold x_X3_cancelSale
  repeat' split
  all_goals first | exact Or.inl rfl | exact Or.inr (Or.inl rfl) | exact Or.inr (Or.inr (rfl)) | exact ((fun h9 => h9.elim (fun h9 => Or.inl h9) (fun h9 => Or.inr (Or.inl h9))) (xr_X3_needCard _ _))
theorem xr_X3_cancelBid (S : St) (p1 p2 : Int32) : (x_X3_cancelBid S p1 p2) = none ∨ (x_X3_cancelBid S p1 p2) = some v_E1 ∨ (x_X3_cancelBid S p1 p2) = some v_E3 := by
  unfold x_X3_cancelBid
  repeat' split
  all_goals first | exact Or.inl rfl | exact Or.inr (Or.inl rfl) | exact Or.inr (Or.inr (rfl)) | exact ((fun h9 => h9.elim (fun h9 => Or.inl h9) (fun h9 => Or.inr (Or.inl h9))) (xr_X3_needKind _)) | exact ((fun h9 => h9.elim (fun h9 => Or.inl h9) (fun h9 => Or.inr (Or.inl h9))) (xr_X3_needPlayer _))
theorem xr_X3_leastSale (S : St) (p1 : Int32) : (x_X3_leastSale S p1) = none ∨ (x_X3_leastSale S p1) = some v_E1 := by
  unfold x_X3_leastSale
  repeat' split
  all_goals first | exact Or.inl rfl | exact Or.inr (rfl) | exact ((fun h9 => h9.elim (fun h9 => Or.inl h9) (fun h9 => Or.inr (h9))) (xr_X3_needKind _))
theorem xr_X3_greatestBid (S : St) (p1 : Int32) : (x_X3_greatestBid S p1) = none ∨ (x_X3_greatestBid S p1) = some v_E1 := by
  unfold x_X3_greatestBid
  repeat' split
  all_goals first | exact Or.inl rfl | exact Or.inr (rfl) | exact ((fun h9 => h9.elim (fun h9 => Or.inl h9) (fun h9 => Or.inr (h9))) (xr_X3_needKind _))
theorem xr_X3_swap (S : St) (p1 p2 : Int32) : (x_X3_swap S p1 p2) = none ∨ (x_X3_swap S p1 p2) = some v_E1 ∨ (x_X3_swap S p1 p2) = some v_E2 ∨ (x_X3_swap S p1 p2) = some v_E3 := by
  unfold x_X3_swap
  repeat' split
  all_goals first | exact Or.inl rfl | exact Or.inr (Or.inl rfl) | exact Or.inr (Or.inr (Or.inl rfl)) | exact Or.inr (Or.inr (Or.inr (rfl))) | exact ((fun h9 => h9.elim (fun h9 => Or.inl h9) (fun h9 => Or.inr (Or.inl h9))) (xr_X3_needCard _ _))
theorem xr_X3_agree (S : St) (p1 : Int32) : (x_X3_agree S p1) = none ∨ (x_X3_agree S p1) = some v_E1 ∨ (x_X3_agree S p1) = some v_E3 := by
  unfold x_X3_agree
  repeat' split
  all_goals first | exact Or.inl rfl | exact Or.inr (Or.inl rfl) | exact Or.inr (Or.inr (rfl)) | exact ((fun h9 => h9.elim (fun h9 => Or.inl h9) (fun h9 => Or.inr (Or.inl h9))) (xr_X3_needCard _ _))
theorem xr_X3_cancelSwap (S : St) (p1 : Int32) : (x_X3_cancelSwap S p1) = none ∨ (x_X3_cancelSwap S p1) = some v_E1 ∨ (x_X3_cancelSwap S p1) = some v_E3 := by
  unfold x_X3_cancelSwap
  repeat' split
  all_goals first | exact Or.inl rfl | exact Or.inr (Or.inl rfl) | exact Or.inr (Or.inr (rfl)) | exact ((fun h9 => h9.elim (fun h9 => Or.inl h9) (fun h9 => Or.inr (Or.inl h9))) (xr_X3_needCard _ _))
theorem xr_X3_lend (S : St) (p1 p2 p3 : Int32) : (x_X3_lend S p1 p2 p3) = none ∨ (x_X3_lend S p1 p2 p3) = some v_E1 ∨ (x_X3_lend S p1 p2 p3) = some v_E2 ∨ (x_X3_lend S p1 p2 p3) = some v_E3 := by
  unfold x_X3_lend
  repeat' split
  all_goals first | exact Or.inl rfl | exact Or.inr (Or.inl rfl) | exact Or.inr (Or.inr (Or.inl rfl)) | exact Or.inr (Or.inr (Or.inr (rfl))) | exact ((fun h9 => h9.elim (fun h9 => Or.inl h9) (fun h9 => Or.inr (Or.inl h9))) (xr_X3_needCard _ _)) | exact ((fun h9 => h9.elim (fun h9 => Or.inl h9) (fun h9 => Or.inr (Or.inl h9))) (xr_X3_needPlayer _))
theorem xr_X3_ban (S : St) (p1 p2 : Int32) : (x_X3_ban S p1 p2) = none ∨ (x_X3_ban S p1 p2) = some v_E1 ∨ (x_X3_ban S p1 p2) = some v_E2 := by
  unfold x_X3_ban
  repeat' split
  all_goals first | exact Or.inl rfl | exact Or.inr (Or.inl rfl) | exact Or.inr (Or.inr (rfl)) | exact ((fun h9 => h9.elim (fun h9 => Or.inl h9) (fun h9 => Or.inr (Or.inl h9))) (xr_X3_needKind _))
theorem xr_X3_lift (S : St) (p1 : Int32) : (x_X3_lift S p1) = none ∨ (x_X3_lift S p1) = some v_E1 := by
  unfold x_X3_lift
  repeat' split
  all_goals first | exact Or.inl rfl | exact Or.inr (rfl) | exact ((fun h9 => h9.elim (fun h9 => Or.inl h9) (fun h9 => Or.inr (h9))) (xr_X3_needKind _))
theorem xr_X3_isBanned (S : St) (p1 : Int32) : (x_X3_isBanned S p1) = none ∨ (x_X3_isBanned S p1) = some v_E1 := by
  unfold x_X3_isBanned
  repeat' split
  all_goals first | exact Or.inl rfl | exact Or.inr (rfl) | exact ((fun h9 => h9.elim (fun h9 => Or.inl h9) (fun h9 => Or.inr (h9))) (xr_X3_needKind _))
theorem xr_X3_pass (S : St) (p1 : Int32) : (x_X3_pass S p1) = none ∨ (x_X3_pass S p1) = some v_E2 := by
  unfold x_X3_pass
  repeat' split
  all_goals first | exact Or.inl rfl | exact Or.inr (rfl)
theorem xr_X3_toggleDeck (S : St) (p1 p2 : Int32) : (x_X3_toggleDeck S p1 p2) = none ∨ (x_X3_toggleDeck S p1 p2) = some v_E1 := by
  unfold x_X3_toggleDeck
  repeat' split
  all_goals first | exact Or.inl rfl | exact Or.inr (rfl) | exact ((fun h9 => h9.elim (fun h9 => Or.inl h9) (fun h9 => Or.inr (h9))) (xr_X3_needCard _ _)) | exact ((fun h9 => h9.elim (fun h9 => Or.inl h9) (fun h9 => Or.inr (h9))) (xr_X3_needPlayer _))
theorem xr_X3_isRight (S : St) (p1 : Int32) : (x_X3_isRight S p1) = none ∨ (x_X3_isRight S p1) = some v_E1 := by
  unfold x_X3_isRight
  repeat' split
  all_goals first | exact Or.inl rfl | exact Or.inr (rfl) | exact ((fun h9 => h9.elim (fun h9 => Or.inl h9) (fun h9 => Or.inr (h9))) (xr_X3_needPlayer _))
theorem xr_X3_strength (S : St) (p1 : Int32) : (x_X3_strength S p1) = none ∨ (x_X3_strength S p1) = some v_E1 := by
  unfold x_X3_strength
  repeat' split
  all_goals first | exact Or.inl rfl | exact Or.inr (rfl) | exact ((fun h9 => h9.elim (fun h9 => Or.inl h9) (fun h9 => Or.inr (h9))) (xr_X3_needPlayer _))
theorem xr_X3_play (S : St) (p1 p2 : Int32) : (x_X3_play S p1 p2) = none ∨ (x_X3_play S p1 p2) = some v_E1 ∨ (x_X3_play S p1 p2) = some v_E2 ∨ (x_X3_play S p1 p2) = some v_E3 := by
  unfold x_X3_play
  repeat' split
  all_goals first | exact Or.inl rfl | exact Or.inr (Or.inl rfl) | exact Or.inr (Or.inr (Or.inl rfl)) | exact Or.inr (Or.inr (Or.inr (rfl))) | exact ((fun h9 => h9.elim (fun h9 => Or.inl h9) (fun h9 => Or.inr (Or.inl h9))) (xr_X3_needPlayer _))
