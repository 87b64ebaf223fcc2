section
-- ===== PART A: goes FIRST, ahead of the names: the tables' words, and 'selects' of the private methods out of them =====
/-- a private method of a class that the tables say can be made, by its rows of tables_1 -/
def lw_okq (q : MethodName × Nat) : Prop := (q.1.cls ≠ "java/lang/invoke/MethodHandle" ∧ q.1.cls ≠ "java/lang/invoke/VarHandle") ∧ Cond.instantiable q.1.cls q.2 ∈ tables_1 ∧ Cond.privateMethod q.1 ∈ tables_1 ∧ Cond.instanceMethod q.1 ∈ tables_1
theorem lw_p0 : lw_okq (⟨"java/lang/Throwable", "fillInStackTrace", "(I)Ljava/lang/Throwable;"⟩, 6) := ⟨⟨by decide +kernel, by decide +kernel⟩, List.mem_of_getElem? (i := 174) (by decide +kernel), List.mem_of_getElem? (i := 172) (by decide +kernel), List.mem_of_getElem? (i := 173) (by decide +kernel)⟩
theorem lw_p1 : lw_okq (⟨"Trumpvault", "needCard", "(I)V"⟩, 8) := ⟨⟨by decide +kernel, by decide +kernel⟩, List.mem_of_getElem? (i := 15) (by decide +kernel), List.mem_of_getElem? (i := 243) (by decide +kernel), List.mem_of_getElem? (i := 244) (by decide +kernel)⟩
theorem lw_p2 : lw_okq (⟨"Trumpvault", "bannedToday", "(I)Z"⟩, 8) := ⟨⟨by decide +kernel, by decide +kernel⟩, List.mem_of_getElem? (i := 15) (by decide +kernel), List.mem_of_getElem? (i := 315) (by decide +kernel), List.mem_of_getElem? (i := 316) (by decide +kernel)⟩
theorem lw_p3 : lw_okq (⟨"Trumpvault", "giveTo", "(II)V"⟩, 8) := ⟨⟨by decide +kernel, by decide +kernel⟩, List.mem_of_getElem? (i := 15) (by decide +kernel), List.mem_of_getElem? (i := 340) (by decide +kernel), List.mem_of_getElem? (i := 341) (by decide +kernel)⟩
theorem lw_p4 : lw_okq (⟨"Trumpvault", "giveBidBack", "(II)I"⟩, 8) := ⟨⟨by decide +kernel, by decide +kernel⟩, List.mem_of_getElem? (i := 15) (by decide +kernel), List.mem_of_getElem? (i := 389) (by decide +kernel), List.mem_of_getElem? (i := 390) (by decide +kernel)⟩
theorem lw_p5 : lw_okq (⟨"Trumpvault", "clearMarket", "(I)I"⟩, 8) := ⟨⟨by decide +kernel, by decide +kernel⟩, List.mem_of_getElem? (i := 15) (by decide +kernel), List.mem_of_getElem? (i := 457) (by decide +kernel), List.mem_of_getElem? (i := 458) (by decide +kernel)⟩
theorem lw_p6 : lw_okq (⟨"Trumpvault", "deckIsRight", "(I)Z"⟩, 8) := ⟨⟨by decide +kernel, by decide +kernel⟩, List.mem_of_getElem? (i := 15) (by decide +kernel), List.mem_of_getElem? (i := 512) (by decide +kernel), List.mem_of_getElem? (i := 513) (by decide +kernel)⟩
theorem lw_p7 : lw_okq (⟨"Trumpvault", "inDeck", "(II)Z"⟩, 8) := ⟨⟨by decide +kernel, by decide +kernel⟩, List.mem_of_getElem? (i := 15) (by decide +kernel), List.mem_of_getElem? (i := 516) (by decide +kernel), List.mem_of_getElem? (i := 517) (by decide +kernel)⟩
theorem lw_p8 : lw_okq (⟨"Trumpvault", "isPlayable", "(II)Z"⟩, 8) := ⟨⟨by decide +kernel, by decide +kernel⟩, List.mem_of_getElem? (i := 15) (by decide +kernel), List.mem_of_getElem? (i := 520) (by decide +kernel), List.mem_of_getElem? (i := 521) (by decide +kernel)⟩
theorem lw_p9 : lw_okq (⟨"Trumpvault", "deckStrength", "(I)I"⟩, 8) := ⟨⟨by decide +kernel, by decide +kernel⟩, List.mem_of_getElem? (i := 15) (by decide +kernel), List.mem_of_getElem? (i := 531) (by decide +kernel), List.mem_of_getElem? (i := 532) (by decide +kernel)⟩
theorem lw_p10 : lw_okq (⟨"TrumpvaultModel", "asked", "(ZZ)Z"⟩, 17) := ⟨⟨by decide +kernel, by decide +kernel⟩, List.mem_of_getElem? (i := 544) (by decide +kernel), List.mem_of_getElem? (i := 620) (by decide +kernel), List.mem_of_getElem? (i := 621) (by decide +kernel)⟩
theorem lw_p11 : lw_okq (⟨"TrumpvaultModel", "isCard", "(I)Z"⟩, 17) := ⟨⟨by decide +kernel, by decide +kernel⟩, List.mem_of_getElem? (i := 544) (by decide +kernel), List.mem_of_getElem? (i := 628) (by decide +kernel), List.mem_of_getElem? (i := 629) (by decide +kernel)⟩
theorem lw_p12 : lw_okq (⟨"TrumpvaultModel", "asked", "(Z)Z"⟩, 17) := ⟨⟨by decide +kernel, by decide +kernel⟩, List.mem_of_getElem? (i := 544) (by decide +kernel), List.mem_of_getElem? (i := 632) (by decide +kernel), List.mem_of_getElem? (i := 633) (by decide +kernel)⟩
theorem lw_p13 : lw_okq (⟨"TrumpvaultModel", "holds", "(I)I"⟩, 17) := ⟨⟨by decide +kernel, by decide +kernel⟩, List.mem_of_getElem? (i := 544) (by decide +kernel), List.mem_of_getElem? (i := 645) (by decide +kernel), List.mem_of_getElem? (i := 646) (by decide +kernel)⟩
theorem lw_p14 : lw_okq (⟨"TrumpvaultModel", "banned", "(I)Z"⟩, 17) := ⟨⟨by decide +kernel, by decide +kernel⟩, List.mem_of_getElem? (i := 544) (by decide +kernel), List.mem_of_getElem? (i := 661) (by decide +kernel), List.mem_of_getElem? (i := 662) (by decide +kernel)⟩
theorem lw_p15 : lw_okq (⟨"TrumpvaultModel", "asked", "(ZZZ)Z"⟩, 17) := ⟨⟨by decide +kernel, by decide +kernel⟩, List.mem_of_getElem? (i := 544) (by decide +kernel), List.mem_of_getElem? (i := 665) (by decide +kernel), List.mem_of_getElem? (i := 666) (by decide +kernel)⟩
def lw_privs_1 : List (MethodName × Nat) := [(⟨"java/lang/Throwable", "fillInStackTrace", "(I)Ljava/lang/Throwable;"⟩, 6), (⟨"Trumpvault", "needCard", "(I)V"⟩, 8), (⟨"Trumpvault", "bannedToday", "(I)Z"⟩, 8), (⟨"Trumpvault", "giveTo", "(II)V"⟩, 8), (⟨"Trumpvault", "giveBidBack", "(II)I"⟩, 8), (⟨"Trumpvault", "clearMarket", "(I)I"⟩, 8), (⟨"Trumpvault", "deckIsRight", "(I)Z"⟩, 8), (⟨"Trumpvault", "inDeck", "(II)Z"⟩, 8), (⟨"Trumpvault", "isPlayable", "(II)Z"⟩, 8), (⟨"Trumpvault", "deckStrength", "(I)I"⟩, 8), (⟨"TrumpvaultModel", "asked", "(ZZ)Z"⟩, 17), (⟨"TrumpvaultModel", "isCard", "(I)Z"⟩, 17), (⟨"TrumpvaultModel", "asked", "(Z)Z"⟩, 17), (⟨"TrumpvaultModel", "holds", "(I)I"⟩, 17), (⟨"TrumpvaultModel", "banned", "(I)Z"⟩, 17), (⟨"TrumpvaultModel", "asked", "(ZZZ)Z"⟩, 17)]
theorem lw_r1 : ∀ q ∈ lw_privs_1, lw_okq q := List.forall_mem_cons.mpr ⟨lw_p0, List.forall_mem_cons.mpr ⟨lw_p1, List.forall_mem_cons.mpr ⟨lw_p2, List.forall_mem_cons.mpr ⟨lw_p3, List.forall_mem_cons.mpr ⟨lw_p4, List.forall_mem_cons.mpr ⟨lw_p5, List.forall_mem_cons.mpr ⟨lw_p6, List.forall_mem_cons.mpr ⟨lw_p7, List.forall_mem_cons.mpr ⟨lw_p8, List.forall_mem_cons.mpr ⟨lw_p9, List.forall_mem_cons.mpr ⟨lw_p10, List.forall_mem_cons.mpr ⟨lw_p11, List.forall_mem_cons.mpr ⟨lw_p12, List.forall_mem_cons.mpr ⟨lw_p13, List.forall_mem_cons.mpr ⟨lw_p14, List.forall_mem_cons.mpr ⟨lw_p15, fun _ h => absurd h List.not_mem_nil⟩⟩⟩⟩⟩⟩⟩⟩⟩⟩⟩⟩⟩⟩⟩⟩
theorem lw_p16 : lw_okq (⟨"TrumpvaultModel", "bidder", "(II)I"⟩, 17) := ⟨⟨by decide +kernel, by decide +kernel⟩, List.mem_of_getElem? (i := 544) (by decide +kernel), List.mem_of_getElem? (i := 669) (by decide +kernel), List.mem_of_getElem? (i := 670) (by decide +kernel)⟩
theorem lw_p17 : lw_okq (⟨"TrumpvaultModel", "offer", "(II)I"⟩, 17) := ⟨⟨by decide +kernel, by decide +kernel⟩, List.mem_of_getElem? (i := 544) (by decide +kernel), List.mem_of_getElem? (i := 677) (by decide +kernel), List.mem_of_getElem? (i := 678) (by decide +kernel)⟩
theorem lw_p18 : lw_okq (⟨"TrumpvaultModel", "clears", "(I)I"⟩, 17) := ⟨⟨by decide +kernel, by decide +kernel⟩, List.mem_of_getElem? (i := 544) (by decide +kernel), List.mem_of_getElem? (i := 717) (by decide +kernel), List.mem_of_getElem? (i := 718) (by decide +kernel)⟩
theorem lw_p19 : lw_okq (⟨"TrumpvaultModel", "size", "(I)I"⟩, 17) := ⟨⟨by decide +kernel, by decide +kernel⟩, List.mem_of_getElem? (i := 544) (by decide +kernel), List.mem_of_getElem? (i := 737) (by decide +kernel), List.mem_of_getElem? (i := 738) (by decide +kernel)⟩
theorem lw_p20 : lw_okq (⟨"TrumpvaultModel", "right", "(I)Z"⟩, 17) := ⟨⟨by decide +kernel, by decide +kernel⟩, List.mem_of_getElem? (i := 544) (by decide +kernel), List.mem_of_getElem? (i := 745) (by decide +kernel), List.mem_of_getElem? (i := 746) (by decide +kernel)⟩
theorem lw_p21 : lw_okq (⟨"TrumpvaultModel", "strengthOf", "(I)I"⟩, 17) := ⟨⟨by decide +kernel, by decide +kernel⟩, List.mem_of_getElem? (i := 544) (by decide +kernel), List.mem_of_getElem? (i := 753) (by decide +kernel), List.mem_of_getElem? (i := 754) (by decide +kernel)⟩
def lw_privs_2 : List (MethodName × Nat) := [(⟨"TrumpvaultModel", "bidder", "(II)I"⟩, 17), (⟨"TrumpvaultModel", "offer", "(II)I"⟩, 17), (⟨"TrumpvaultModel", "clears", "(I)I"⟩, 17), (⟨"TrumpvaultModel", "size", "(I)I"⟩, 17), (⟨"TrumpvaultModel", "right", "(I)Z"⟩, 17), (⟨"TrumpvaultModel", "strengthOf", "(I)I"⟩, 17)]
theorem lw_r2 : ∀ q ∈ lw_privs_2, lw_okq q := List.forall_mem_cons.mpr ⟨lw_p16, List.forall_mem_cons.mpr ⟨lw_p17, List.forall_mem_cons.mpr ⟨lw_p18, List.forall_mem_cons.mpr ⟨lw_p19, List.forall_mem_cons.mpr ⟨lw_p20, List.forall_mem_cons.mpr ⟨lw_p21, fun _ h => absurd h List.not_mem_nil⟩⟩⟩⟩⟩⟩
def lw_privs : List (MethodName × Nat) := lw_privs_1 ++ (lw_privs_2)
def lw_tbl : List Cond := k2_sels lw_privs ++ tables_1
theorem lw_privs_ok : ∀ q ∈ lw_privs, lw_okq q := by
  show ∀ q ∈ lw_privs_1 ++ (lw_privs_2), lw_okq q
  exact List.forall_mem_append.mpr ⟨lw_r1, lw_r2⟩
-- ===== end of PART A; then your names; then what follows =====
end
section
/-! ===== BEGIN words of one list among another's, by their places ===== -/
theorem goodIn_r {big : List Cond} (ws : List Cond) (ps : List Nat) (hp : ws = ps.filterMap (fun i => big[i]?)) (h : ws.all goodWord = true) : GoodIn big ws := by
  intro w hw
  have h1 := List.all_eq_true.mp h w hw
  rw [hp] at hw
  obtain ⟨i, -, hi⟩ := List.mem_filterMap.mp hw
  have hm : w ∈ big := by first | exact List.mem_of_getElem? hi | exact List.getElem?_mem hi
  exact ⟨hm, good_of_word h1⟩
theorem goodIn_app {big a b : List Cond} (ha : GoodIn big a) (hb : GoodIn big b) : GoodIn big (a ++ b) := fun w h => (List.mem_append.mp h).elim (ha w) (hb w)
theorem goodIn_ca {big a b : List Cond} {c : Cond} (ha : GoodIn big (c :: a)) (hb : GoodIn big b) : GoodIn big (c :: (a ++ b)) := fun w h => (List.mem_cons.mp h).elim (fun e => ha w (List.mem_cons.mpr (Or.inl e))) (fun h => (List.mem_append.mp h).elim (fun h => ha w (List.mem_cons.mpr (Or.inr h))) (hb w))
theorem goodIn_sub {big ws : List Cond} (hm : ∀ w ∈ ws, w ∈ big) (h : ws.all goodWord = true) : GoodIn big ws := fun w hw => ⟨hm w hw, good_of_word (List.all_eq_true.mp h w hw)⟩
/-! ===== END ===== -/

/-! ===== BEGIN new T[n][m]: the outer array a place, the inner ones among the pooled ===== -/
/-- f, but v at every address of l -/
def vr_up {α : Type} (f : Nat → α) (l : List Nat) (v : α) : Nat → α := fun a => if a ∈ l then v else f a
theorem vr_up_in {α : Type} {f : Nat → α} {l : List Nat} {v : α} {a : Nat} (h : a ∈ l) : vr_up f l v a = v := if_pos h
theorem vr_up_ne {α : Type} {f : Nat → α} {l : List Nat} {v : α} {a : Nat} (h : a ∉ l) : vr_up f l v a = f a := if_neg h
theorem vr_rows {L l : List Nat} {f : Nat → va_E} {e : va_E} (h : ∀ a, a ∈ l → a ∉ L) : va_pl L f ++ l.map (fun a => (a, e)) = va_pl (L ++ l) (vr_up f l e) := by
  unfold va_pl
  rw [List.map_append]
  congr 1
  · apply List.map_congr_left
    intro a ha
    rw [vr_up_ne (fun q => h a q ha)]
  · apply List.map_congr_left
    intro a ha
    rw [vr_up_in ha]
theorem vr_lay {X rows : va_W} {x : Nat × va_E} {pl : va_W} {D : va_G} {cl : List vw_C} {H : Heap} (hP : va_P D cl (((X ++ pl) ++ [x]) ++ rows) H) : va_P D cl ((X ++ [x]) ++ (pl ++ rows)) H := by
  rw [List.append_assoc (X ++ pl)] at hP
  have h := va_P.swap hP
  rw [← List.append_assoc X] at h
  have h2 := va_P.swap h
  rw [List.append_assoc (X ++ [x])] at h2
  exact h2
theorem vr_layD {X rows : va_W} {x : Nat × va_E} {pl : va_W} {A : Nat → Prop} (hD : va_D A (((X ++ pl) ++ [x]) ++ rows)) : va_D A ((X ++ [x]) ++ (pl ++ rows)) := by
  rw [List.append_assoc (X ++ pl)] at hD
  have h := va_D.swap hD
  rw [← List.append_assoc X] at h
  have h2 := va_D.swap h
  rw [List.append_assoc (X ++ [x])] at h2
  exact h2
theorem vr_outer (c : ClassId) (N h0 : Nat) : ∀ i : Nat, Jvm.Free.Multi.outerC c N h0 i = arrV c N (fun j => va_rf (if j < i then some (h0 + 1 + j) else none))
  | 0 => by
    show ({ cls := c, slots := Array.replicate N .null, vm := .none } : Cell) = _
    rw [arrV_new]
    refine congrArg (arrV c N) (funext fun j => ?_)
    simp [va_rf]
  | i + 1 => by
    show (Jvm.Free.Multi.outerC c N h0 i).setSlot i (.ref (h0 + 1 + i)) = _
    rw [vr_outer c N h0 i, arrV_store]
    refine congrArg (arrV c N) (funext fun j => ?_)
    by_cases e : j = i
    · subst e
      simp [updV, va_rf]
    · by_cases h : j < i
      · simp [updV, e, h, Nat.lt_succ_of_lt h]
      · simp [updV, e, h, show ¬ j < i + 1 by omega]
def va_AOA (ty : FieldType) (U : State) : Prop := (Cond.arrayOver (.array ty)).before #[] U = true
theorem va_AOA.of {ty : FieldType} {A : Array Value} {U : State} (h : (Cond.arrayOver (.array ty)).before A U = true) : va_AOA ty U := h
theorem va_AOA.use {ty : FieldType} {A : Array Value} {U : State} (h : va_AOA ty U) : (Cond.arrayOver (.array ty)).before A U = true := h
section VGM
variable {p : Program} {l : Launch} {e : Env} {R : Room} {s : State} {m : MethodId} {args : Array Value} {below : List Frame} {meth : Method} {c : Code} {H : Heap} {locs : List Loc} {cells slots : Nat} {Q : State → Prop}
variable {cc : ByteArray} {pc : Nat} {ls : Array Slot} {rest : List Value} {D : va_G} {cl : List vw_C} {A : Nat → Prop} {a : Nat} {tys : List (ClassId × FieldType)} {ws : va_W} {H0 : Heap}
theorem va_mna {X : va_W} {L : List Nat} {f : Nat → va_E} {cc : ByteArray} (hexec : p.tables.exec = Jvm.exec) (hb : c.code = cc) {own : String} {index : Nat} {ty : FieldType} {cy : ClassId} (hown : s.vm.findClass own = some m.cls) (hclink : (Cond.classLink own index ("[" ++ (FieldType.array ty).toString)).before args s = true) (hover : va_AOA ty s) (harr : (Cond.arrayClass ty).before args s = true) (hcy : s.vm.findClass (FieldType.array ty).toString = some cy)
    (hK : va_K D cl tys s) (hP : va_P D cl (X ++ va_pl L f) H) (hD : va_D A (X ++ va_pl L f)) (hS : va_S A H0 H locs) (hA : ∀ q, H0.size ≤ q → A q) {n k : Int32} {N' K' : Nat} {z : vp_A} (hn : ¬ n < 0) (hk : ¬ k < 0) (hN : n.toNatClampNeg = N') (hM : k.toNatClampNeg = K')
    (hb1 : N' * 4 ≤ 536870912) (hb2 : K' * componentBytes ty ≤ 536870912) (hb3 : K' ≤ 536870912) (hdf : fits ty (defaultValue ty) = true) (hdd : (defaultValue ty).isDefault = true) (hcells : cells + (1 + N') ≤ R.cells) (hslots : slots + (N' + N' * K') ≤ R.slots) (hz : ∀ c : ClassId, Jvm.Free.Multi.innerC c K' (defaultValue ty) = vp_cell c z) (hdg : decode cc pc = .ok (.multianewarray index 2, 4))
    (kk : ∀ (q : Nat) (r : Nat → Nat) (cA : ClassId) (H1 : Heap), (∀ i j : Nat, i < N' → j < N' → r i = r j → i = j) → (∀ i : Nat, i < N' → r i ∉ L) → va_K D cl (tys ++ [(cA, .array ty)]) s →
      va_P D cl ((X ++ [(q, .inl (cA, N', .inr (.inr (.inr (.inr (fun i => if i < N' then some (r i) else none))))))]) ++ va_pl (L ++ (List.range N').map r) (vr_up f ((List.range N').map r) (.inl (cy, z)))) H1 → va_D A ((X ++ [(q, .inl (cA, N', .inr (.inr (.inr (.inr (fun i => if i < N' then some (r i) else none))))))]) ++ va_pl (L ++ (List.range N').map r) (vr_up f ((List.range N').map r) (.inl (cy, z)))) → va_S A H0 H1 locs →
      W p l e R s m args below meth c H1 locs (cells + 1 + N') (slots + N' + N' * K') Q (F0 m (pc + 4) ls (.ref q :: rest))) : W p l e R s m args below meth c H locs cells slots Q (F0 m pc ls (.int k :: .int n :: rest)) := by
  subst hN
  subst hM
  intro T hT Xs
  obtain ⟨vm₁, cA, comp, -, fA, fC, hO, -, X', step⟩ := Xs.multianewarray2F hexec hown hclink (va_AOA.use hover) harr (g := F0 m pc ls (.int k :: .int n :: rest)) rfl (by rw [hb]; exact hdg) rfl hn hk hb1 hb2 hb3 hdf hdd hcells hslots
  have ec : some cy = some comp := hcy.symm.trans fC
  cases ec
  generalize hF : Jvm.Free.Multi.fill (T.setVm vm₁) cA cy n.toNatClampNeg k.toNatClampNeg (defaultValue ty) n.toNatClampNeg = F at X' step
  have hTh : (T.setVm vm₁).heap = H := hT
  obtain ⟨f1, f2, -, -⟩ := Jvm.Free.Multi.fill_facts (T.setVm vm₁) cA cy n.toNatClampNeg k.toNatClampNeg (defaultValue ty) n.toNatClampNeg
  rw [hF, hTh] at f1 f2
  have hold : ∀ x : Nat, x < H.size → F.heap[x]? = H[x]? := fun x hx => by
    have := Jvm.Free.Multi.fill_old (T.setVm vm₁) cA cy n.toNatClampNeg k.toNatClampNeg (defaultValue ty) (a := x) (by rw [hTh]; exact hx) n.toNatClampNeg
    rw [hF, hTh] at this
    exact this
  have hrow : ∀ j : Nat, j < n.toNatClampNeg → F.heap[H.size + 1 + j]? = some (vp_cell cy z) := fun j hj => by
    have := Jvm.Free.Multi.fill_inner (T.setVm vm₁) cA cy n.toNatClampNeg k.toNatClampNeg (defaultValue ty) n.toNatClampNeg j hj
    rw [hF, hTh, hz] at this
    exact this
  have hout : Jvm.Free.Multi.outerC cA n.toNatClampNeg H.size n.toNatClampNeg = vp_cell cA (n.toNatClampNeg, .inr (.inr (.inr (.inr (fun i => if i < n.toNatClampNeg then some (H.size + 1 + i) else none))))) := by
    rw [vp_cell_q]
    exact vr_outer cA n.toNatClampNeg H.size n.toNatClampNeg
  rw [hout] at f2
  have hlt : ∀ a, a ∈ L → a < H.size := fun a ha => by
    obtain ⟨k9, hk9⟩ := va_pl_get (X := X) (f := f) ha
    exact (hP k9 _ hk9).lt
  have hnl : ∀ i : Nat, i < n.toNatClampNeg → H.size + 1 + i ∉ L := fun i _ h => by
    have := hlt _ h
    omega
  have hnm : ∀ a, a ∈ (List.range n.toNatClampNeg).map (fun i => H.size + 1 + i) → a ∉ L := fun a ha h => by
    obtain ⟨i, -, rfl⟩ := List.mem_map.mp ha
    have := hlt _ h
    omega
  have hP0 : va_P D cl (X ++ va_pl L f) F.heap := hP.kept (fun k9 x hx => hold x.1 ((hP k9 x hx).lt))
  have hP1 : va_P D cl ((X ++ va_pl L f) ++ [(H.size, .inl (cA, n.toNatClampNeg, .inr (.inr (.inr (.inr (fun i => if i < n.toNatClampNeg then some (H.size + 1 + i) else none))))))]) F.heap := hP0.app (fun k9 x hx => by
    have h0 : k9 < 1 := (List.getElem?_eq_some_iff.mp hx).1
    rw [show k9 = 0 by omega] at hx
    cases hx
    exact f2)
  have hP2 : va_P D cl (((X ++ va_pl L f) ++ [(H.size, .inl (cA, n.toNatClampNeg, .inr (.inr (.inr (.inr (fun i => if i < n.toNatClampNeg then some (H.size + 1 + i) else none))))))]) ++ ((List.range n.toNatClampNeg).map (fun i => H.size + 1 + i)).map (fun a => (a, .inl (cy, z)))) F.heap := hP1.app (fun k9 x hx => by
    obtain ⟨a, ha, rfl⟩ := List.mem_map.mp (List.mem_of_getElem? hx)
    obtain ⟨i, hi, rfl⟩ := List.mem_map.mp ha
    exact hrow i (List.mem_range.mp hi))
  have hD2 : va_D A (((X ++ va_pl L f) ++ [(H.size, .inl (cA, n.toNatClampNeg, .inr (.inr (.inr (.inr (fun i => if i < n.toNatClampNeg then some (H.size + 1 + i) else none))))))]) ++ ((List.range n.toNatClampNeg).map (fun i => H.size + 1 + i)).map (fun a => (a, .inl (cy, z)))) := by
    have hD1 := hD.push (e := .inl (cA, n.toNatClampNeg, .inr (.inr (.inr (.inr (fun i => if i < n.toNatClampNeg then some (H.size + 1 + i) else none)))))) hP rfl (hA _ hS.1)
    generalize hW1 : (X ++ va_pl L f) ++ [(H.size, .inl (cA, n.toNatClampNeg, .inr (.inr (.inr (.inr (fun i => if i < n.toNatClampNeg then some (H.size + 1 + i) else none))))))] = W1 at hD1 hP1 ⊢
    have hle : ∀ (k9 : Nat) (x : Nat × va_E), W1[k9]? = some x → x.1 ≤ H.size := fun k9 x hx => by
      rw [← hW1] at hx
      by_cases hl : k9 < (X ++ va_pl L f).length
      · rw [List.getElem?_append_left hl] at hx
        exact Nat.le_of_lt ((hP k9 x hx).lt)
      · rw [List.getElem?_append_right (by omega)] at hx
        have h0 : k9 - (X ++ va_pl L f).length < 1 := (List.getElem?_eq_some_iff.mp hx).1
        rw [show k9 - (X ++ va_pl L f).length = 0 by omega] at hx
        cases hx
        exact Nat.le_refl _
    have hr : ∀ (k9 : Nat) (x : Nat × va_E), (((List.range n.toNatClampNeg).map (fun i => H.size + 1 + i)).map (fun a => ((a, .inl (cy, z)) : Nat × va_E)))[k9]? = some x → x.1 = H.size + 1 + k9 := fun k9 x hx => by
      rw [List.getElem?_map, List.getElem?_map] at hx
      by_cases h9 : k9 < n.toNatClampNeg
      · rw [List.getElem?_range h9] at hx
        cases hx
        rfl
      · have hn0 : (List.range n.toNatClampNeg)[k9]? = none := List.getElem?_eq_none (by rw [List.length_range]; omega)
        rw [hn0] at hx
        cases hx
    refine ⟨fun i j x y hi hj hxy => ?_, fun k9 x hx => ?_⟩
    · by_cases h1 : i < W1.length <;> by_cases h2 : j < W1.length
      · rw [List.getElem?_append_left h1] at hi
        rw [List.getElem?_append_left h2] at hj
        exact hD1.1 i j x y hi hj hxy
      · rw [List.getElem?_append_left h1] at hi
        rw [List.getElem?_append_right (by omega)] at hj
        have := hle _ _ hi
        have := hr _ _ hj
        omega
      · rw [List.getElem?_append_right (by omega)] at hi
        rw [List.getElem?_append_left h2] at hj
        have := hle _ _ hj
        have := hr _ _ hi
        omega
      · rw [List.getElem?_append_right (by omega)] at hi hj
        have := hr _ _ hi
        have := hr _ _ hj
        omega
    · by_cases h1 : k9 < W1.length
      · rw [List.getElem?_append_left h1] at hx
        exact hD1.2 k9 x hx
      · rw [List.getElem?_append_right (by omega)] at hx
        have := hr _ _ hx
        exact hA _ (by have := hS.1; omega)
  have hAr : ArrOfT s cA (.array ty) := fun N9 z9 => by
    obtain ⟨-, k9, hk9, cm9, hkk9⟩ := (hO 0 0 0).1
    exact ⟨(fun q hq => by cases hq), k9, hk9, cm9, hkk9⟩
  have hK2 : va_K D cl (tys ++ [(cA, .array ty)]) s := ⟨hK.1, fun k9 x hx => by
    by_cases hl : k9 < tys.length
    · rw [List.getElem?_append_left hl] at hx
      exact hK.2 k9 x hx
    · rw [List.getElem?_append_right (by omega)] at hx
      have h0 : k9 - tys.length < 1 := (List.getElem?_eq_some_iff.mp hx).1
      rw [show k9 - tys.length = 0 by omega] at hx
      cases hx
      exact ⟨hAr, fA⟩⟩
  obtain ⟨t, a1, b1⟩ := kk H.size (fun i => H.size + 1 + i) cA F.heap (fun i j _ _ h => by have h9 : H.size + 1 + i = H.size + 1 + j := h; omega) hnl hK2 (by rw [← vr_rows hnm]; exact vr_lay hP2) (by rw [← vr_rows hnm]; exact vr_layD hD2) ⟨by rw [f1]; have := hS.1; omega, fun x h1 h2 => (hold x (Nat.lt_of_lt_of_le h1 hS.1)).trans (hS.2.1 x h1 h2), hS.2.2⟩ F rfl X'
  refine ⟨t, step t ?_, b1⟩
  have e : T.heap.size = H.size := by rw [hT]
  rw [e]
  exact a1
end VGM
/-! ===== END ===== -/

/-! ===== BEGIN exceptions that leave a method, and their catching by the caller (launches without stack traces) ===== -/
section VXA
/-! The laws vx_back, vx_callV, vx_callS, vx_callSW, vx_throw0, vx_throwS follow proofs of the library, with one case more: JvmDerived/Free/Laws.lean (Back.of_free), Shelf42/LK1.lean (callV, callS), Shelf/KitTraced.lean (throwNew0V, throwNewS). -/
/-- where a method has thrown q: the class by its name, the cell, what was written, the world -/
def vx_T (XC : String → State → State → Prop) (st : State) (q : Addr) (t : State) (mc ms : Nat) (free : Addr → Prop) : Prop :=
  ∃ (E : String) (ce : Cell) (L : List Loc), XC E st t ∧ t.heap[q]? = some ce ∧ ce.vm = .none ∧ st.vm.findClass E = some ce.cls ∧ st.WarmedH t.vm ∧ st.sameButNew ({ t with vm := st.vm } : State) L mc ms ∧ ∀ z ∈ L, free z.base
def vx_Q (Qc : Array Value → State → Outcome → State → Prop) (XC : String → State → State → Prop) (mc ms : Nat) (free : Addr → Prop) : Array Value → State → Outcome → State → Prop := fun a st o t =>
  (Qc a st o t ∧ ∃ L, FrameEnd st o t L mc ms ∧ ∀ q ∈ L, free q.base) ∨ ∃ q, o = .threw q ∧ vx_T XC st q t mc ms free
/-- a callee that returns or throws -/
def vx_Met (l : Launch) (y : MethodName) (ws : List Cond) (rm : Room) (Pc : Array Value → State → Prop) (Qc : Array Value → State → Outcome → State → Prop) (XC : String → State → State → Prop) (mc ms : Nat) (free : Addr → Prop) : Prop :=
  MetFree l y (headSpec ws rm) Pc (fun _ _ _ _ _ => True) (vx_Q Qc XC mc ms free)
def vx_Post (XC : String → State → State → Prop) (mc ms : Nat) (free : Addr → Prop) : Pt → Array Value → Addr → Pt → Prop := fun A a q B =>
  ∃ (g : JFrame) (mk : MethodId) (t : State) (L : List Loc) (E : String) (ce : Cell), B.U.heap = t.heap ∧ B.U.vm = t.vm ∧ XC E (A.U.calling g mk a) t ∧ t.heap[q]? = some ce ∧ ce.vm = .none ∧ A.U.vm.findClass E = some ce.cls ∧ B.locs = A.locs ++ L ∧ (∀ z ∈ L, free z.base) ∧ B.cells = A.cells + mc ∧ B.slots = A.slots + ms
def vx_Back (l : Launch) (R : Room) (p : Program) (e : Env) (below : List Frame) (s : State) (sargs : Array Value) (y : MethodName) (len W9 : Nat)
    (Pre : Pt → Array Value → Prop) (Post : Pt → Array Value → Option Value → Pt → Prop) (PostX : Pt → Array Value → Addr → Pt → Prop) : Prop :=
  ∀ (m : MethodId) (meth : Method) (c : Code) (A : Pt) (g : JFrame) (ig : Instr) (mk : MethodId) (a : Array Value),
    Stand p l e R s m sargs below meth c A.U A.locs A.cells A.slots → g.method = m → g.locals.size = c.maxLocals → decode c.code g.pc = .ok (ig, len) →
    2 * g.monitorRoom + (g.stack.map fun v => v.category).sum ≤ W9 → A.U.methodNamed? y = some mk → Pre A a →
    (∃ (v : Option Value) (B : Pt), Stand p l e R s m sargs below meth c B.U B.locs B.cells B.slots ∧ Post A a v B ∧
      Steps p.tables e below (doInvoke e (A.U.setTop g) [] mk a).1 (B.U.setTop { g with pc := g.pc + len, stack := v.toList ++ g.stack })) ∨
    (∃ (q : Addr) (B : Pt), Stand p l e R s m sargs below meth c B.U B.locs B.cells B.slots ∧ PostX A a q B ∧
      Steps p.tables e below (doInvoke e (A.U.setTop g) [] mk a).1 ((B.U.setTop g).pushFrame (.throwing q)))
section Payer
variable {l : Launch} {R : Room} {p : Program} {e : Env} {below : List Frame} {s : State} {sargs : Array Value} {y : MethodName} {len W9 : Nat}
theorem vx_back {ws : List Cond} {rm : Room} {Pc : Array Value → State → Prop} {Qc : Array Value → State → Outcome → State → Prop} {XC : String → State → State → Prop} {mc ms : Nat} {free : Addr → Prop} {bytes : ByteArray} {maxL : Nat} {ret : Option FieldType}
    (hM : vx_Met l y ws rm Pc Qc XC mc ms free) (hblind : FrameBlind Pc) (hrc : rm.cells = mc) (hrs : rm.slots = ms)
    (hframes : rm.frames + 1 ≤ R.frames) (hlocals : W9 + (maxL + 11) + rm.locals ≤ R.locals)
    (hws : ∀ w ∈ ws, ∀ a' U, s.WarmedH U.vm → w.before a' U = true) (hcode : Cond.code y bytes maxL ret ∈ ws) (hinit : ∀ a' U, s.WarmedH U.vm → (Cond.initialized y.cls).before a' U = true) :
    vx_Back l R p e below s sargs y len W9 (PreOf R mc ms Pc) (PostOf Qc mc ms free) (vx_Post XC mc ms free) := by
  intro m meth c A g ig mk a X hg hsize hdg hW hn hp
  have h1 : (headSpec ws rm).pre.before a A.U = true := atoms_intro fun w hw => hws w hw _ _ X.warmed
  have h2 : (Cond.code y bytes maxL ret).before a A.U = true := hws _ hcode _ _ X.warmed
  have h3 : (Cond.initialized y.cls).before a A.U = true := hinit _ _ X.warmed
  have h4 : A.cells + (headSpec ws rm).room.cells ≤ R.cells := by rw [show (headSpec ws rm).room.cells = mc from hrc]; exact hp.1
  have h5 : A.slots + (headSpec ws rm).room.slots ≤ R.slots := by rw [show (headSpec ws rm).room.slots = ms from hrs]; exact hp.2.1
  have hPc : Pc a (A.U.calling g mk a) := hblind _ _ _ _ hp.2.2
  obtain ⟨U, Ls, c0, s0⟩ := A
  dsimp only [Pt.U, Pt.locs, Pt.cells, Pt.slots] at h1 h2 h3 h4 h5 X hn hPc ⊢
  obtain ⟨methY, cY, hmY, hcY, -, hlY, -, -, -, -⟩ := Cond.code_spec hn h2
  obtain ⟨kY, hkY, -⟩ := className_of_methodNamed hn
  have hinitY : kY.init = .initialized := Cond.initialized_spec (findClass_of_methodNamed hn) hkY h3
  have h : At U g.method c below := by rw [hg]; exact X.here
  have hlocals9 : W9 + (maxL + 11) + (headSpec ws rm).room.locals ≤ R.locals := hlocals
  have happ : (headSpec ws rm).appliesLoose y e.platform (U.calling g mk a) = true :=
    Spec.appliesLoose_calling (g := g) h hdg hn hkY hinitY
      (X.room_calling (g := g) (R' := (headSpec ws rm).room) hsize hmY hcY hframes (by rw [hlY]; omega) h4 h5) h1
  obtain ⟨mid, hmid⟩ := h.above
  have hfr : (U.setTop g).frames = (.java g :: mid) ++ below := by rw [State.frames_setTop' g h.top, hmid]; rfl
  obtain ⟨o, s₂, hsteps, -, hend, hq⟩ := Steps.callFree hM p X.admits X.cas X.clock (acts := []) hfr happ hPc trivial
  have hq' : vx_Q Qc XC mc ms free a (U.calling g mk a) o s₂ := hq
  rw [State.frames_setTop' g h.top] at hend
  obtain ⟨g₀, hg0⟩ := Option.isSome_iff_exists.mp h.top
  obtain ⟨r, hr⟩ := State.topJava?_eq_some.mp hg0
  have hr' : (({ U with heap := s₂.heap, slotsUsed := s₂.slotsUsed } : State).setVm s₂.vm).frames = .java g₀ :: r := hr
  rcases hq' with ⟨hqc, L, hfe, hL⟩ | ⟨q, rfl, E, ce, L, hx, hce, hcv, hcl, hW₂, hsm, hL⟩
  · obtain ⟨⟨v, rfl⟩, hW₂, e2, q2, q3, q4, q5, q6⟩ := id hfe
    have e3 : s₂ = ({ (U.calling g mk a).setFrames s₂.frames with heap := s₂.heap, slotsUsed := s₂.slotsUsed } : State).setVm s₂.vm := by
      have : s₂ = ({ s₂ with vm := (U.calling g mk a).vm } : State).setVm s₂.vm := rfl
      rw [e2] at this
      exact this
    obtain ⟨c₂, i₂, len₂, hc₂, hd₂, hf₂⟩ := hend
    have hW' : U.WarmedH s₂.vm := hW₂
    have hcc : c₂ = c := by
      have h1 : s₂.code? g.method = U.code? g.method := by
        rw [State.code?_eq, State.code?_eq, hW'.alike.method?]
      exact Option.some.inj (hc₂.symm.trans (h1.trans h.code))
    subst hcc
    have hlen : len₂ = len := by rw [hdg] at hd₂; cases hd₂; rfl
    subst hlen
    have hs₂ : s₂ = (({ U with heap := s₂.heap, slotsUsed := s₂.slotsUsed } : State).setVm s₂.vm).setTop { g with pc := g.pc + len₂, stack := v.toList ++ g.stack } := by
      refine e3.trans ?_
      rw [hf₂, State.calling_eq h.top, State.setFrames_setFrames, State.setTop_of_frames _ hr', hr]
      rfl
    have hsame : U.sameButNew ({ U with heap := s₂.heap, slotsUsed := s₂.slotsUsed } : State) L mc ms := by
      refine ⟨?_, q2, q3, q4, q5, q6⟩
      obtain ⟨t, ht, -⟩ := State.frames_cons hr
      show ({ U with heap := s₂.heap, slotsUsed := s₂.slotsUsed } : State) = { U.setFrames U.frames with heap := s₂.heap, slotsUsed := s₂.slotsUsed }
      rw [State.setFrames_self ht]
    subst hg
    refine Or.inl ⟨v, ⟨(({ U with heap := s₂.heap, slotsUsed := s₂.slotsUsed } : State).setVm s₂.vm), Ls ++ L, c0 + mc, s0 + ms⟩,
      ⟨X.admits, X.cas, X.clock, X.frames, X.room, X.hears, X.method, X.code, (X.here.setHeapUsed s₂.heap s₂.slotsUsed).setVm hW'.alike, X.tail, State.WarmedH.trans X.warmed hW', X.limits, X.bytes, X.same.trans (hsame.setVm s.vm)⟩,
      ⟨g, mk, s₂, L, rfl, rfl, hqc, rfl, hL, rfl, rfl⟩, ?_⟩
    show Steps p.tables e below _ ((({ U with heap := s₂.heap, slotsUsed := s₂.slotsUsed } : State).setVm s₂.vm).setTop { g with pc := g.pc + len₂, stack := v.toList ++ g.stack })
    rw [← hs₂]
    exact hsteps
  · obtain ⟨e2, q2, q3, q4, q5, q6⟩ := id hsm
    have e3 : s₂ = ({ (U.calling g mk a).setFrames s₂.frames with heap := s₂.heap, slotsUsed := s₂.slotsUsed } : State).setVm s₂.vm := by
      have : s₂ = ({ s₂ with vm := (U.calling g mk a).vm } : State).setVm s₂.vm := rfl
      rw [e2] at this
      exact this
    have hf₂ : s₂.frames = .throwing q :: .java g :: U.frames.tail := hend
    have hW' : U.WarmedH s₂.vm := hW₂
    have hs₂ : s₂ = ((({ U with heap := s₂.heap, slotsUsed := s₂.slotsUsed } : State).setVm s₂.vm).setTop g).pushFrame (.throwing q) := by
      refine e3.trans ?_
      rw [hf₂, State.calling_eq h.top, State.setFrames_setFrames, State.pushFrame, State.frames_setTop _ hr', State.setTop_of_frames _ hr', State.setFrames_setFrames, hr]
      rfl
    have hsame : U.sameButNew ({ U with heap := s₂.heap, slotsUsed := s₂.slotsUsed } : State) L mc ms := by
      refine ⟨?_, q2, q3, q4, q5, q6⟩
      obtain ⟨t, ht, -⟩ := State.frames_cons hr
      show ({ U with heap := s₂.heap, slotsUsed := s₂.slotsUsed } : State) = { U.setFrames U.frames with heap := s₂.heap, slotsUsed := s₂.slotsUsed }
      rw [State.setFrames_self ht]
    subst hg
    refine Or.inr ⟨q, ⟨(({ U with heap := s₂.heap, slotsUsed := s₂.slotsUsed } : State).setVm s₂.vm), Ls ++ L, c0 + mc, s0 + ms⟩,
      ⟨X.admits, X.cas, X.clock, X.frames, X.room, X.hears, X.method, X.code, (X.here.setHeapUsed s₂.heap s₂.slotsUsed).setVm hW'.alike, X.tail, State.WarmedH.trans X.warmed hW', X.limits, X.bytes, X.same.trans (hsame.setVm s.vm)⟩,
      ⟨g, mk, s₂, L, E, ce, rfl, rfl, hx, hce, hcv, hcl, rfl, hL, rfl, rfl⟩, ?_⟩
    show Steps p.tables e below _ (((({ U with heap := s₂.heap, slotsUsed := s₂.slotsUsed } : State).setVm s₂.vm).setTop g).pushFrame (.throwing q))
    rw [← hs₂]
    exact hsteps
end Payer
section Calls
variable {p : Program} {l : Launch} {e : Env} {R : Room} {s : State} {m : MethodId} {args : Array Value} {below : List Frame} {meth : Method} {c : Code} {T : State} {locs : List Loc} {cells slots : Nat}
theorem vx_callV (X : Stand p l e R s m args below meth c T locs cells slots) (hexec : p.tables.exec = Jvm.exec) {own C : String} {index : Nat} {y : MethodName} {bytes : ByteArray} {maxL : Nat} {ret : Option FieldType}
    (hown : s.vm.findClass own = some m.cls) (hlink : (Cond.methodLink own index y).before args s = true) (hinst : (Cond.instanceMethod y).before args s = true) (hsel : (Cond.selects C y y).before args s = true)
    (hcode : (Cond.code y bytes maxL ret).before args s = true) (hy : y.cls ≠ "java/lang/invoke/MethodHandle" ∧ y.cls ≠ "java/lang/invoke/VarHandle")
    {W9 : Nat} {Pre : Pt → Array Value → Prop} {Post : Pt → Array Value → Option Value → Pt → Prop} {PostX : Pt → Array Value → Addr → Pt → Prop} (hK : vx_Back l R p e below s args y 3 W9 Pre Post PostX)
    {b : Addr} {cellB : Cell} (hcell : T.heap[b]? = some cellB) (hobj : cellB.vm.isStatics = false) (hcls : s.vm.findClass C = some cellB.cls)
    {g : JFrame} (hg : g.method = m) (hsize : g.locals.size = c.maxLocals) {argsL rest : List Value} (hlen : ∀ sig, parseMethodDescriptor y.desc = some sig → argsL.length = sig.parameters.length)
    (hstack : g.stack = argsL.reverse ++ .ref b :: rest) (hW : 2 * g.monitorRoom + (rest.map fun v => v.category).sum ≤ W9) (hdg : decode c.code g.pc = .ok (.invokevirtual index, 3))
    (hpre : ∀ vm₁, s.WarmedH vm₁ → Pre ⟨T.setVm vm₁, locs, cells, slots⟩ (Value.ref b :: argsL).toArray) :
    (∃ (v : Option Value) (vm₁ : Vm) (B : Pt), s.WarmedH vm₁ ∧ Stand p l e R s m args below meth c B.U B.locs B.cells B.slots ∧ Post ⟨T.setVm vm₁, locs, cells, slots⟩ (Value.ref b :: argsL).toArray v B ∧
      ∀ target, Steps p.tables e below (B.U.setTop { g with pc := g.pc + 3, stack := v.toList ++ rest }) target → Steps p.tables e below (T.setTop g) target) ∨
    (∃ (q : Addr) (vm₁ : Vm) (B : Pt), s.WarmedH vm₁ ∧ Stand p l e R s m args below meth c B.U B.locs B.cells B.slots ∧ PostX ⟨T.setVm vm₁, locs, cells, slots⟩ (Value.ref b :: argsL).toArray q B ∧
      Steps p.tables e below (T.setTop g) ((B.U.setTop { g with stack := rest }).pushFrame (.throwing q))) := by
  obtain ⟨mk, methM, hnamed, hmethM, hstM, habM⟩ := Cond.instanceMethod_spec hinst
  obtain ⟨methM', cM, hmethM', -, -, -, -, -, -, hsigM⟩ := Cond.code_spec hnamed hcode
  cases hmethM.symm.trans hmethM'
  obtain ⟨c2, r2, m2, q1, q2, q3, q4, kP, hkP, hkPi⟩ := Cond.selects_spec hsel
  cases hcls.symm.trans q1
  cases (State.methodFound?_of_named hnamed hy).symm.trans q2
  cases hnamed.symm.trans q3
  have hselP : selectMethod e.platform s.vm cellB.cls mk = .method mk := by rw [Launch.admits_selectMethod X.admits]; exact q4
  obtain ⟨vm₁, X₁, hstep₁⟩ := X.invokevirtual hexec hown hlink hnamed hmethM hstM hkP hkPi hy (a := b) (cell := cellB) hcell
    (fun z h => by rw [h] at hobj; cases hobj) hselP hmethM habM hkP hkPi (g := g) hg (argsL := argsL) (rest := rest) (hlen _ hsigM) hstack hdg
  rcases hK m meth c ⟨T.setVm vm₁, locs, cells, slots⟩ { g with stack := rest } (.invokevirtual index) mk (Value.ref b :: argsL).toArray X₁ hg hsize hdg hW (X₁.named hnamed) (hpre vm₁ X₁.warmed) with ⟨v, B, X', hpost, hsteps⟩ | ⟨q, B, X', hpost, hsteps⟩
  · exact Or.inl ⟨v, vm₁, B, X₁.warmed, X', hpost, fun target h => hstep₁ _ fun acts => by rw [doInvoke_state]; exact hsteps.trans h⟩
  · exact Or.inr ⟨q, vm₁, B, X₁.warmed, X', hpost, hstep₁ _ fun acts => by rw [doInvoke_state]; exact hsteps⟩
theorem vx_callS (X : Stand p l e R s m args below meth c T locs cells slots) (hexec : p.tables.exec = Jvm.exec) {own : String} {index : Nat} {y : MethodName} {bytes : ByteArray} {maxL : Nat} {ret : Option FieldType}
    (hown : s.vm.findClass own = some m.cls) (hlink : (Cond.methodLink own index y).before args s = true) (hstat : (Cond.static y).before args s = true) (hinit : (Cond.initialized y.cls).before args s = true)
    (hcode : (Cond.code y bytes maxL ret).before args s = true) (hy : y.cls ≠ "java/lang/invoke/MethodHandle" ∧ y.cls ≠ "java/lang/invoke/VarHandle")
    {W9 : Nat} {Pre : Pt → Array Value → Prop} {Post : Pt → Array Value → Option Value → Pt → Prop} {PostX : Pt → Array Value → Addr → Pt → Prop} (hK : vx_Back l R p e below s args y 3 W9 Pre Post PostX)
    {g : JFrame} (hg : g.method = m) (hsize : g.locals.size = c.maxLocals) {argsL rest : List Value} (hlen : ∀ sig, parseMethodDescriptor y.desc = some sig → argsL.length = sig.parameters.length)
    (hstack : g.stack = argsL.reverse ++ rest) (hW : 2 * g.monitorRoom + (rest.map fun v => v.category).sum ≤ W9) (hdg : decode c.code g.pc = .ok (.invokestatic index, 3))
    (hpre : ∀ vm₁, s.WarmedH vm₁ → Pre ⟨T.setVm vm₁, locs, cells, slots⟩ argsL.toArray) :
    (∃ (v : Option Value) (vm₁ : Vm) (B : Pt), s.WarmedH vm₁ ∧ Stand p l e R s m args below meth c B.U B.locs B.cells B.slots ∧ Post ⟨T.setVm vm₁, locs, cells, slots⟩ argsL.toArray v B ∧
      ∀ target, Steps p.tables e below (B.U.setTop { g with pc := g.pc + 3, stack := v.toList ++ rest }) target → Steps p.tables e below (T.setTop g) target) ∨
    (∃ (q : Addr) (vm₁ : Vm) (B : Pt), s.WarmedH vm₁ ∧ Stand p l e R s m args below meth c B.U B.locs B.cells B.slots ∧ PostX ⟨T.setVm vm₁, locs, cells, slots⟩ argsL.toArray q B ∧
      Steps p.tables e below (T.setTop g) ((B.U.setTop { g with stack := rest }).pushFrame (.throwing q))) := by
  obtain ⟨mk, hnamed⟩ := Cond.code_named hcode
  obtain ⟨methM, cM, hmethM, -, -, -, -, -, -, hsigM⟩ := Cond.code_spec hnamed hcode
  have hstatic : methM.isStatic = true := Cond.static_spec hnamed hmethM hstat
  obtain ⟨kP, hkP, -⟩ := className_of_methodNamed hnamed
  have hinitP : kP.init = .initialized := Cond.initialized_spec (findClass_of_methodNamed hnamed) hkP hinit
  obtain ⟨vm₁, X₁, hstep₁⟩ := X.invokestatic hexec hown hlink hnamed hmethM hstatic hkP hinitP hy (g := g) hg (argsL := argsL) (rest := rest) (hlen _ hsigM) hstack hdg
  rcases hK m meth c ⟨T.setVm vm₁, locs, cells, slots⟩ { g with stack := rest } (.invokestatic index) mk argsL.toArray X₁ hg hsize hdg hW (X₁.named hnamed) (hpre vm₁ X₁.warmed) with ⟨v, B, X', hpost, hsteps⟩ | ⟨q, B, X', hpost, hsteps⟩
  · exact Or.inl ⟨v, vm₁, B, X₁.warmed, X', hpost, fun target h => hstep₁ _ fun acts => by rw [doInvoke_state]; exact hsteps.trans h⟩
  · exact Or.inr ⟨q, vm₁, B, X₁.warmed, X', hpost, hstep₁ _ fun acts => by rw [doInvoke_state]; exact hsteps⟩
end Calls
theorem vx_cls {s : State} {T : State} {vm₁ : Vm} {E : String} {k : ClassId} (hW : s.WarmedH vm₁) (h : (T.setVm vm₁).vm.findClass E = some k) : s.vm.findClass E = some k := by
  have h1 : vm₁.findClass E = some k := h
  rw [hW.alike.findClass] at h1
  exact h1
/-- the method's frame g, with q thrown over it -/
def vx_W (p : Program) (l : Launch) (e : Env) (R : Room) (s : State) (m : MethodId) (args : Array Value) (below : List Frame) (meth : Method) (c : Code) (H : Heap) (locs : List Loc) (cells slots : Nat) (Q : State → Prop) (g : JFrame) (q : Addr) : Prop :=
  ∀ T : State, T.heap = H → Stand p l e R s m args below meth c T locs cells slots → ∃ t, Steps p.tables e below ((T.setTop g).pushFrame (.throwing q)) t ∧ Q t
def vx_Run (p : Program) (l : Launch) (e : Env) (R : Room) (s : State) (m : MethodId) (args : Array Value) (below : List Frame) (meth : Method) (c : Code) (H : Heap) (locs : List Loc) (cells slots mc ms : Nat) (g : JFrame) (rest : List Value) (Qa : State → Outcome → State → Prop) (XC : String → State → State → Prop) (free : Addr → Prop) : Prop :=
  ∀ T : State, T.heap = H → Stand p l e R s m args below meth c T locs cells slots →
    (∃ (v : Option Value) (st₀ t T' : State) (L : List Loc), st₀.heap = H ∧ Stand p l e R s m args below meth c T' (locs ++ L) (cells + mc) (slots + ms) ∧ (∀ q ∈ L, free q.base) ∧ T'.heap = t.heap ∧ T'.vm = t.vm ∧ Qa st₀ (.returned v) t ∧
      Goes p e below T g T' { g with pc := g.pc + 3, stack := v.toList ++ rest }) ∨
    (∃ (q : Addr) (st₀ t T' : State) (L : List Loc) (E : String) (ce : Cell), st₀.heap = H ∧ Stand p l e R s m args below meth c T' (locs ++ L) (cells + mc) (slots + ms) ∧ (∀ z ∈ L, free z.base) ∧ T'.heap = t.heap ∧ T'.vm = t.vm ∧ XC E st₀ t ∧ t.heap[q]? = some ce ∧ ce.vm = .none ∧ s.vm.findClass E = some ce.cls ∧
      Steps p.tables e below (T.setTop g) ((T'.setTop { g with stack := rest }).pushFrame (.throwing q)))
def vx_X {S : Type} (px : S → Prop) (B : String → S → State → Prop) (A : Nat → Prop) : String → State → State → Prop := fun E st t => ∃ u : S, px u ∧ B E u t ∧ va_F A st t
section Runs
variable {p : Program} {l : Launch} {e : Env} {R : Room} {s : State} {m : MethodId} {args : Array Value} {below : List Frame} {meth : Method} {c : Code} {H : Heap} {locs : List Loc} {cells slots : Nat}
variable {y : MethodName} {bytes cc : ByteArray} {maxL nL mc ms n index : Nat} {ret : Option FieldType} {ws : List Cond} {rm : Room} {Pc : Array Value → State → Prop} {Qc : Array Value → State → Outcome → State → Prop} {XC : String → State → State → Prop} {free : Addr → Prop} {Ts : List Cond} {own C : String} {b : Addr} {As rest : List Value} {g : JFrame}
theorem vx_callBack (cb : CallB R s args own index y bytes maxL ret ws rm mc ms n) (hM : vx_Met l y ws rm Pc Qc XC mc ms free) (hbl : FrameBlind Pc) : vx_Back l R p e below s args y 3 8 (PreOf R mc ms Pc) (PostOf Qc mc ms free) (vx_Post XC mc ms free) := by
  obtain ⟨hrc, hrs, hfr, hlo, hws, hcw, -, hini, -⟩ := cb
  exact vx_back (bytes := bytes) (maxL := maxL) (ret := ret) hM hbl hrc hrs hfr hlo hws hcw (fun a' U hW => word_at hW (Or.inl (by first | rfl | simp [Cond.onTables, Cond.keeps, Cond.steady])) hini)
theorem vx_runV (S : CallFix p m c cc nL s args Ts own) (hM : vx_Met l y ws rm Pc Qc XC mc ms free) (cw : CallW R s args own C index y bytes maxL ret ws rm mc ms n) (hp : PreV s H C b Pc As)
    (hg : g.method = m) (hn : As.length = n) (hsize : g.locals.size = nL) (hstack : g.stack = As.reverse ++ .ref b :: rest) (hW : 2 * g.monitorRoom + (rest.map fun v => v.category).sum ≤ 8) (hdg : decode cc g.pc = .ok (.invokevirtual index, 3)) (hf : cells + mc ≤ R.cells ∧ slots + ms ≤ R.slots) :
    vx_Run p l e R s m args below meth c H locs cells slots mc ms g rest (Qc (Value.ref b :: As).toArray) XC free := by
  have hK : vx_Back l R p e below s args y 3 8 (PreOf R mc ms Pc) (PostOf Qc mc ms free) (vx_Post XC mc ms free) := vx_callBack cw.1 hM hp.1
  obtain ⟨⟨-, -, -, -, -, -, hcode, -, hy, hlen, hl⟩, hin, hse⟩ := cw
  obtain ⟨hx, hb, hml, ho, -⟩ := S
  obtain ⟨-, ⟨cellB, hcB, hoB, hclB⟩, hPc⟩ := hp
  intro T hT X
  rcases vx_callV X hx (C := C) (bytes := bytes) (maxL := maxL) (ret := ret) ho hl hin hse hcode hy hK (by rw [hT]; exact hcB) hoB hclB hg (hsize.trans hml.symm) (argsL := As) (rest := rest) (fun sig h => hn.trans (hlen sig h)) hstack hW (by rw [hb]; exact hdg)
    (fun vm₁ hW₁ => ⟨hf.1, hf.2, hPc (T.setVm vm₁) hT hW₁⟩) with ⟨v, vm₁, ⟨U', l2, c2, s2⟩, hW₁, X', ⟨g', mk, t, L, e1, e2, hq, h1, hL, h2, h3⟩, st⟩ | ⟨q, vm₁, ⟨U', l2, c2, s2⟩, hW₁, X', ⟨g', mk, t, L, E, ce, e1, e2, hq, hce, hcv, hcl, h1, hL, h2, h3⟩, st⟩
  · dsimp only [Pt.U, Pt.locs, Pt.cells, Pt.slots] at X' e1 e2 h1 h2 h3 st
    subst h1; subst h2; subst h3
    exact Or.inl ⟨v, (T.setVm vm₁).calling g' mk (Value.ref b :: As).toArray, t, U', L, hT, X', hL, e1, e2, hq, st⟩
  · dsimp only [Pt.U, Pt.locs, Pt.cells, Pt.slots] at X' e1 e2 h1 h2 h3 st hcl
    subst h1; subst h2; subst h3
    exact Or.inr ⟨q, (T.setVm vm₁).calling g' mk (Value.ref b :: As).toArray, t, U', L, E, ce, hT, X', hL, e1, e2, hq, hce, hcv, vx_cls hW₁ hcl, st⟩
theorem vx_runS (S : CallFix p m c cc nL s args Ts own) (hM : vx_Met l y ws rm Pc Qc XC mc ms free) (cw : CallB R s args own index y bytes maxL ret ws rm mc ms n ∧ (Cond.static y).before args s = true) (hp : PreS s H Pc As)
    (hg : g.method = m) (hn : As.length = n) (hsize : g.locals.size = nL) (hstack : g.stack = As.reverse ++ rest) (hW : 2 * g.monitorRoom + (rest.map fun v => v.category).sum ≤ 8) (hdg : decode cc g.pc = .ok (.invokestatic index, 3)) (hf : cells + mc ≤ R.cells ∧ slots + ms ≤ R.slots) :
    vx_Run p l e R s m args below meth c H locs cells slots mc ms g rest (Qc As.toArray) XC free := by
  have hK : vx_Back l R p e below s args y 3 8 (PreOf R mc ms Pc) (PostOf Qc mc ms free) (vx_Post XC mc ms free) := vx_callBack cw.1 hM hp.1
  obtain ⟨⟨-, -, -, -, -, -, hcode, hini, hy, hlen, hl⟩, hstt⟩ := cw
  obtain ⟨hx, hb, hml, ho, -⟩ := S
  intro T hT X
  rcases vx_callS X hx (bytes := bytes) (maxL := maxL) (ret := ret) ho hl hstt hini hcode hy hK hg (hsize.trans hml.symm) (argsL := As) (rest := rest) (fun sig h => hn.trans (hlen sig h)) hstack hW (by rw [hb]; exact hdg)
    (fun vm₁ hW₁ => ⟨hf.1, hf.2, hp.2 (T.setVm vm₁) hT hW₁⟩) with ⟨v, vm₁, ⟨U', l2, c2, s2⟩, hW₁, X', ⟨g', mk, t, L, e1, e2, hq, h1, hL, h2, h3⟩, st⟩ | ⟨q, vm₁, ⟨U', l2, c2, s2⟩, hW₁, X', ⟨g', mk, t, L, E, ce, e1, e2, hq, hce, hcv, hcl, h1, hL, h2, h3⟩, st⟩
  · dsimp only [Pt.U, Pt.locs, Pt.cells, Pt.slots] at X' e1 e2 h1 h2 h3 st
    subst h1; subst h2; subst h3
    exact Or.inl ⟨v, (T.setVm vm₁).calling g' mk As.toArray, t, U', L, hT, X', hL, e1, e2, hq, st⟩
  · dsimp only [Pt.U, Pt.locs, Pt.cells, Pt.slots] at X' e1 e2 h1 h2 h3 st hcl
    subst h1; subst h2; subst h3
    exact Or.inr ⟨q, (T.setVm vm₁).calling g' mk As.toArray, t, U', L, E, ce, hT, X', hL, e1, e2, hq, hce, hcv, vx_cls hW₁ hcl, st⟩
end Runs
section Rows
variable {p : Program} {l : Launch} {e : Env} {R : Room} {s : State} {m : MethodId} {args : Array Value} {below : List Frame} {meth : Method} {c : Code} {H : Heap} {locs : List Loc} {cells slots : Nat} {Q : State → Prop}
variable {mc ms : Nat} {free : Addr → Prop} {A0 A1 : Nat → Prop} {H0 : Heap} {a : Array Value} {pc : Nat} {ls : Array Slot} {st0 rest : List Value}
theorem vx_keep {st₀ t T' : State} {L : List Loc} (h0 : st₀.heap = H) (e1 : T'.heap = t.heap) (hS : va_S A0 H0 H locs) (hA : ∀ q, q < H.size → A1 q → A0 q) (hf : ∀ q, free q → A0 q) (hL : ∀ q ∈ L, free q.base) (hF : va_F A1 st₀ t) :
    H.size ≤ T'.heap.size ∧ (∀ q : Nat, q < H.size → ¬ A1 q → T'.heap[q]? = H[q]?) ∧ va_S A0 H0 T'.heap (locs ++ L) := by
  obtain ⟨hz, hk⟩ := hF
  rw [h0] at hz hk
  exact ⟨by rw [e1]; exact hz, fun q h1 h2 => by rw [e1]; exact hk q h1 h2,
    ⟨Nat.le_trans hS.1 (by rw [e1]; exact hz), fun q h1 h2 => by rw [e1, hk q (Nat.lt_of_lt_of_le h1 hS.1) (fun z => h2 (hA q (Nat.lt_of_lt_of_le h1 hS.1) z))]; exact hS.2.1 q h1 h2, fun q hq => by
      rcases List.mem_append.mp hq with h | h
      · exact hS.2.2 q h
      · exact hf _ (hL q h)⟩⟩
theorem vx_calli {S SX : Type} {post : Int32 → S → Prop} {px : SX → Prop} {B : S → State → Prop} {BX : String → SX → State → Prop} {AX : Nat → Prop} (hr : vx_Run p l e R s m args below meth c H locs cells slots mc ms (F0 m pc ls st0) rest (va_Qi post B A1 a) (vx_X px BX AX) free) (hS : va_S A0 H0 H locs) (hA : ∀ q, q < H.size → A1 q → A0 q) (hf : ∀ q, free q → A0 q) (hAX : ∀ q, q < H.size → AX q → A0 q)
    (kx : ∀ (E : String) (ce : Cell) (q9 : Addr) (u : SX) (t : State) (H1 : Heap) (locs1 : List Loc), t.heap = H1 → s.vm.Alike t.vm → px u → BX E u t → H.size ≤ H1.size → (∀ q : Nat, q < H.size → ¬ AX q → H1[q]? = H[q]?) → va_S A0 H0 H1 locs1 → H1[q9]? = some ce → ce.vm = .none → s.vm.findClass E = some ce.cls → vx_W p l e R s m args below meth c H1 locs1 (cells + mc) (slots + ms) Q (F0 m pc ls rest) q9)
    (kk : ∀ (r : Int32) (u : S) (t : State) (H1 : Heap) (locs1 : List Loc), t.heap = H1 → s.vm.Alike t.vm → post r u → B u t → H.size ≤ H1.size → (∀ q : Nat, q < H.size → ¬ A1 q → H1[q]? = H[q]?) → va_S A0 H0 H1 locs1 → W p l e R s m args below meth c H1 locs1 (cells + mc) (slots + ms) Q (F0 m (pc + 3) ls (.int r :: rest))) : W p l e R s m args below meth c H locs cells slots Q (F0 m pc ls st0) := by
  intro T hT X
  rcases hr T hT X with ⟨v, st₀, t, T', L, h0, X', hL, e1, e2, ⟨⟨r, u, hv, hp, hb⟩, hF⟩, st⟩ | ⟨q, st₀, t, T', L, E, ce, h0, X', hL, e1, e2, ⟨u, hp, hb, hF⟩, hce, hcv, hcl, st⟩
  · cases hv
    obtain ⟨k1, k2, k3⟩ := vx_keep h0 e1 hS hA hf hL hF
    obtain ⟨t2, a1, b1⟩ := kk r u t T'.heap (locs ++ L) e1.symm (by rw [← e2]; exact X'.warmed.alike) hp hb k1 k2 k3 T' rfl X'
    exact ⟨t2, st t2 a1, b1⟩
  · obtain ⟨k1, k2, k3⟩ := vx_keep h0 e1 hS hAX hf hL hF
    obtain ⟨t2, a1, b1⟩ := kx E ce q u t T'.heap (locs ++ L) e1.symm (by rw [← e2]; exact X'.warmed.alike) hp hb k1 k2 k3 (by rw [e1]; exact hce) hcv hcl T' rfl X'
    exact ⟨t2, st.trans a1, b1⟩
theorem vx_calll {S SX : Type} {post : Int64 → S → Prop} {px : SX → Prop} {B : S → State → Prop} {BX : String → SX → State → Prop} {AX : Nat → Prop} (hr : vx_Run p l e R s m args below meth c H locs cells slots mc ms (F0 m pc ls st0) rest (va_Ql post B A1 a) (vx_X px BX AX) free) (hS : va_S A0 H0 H locs) (hA : ∀ q, q < H.size → A1 q → A0 q) (hf : ∀ q, free q → A0 q) (hAX : ∀ q, q < H.size → AX q → A0 q)
    (kx : ∀ (E : String) (ce : Cell) (q9 : Addr) (u : SX) (t : State) (H1 : Heap) (locs1 : List Loc), t.heap = H1 → s.vm.Alike t.vm → px u → BX E u t → H.size ≤ H1.size → (∀ q : Nat, q < H.size → ¬ AX q → H1[q]? = H[q]?) → va_S A0 H0 H1 locs1 → H1[q9]? = some ce → ce.vm = .none → s.vm.findClass E = some ce.cls → vx_W p l e R s m args below meth c H1 locs1 (cells + mc) (slots + ms) Q (F0 m pc ls rest) q9)
    (kk : ∀ (r : Int64) (u : S) (t : State) (H1 : Heap) (locs1 : List Loc), t.heap = H1 → s.vm.Alike t.vm → post r u → B u t → H.size ≤ H1.size → (∀ q : Nat, q < H.size → ¬ A1 q → H1[q]? = H[q]?) → va_S A0 H0 H1 locs1 → W p l e R s m args below meth c H1 locs1 (cells + mc) (slots + ms) Q (F0 m (pc + 3) ls (.long r :: rest))) : W p l e R s m args below meth c H locs cells slots Q (F0 m pc ls st0) := by
  intro T hT X
  rcases hr T hT X with ⟨v, st₀, t, T', L, h0, X', hL, e1, e2, ⟨⟨r, u, hv, hp, hb⟩, hF⟩, st⟩ | ⟨q, st₀, t, T', L, E, ce, h0, X', hL, e1, e2, ⟨u, hp, hb, hF⟩, hce, hcv, hcl, st⟩
  · cases hv
    obtain ⟨k1, k2, k3⟩ := vx_keep h0 e1 hS hA hf hL hF
    obtain ⟨t2, a1, b1⟩ := kk r u t T'.heap (locs ++ L) e1.symm (by rw [← e2]; exact X'.warmed.alike) hp hb k1 k2 k3 T' rfl X'
    exact ⟨t2, st t2 a1, b1⟩
  · obtain ⟨k1, k2, k3⟩ := vx_keep h0 e1 hS hAX hf hL hF
    obtain ⟨t2, a1, b1⟩ := kx E ce q u t T'.heap (locs ++ L) e1.symm (by rw [← e2]; exact X'.warmed.alike) hp hb k1 k2 k3 (by rw [e1]; exact hce) hcv hcl T' rfl X'
    exact ⟨t2, st.trans a1, b1⟩
theorem vx_callf {S SX : Type} {post : UInt32 → S → Prop} {px : SX → Prop} {B : S → State → Prop} {BX : String → SX → State → Prop} {AX : Nat → Prop} (hr : vx_Run p l e R s m args below meth c H locs cells slots mc ms (F0 m pc ls st0) rest (va_Qf post B A1 a) (vx_X px BX AX) free) (hS : va_S A0 H0 H locs) (hA : ∀ q, q < H.size → A1 q → A0 q) (hf : ∀ q, free q → A0 q) (hAX : ∀ q, q < H.size → AX q → A0 q)
    (kx : ∀ (E : String) (ce : Cell) (q9 : Addr) (u : SX) (t : State) (H1 : Heap) (locs1 : List Loc), t.heap = H1 → s.vm.Alike t.vm → px u → BX E u t → H.size ≤ H1.size → (∀ q : Nat, q < H.size → ¬ AX q → H1[q]? = H[q]?) → va_S A0 H0 H1 locs1 → H1[q9]? = some ce → ce.vm = .none → s.vm.findClass E = some ce.cls → vx_W p l e R s m args below meth c H1 locs1 (cells + mc) (slots + ms) Q (F0 m pc ls rest) q9)
    (kk : ∀ (r : UInt32) (u : S) (t : State) (H1 : Heap) (locs1 : List Loc), t.heap = H1 → s.vm.Alike t.vm → post r u → B u t → H.size ≤ H1.size → (∀ q : Nat, q < H.size → ¬ A1 q → H1[q]? = H[q]?) → va_S A0 H0 H1 locs1 → W p l e R s m args below meth c H1 locs1 (cells + mc) (slots + ms) Q (F0 m (pc + 3) ls (.float r :: rest))) : W p l e R s m args below meth c H locs cells slots Q (F0 m pc ls st0) := by
  intro T hT X
  rcases hr T hT X with ⟨v, st₀, t, T', L, h0, X', hL, e1, e2, ⟨⟨r, u, hv, hp, hb⟩, hF⟩, st⟩ | ⟨q, st₀, t, T', L, E, ce, h0, X', hL, e1, e2, ⟨u, hp, hb, hF⟩, hce, hcv, hcl, st⟩
  · cases hv
    obtain ⟨k1, k2, k3⟩ := vx_keep h0 e1 hS hA hf hL hF
    obtain ⟨t2, a1, b1⟩ := kk r u t T'.heap (locs ++ L) e1.symm (by rw [← e2]; exact X'.warmed.alike) hp hb k1 k2 k3 T' rfl X'
    exact ⟨t2, st t2 a1, b1⟩
  · obtain ⟨k1, k2, k3⟩ := vx_keep h0 e1 hS hAX hf hL hF
    obtain ⟨t2, a1, b1⟩ := kx E ce q u t T'.heap (locs ++ L) e1.symm (by rw [← e2]; exact X'.warmed.alike) hp hb k1 k2 k3 (by rw [e1]; exact hce) hcv hcl T' rfl X'
    exact ⟨t2, st.trans a1, b1⟩
theorem vx_calld {S SX : Type} {post : UInt64 → S → Prop} {px : SX → Prop} {B : S → State → Prop} {BX : String → SX → State → Prop} {AX : Nat → Prop} (hr : vx_Run p l e R s m args below meth c H locs cells slots mc ms (F0 m pc ls st0) rest (va_Qd post B A1 a) (vx_X px BX AX) free) (hS : va_S A0 H0 H locs) (hA : ∀ q, q < H.size → A1 q → A0 q) (hf : ∀ q, free q → A0 q) (hAX : ∀ q, q < H.size → AX q → A0 q)
    (kx : ∀ (E : String) (ce : Cell) (q9 : Addr) (u : SX) (t : State) (H1 : Heap) (locs1 : List Loc), t.heap = H1 → s.vm.Alike t.vm → px u → BX E u t → H.size ≤ H1.size → (∀ q : Nat, q < H.size → ¬ AX q → H1[q]? = H[q]?) → va_S A0 H0 H1 locs1 → H1[q9]? = some ce → ce.vm = .none → s.vm.findClass E = some ce.cls → vx_W p l e R s m args below meth c H1 locs1 (cells + mc) (slots + ms) Q (F0 m pc ls rest) q9)
    (kk : ∀ (r : UInt64) (u : S) (t : State) (H1 : Heap) (locs1 : List Loc), t.heap = H1 → s.vm.Alike t.vm → post r u → B u t → H.size ≤ H1.size → (∀ q : Nat, q < H.size → ¬ A1 q → H1[q]? = H[q]?) → va_S A0 H0 H1 locs1 → W p l e R s m args below meth c H1 locs1 (cells + mc) (slots + ms) Q (F0 m (pc + 3) ls (.double r :: rest))) : W p l e R s m args below meth c H locs cells slots Q (F0 m pc ls st0) := by
  intro T hT X
  rcases hr T hT X with ⟨v, st₀, t, T', L, h0, X', hL, e1, e2, ⟨⟨r, u, hv, hp, hb⟩, hF⟩, st⟩ | ⟨q, st₀, t, T', L, E, ce, h0, X', hL, e1, e2, ⟨u, hp, hb, hF⟩, hce, hcv, hcl, st⟩
  · cases hv
    obtain ⟨k1, k2, k3⟩ := vx_keep h0 e1 hS hA hf hL hF
    obtain ⟨t2, a1, b1⟩ := kk r u t T'.heap (locs ++ L) e1.symm (by rw [← e2]; exact X'.warmed.alike) hp hb k1 k2 k3 T' rfl X'
    exact ⟨t2, st t2 a1, b1⟩
  · obtain ⟨k1, k2, k3⟩ := vx_keep h0 e1 hS hAX hf hL hF
    obtain ⟨t2, a1, b1⟩ := kx E ce q u t T'.heap (locs ++ L) e1.symm (by rw [← e2]; exact X'.warmed.alike) hp hb k1 k2 k3 (by rw [e1]; exact hce) hcv hcl T' rfl X'
    exact ⟨t2, st.trans a1, b1⟩
theorem vx_callv {S SX : Type} {post : S → Prop} {px : SX → Prop} {B : S → State → Prop} {BX : String → SX → State → Prop} {AX : Nat → Prop} (hr : vx_Run p l e R s m args below meth c H locs cells slots mc ms (F0 m pc ls st0) rest (va_Qv post B A1 a) (vx_X px BX AX) free) (hS : va_S A0 H0 H locs) (hA : ∀ q, q < H.size → A1 q → A0 q) (hf : ∀ q, free q → A0 q) (hAX : ∀ q, q < H.size → AX q → A0 q)
    (kx : ∀ (E : String) (ce : Cell) (q9 : Addr) (u : SX) (t : State) (H1 : Heap) (locs1 : List Loc), t.heap = H1 → s.vm.Alike t.vm → px u → BX E u t → H.size ≤ H1.size → (∀ q : Nat, q < H.size → ¬ AX q → H1[q]? = H[q]?) → va_S A0 H0 H1 locs1 → H1[q9]? = some ce → ce.vm = .none → s.vm.findClass E = some ce.cls → vx_W p l e R s m args below meth c H1 locs1 (cells + mc) (slots + ms) Q (F0 m pc ls rest) q9)
    (kk : ∀ (u : S) (t : State) (H1 : Heap) (locs1 : List Loc), t.heap = H1 → s.vm.Alike t.vm → post u → B u t → H.size ≤ H1.size → (∀ q : Nat, q < H.size → ¬ A1 q → H1[q]? = H[q]?) → va_S A0 H0 H1 locs1 → W p l e R s m args below meth c H1 locs1 (cells + mc) (slots + ms) Q (F0 m (pc + 3) ls (rest))) : W p l e R s m args below meth c H locs cells slots Q (F0 m pc ls st0) := by
  intro T hT X
  rcases hr T hT X with ⟨v, st₀, t, T', L, h0, X', hL, e1, e2, ⟨⟨u, hv, hp, hb⟩, hF⟩, st⟩ | ⟨q, st₀, t, T', L, E, ce, h0, X', hL, e1, e2, ⟨u, hp, hb, hF⟩, hce, hcv, hcl, st⟩
  · cases hv
    obtain ⟨k1, k2, k3⟩ := vx_keep h0 e1 hS hA hf hL hF
    obtain ⟨t2, a1, b1⟩ := kk u t T'.heap (locs ++ L) e1.symm (by rw [← e2]; exact X'.warmed.alike) hp hb k1 k2 k3 T' rfl X'
    exact ⟨t2, st t2 a1, b1⟩
  · obtain ⟨k1, k2, k3⟩ := vx_keep h0 e1 hS hAX hf hL hF
    obtain ⟨t2, a1, b1⟩ := kx E ce q u t T'.heap (locs ++ L) e1.symm (by rw [← e2]; exact X'.warmed.alike) hp hb k1 k2 k3 (by rw [e1]; exact hce) hcv hcl T' rfl X'
    exact ⟨t2, st.trans a1, b1⟩
/-- caught by the row x of this method's table; the rows ahead don't take it -/
theorem vx_catch {own name : String} {E : String} {ce : Cell} {q : Addr} (hown : s.vm.findClass own = some m.cls) (pre : List ExceptionTableEntry) (x : ExceptionTableEntry) (suf : List ExceptionTableEntry) (hsplit : c.exceptionTable.toList = pre ++ x :: suf)
    (hpass : ∀ z ∈ pre, covers z pc = false ∨ (z.catchType ≠ 0 ∧ ∃ nm : String, (Cond.classLink own z.catchType nm).before args s = true ∧ va_Nc E nm s)) (hx : covers x pc = true) (h0 : x.catchType ≠ 0)
    (hlink : (Cond.classLink own x.catchType name).before args s = true) (hcast : (Cond.castable E name).before args s = true) (hcell : H[q]? = some ce) (hv : ce.vm = .none) (hcl : s.vm.findClass E = some ce.cls)
    (kk : W p l e R s m args below meth c H locs cells slots Q (F0 m x.handlerPc ls [.ref q])) : vx_W p l e R s m args below meth c H locs cells slots Q (F0 m pc ls rest) q := by
  intro T hT X
  have hpl : e.platform.magicAccessors = ({} : Platform).magicAccessors := by rw [X.admits.platform]
  obtain ⟨c3, c4, hc3, hc4, hasg⟩ := Cond.castable_spec hcast
  cases Option.some.inj (hc3.symm.trans hcl)
  obtain ⟨c5, hc5, hcl5⟩ := Cond.classLink_spec hown hlink e.platform hpl
  cases Option.some.inj (hc4.symm.trans hc5)
  obtain ⟨vm', X', st⟩ := X.thenCaughtThrough q (g := F0 m pc ls rest) rfl (Steps.refl _) (by rw [hT]; exact hcell) (by rw [hv]; rfl) (by obtain ⟨k9, h9, -⟩ := Vm.findClass_spec hcl; exact ⟨k9, h9⟩) pre x suf hsplit
    (fun z hz => by
      rcases hpass z hz with h | ⟨hz0, nm, hl1, hn1⟩
      · exact Or.inl h
      · obtain ⟨c6, hc6, hcl6⟩ := Cond.classLink_spec hown hl1 e.platform hpl
        obtain ⟨a8, b8, h1, h2, h3⟩ := hn1
        cases Option.some.inj (h1.symm.trans hcl)
        cases Option.some.inj (h2.symm.trans hc6)
        exact Or.inr ⟨hz0, _, hcl6, h3⟩) hx (Or.inr ⟨h0, c4, hcl5, hasg⟩)
  obtain ⟨t, a1, b1⟩ := kk (T.setVm vm') hT X'
  exact ⟨t, st.trans a1, b1⟩
end Rows
section Ends
variable {p : Program} {l : Launch} {e : Env} {R : Room} {s : State} {m : MethodId} {args : Array Value} {below : List Frame} {meth : Method} {c : Code} {H : Heap} {locs : List Loc} {cells slots : Nat} {Q : State → Prop}
variable {mc ms : Nat} {free : Addr → Prop} {A0 A1 : Nat → Prop} {H0 : Heap} {a : Array Value} {ls : Array Slot} {st0 rest : List Value}
variable {Qc : Array Value → State → Outcome → State → Prop} {XC : String → State → State → Prop}
/-- what a body that may throw owes at its end -/
def vx_MQ (below : List Frame) (Qc : Array Value → State → Outcome → State → Prop) (XC : String → State → State → Prop) (a : Array Value) (s : State) (mc ms : Nat) (free : Addr → Prop) : State → Prop := fun t =>
  ∃ o, t.status = .running ∧ Ended t below o ∧ vx_Q Qc XC mc ms free a s o t
theorem vx_ret {g : JFrame} {mc ms : Nat} (k : W p l e R s m args below meth c H locs cells slots (MQ below Qc args s mc ms free) g) : W p l e R s m args below meth c H locs cells slots (vx_MQ below Qc XC args s mc ms free) g := by
  intro T hT X
  obtain ⟨t, a1, o, b1, b2, b3, b4⟩ := k T hT X
  exact ⟨t, a1, o, b1, b2, Or.inl ⟨b3, b4⟩⟩
/-- not caught here: it goes on to the caller -/
theorem vx_widen {g : JFrame} {q : Addr} {k n : Nat} (h1 : cells ≤ k) (h2 : slots ≤ n) (kk : vx_W p l e R s m args below meth c H locs k n Q g q) : vx_W p l e R s m args below meth c H locs cells slots Q g q := fun T hT X => kk T hT (stand_widen X h1 h2)
theorem vx_out {pc : Nat} {E : String} {ce : Cell} {q : Addr} {mc ms : Nat} (hout : ∀ x ∈ c.exceptionTable.toList, covers x pc = false) (hlocks : meth.locks = false) (hcell : H[q]? = some ce) (hv : ce.vm = .none) (hcl : s.vm.findClass E = some ce.cls)
    (hx : ∀ t : State, t.heap = H → s.vm.Alike t.vm → XC E s t) (hf : ∀ z ∈ locs, free z.base) (hc : cells ≤ mc) (hs : slots ≤ ms) :
    vx_W p l e R s m args below meth c H locs cells slots (vx_MQ below Qc XC args s mc ms free) (F0 m pc ls rest) q := by
  intro T hT X
  obtain ⟨st1, hrun, hend, hW, hsm⟩ := X.leaveThrown q (g := F0 m pc ls rest) rfl rfl rfl hout hlocks
  have hcell9 : (T.setFrames (.throwing q :: below)).heap[q]? = some ce := by
    show T.heap[q]? = some ce
    rw [hT]; exact hcell
  exact ⟨_, st1, .threw q, hrun, hend, Or.inr ⟨q, rfl, E, ce, locs, hx _ hT hW.alike, hcell9, hv, hcl, hW, hsm.mono hc hs, hf⟩⟩
theorem vx_frame {U : State} {k n : Nat} (h : s.sameButNew ({ U with vm := s.vm } : State) locs k n) : s.heap.size ≤ U.heap.size ∧ ∀ q : Nat, q < s.heap.size → (∀ z ∈ locs, z.base ≠ q) → U.heap[q]? = s.heap[q]? := by
  obtain ⟨-, h2, -, -, -, h6⟩ := h
  refine ⟨h2, fun q hq hz => ?_⟩
  obtain ⟨c9, e1, e2, e3, e4⟩ := h6 q _ (Array.getElem?_eq_getElem hq)
  have hs : c9.slots = (s.heap[q]).slots := Array.ext_getElem? fun i => e4 i fun hm => hz _ hm rfl
  have h9 : c9 = s.heap[q] := by
    rw [hs] at e2
    exact e2
  have e5 : U.heap[q]? = some c9 := e1
  rw [e5, h9, Array.getElem?_eq_getElem hq]
/-- the words of a throw but the four that speak of the heap -/
def vx_no (w : Cond) : Bool := decide (w ≠ .isRef (.static Bundle.tN "UNASSIGNED_STACK" Bundle.steD)) && decide (w ≠ .isRef (.static Bundle.tN "SUPPRESSED_SENTINEL" Bundle.listD)) && decide (w ≠ .laysStatic Bundle.tN "UNASSIGNED_STACK" Bundle.steD) && decide (w ≠ .laysStatic Bundle.tN "SUPPRESSED_SENTINEL" Bundle.listD)
def vx_at0 (own : String) (ic : Nat) (X : String) (names : List String) : List Cond := (Bundle.ownAtoms0 own ic X names).filter vx_no
def vx_atS (own : String) (ic : Nat) (X : String) (names : List String) : List Cond := (Bundle.ownAtoms own ic X names).filter vx_no
/-- a word that the tables alone decide, or a good one -/
def vx_ot (w : Cond) : Bool := w.onTables || goodWord w
theorem vx_ot_at {args a' : Array Value} {s U : State} {w : Cond} (hW : s.WarmedH U.vm) (hvm : s.vm = U.vm) (hg : vx_ot w = true) (h : w.before args s = true) : w.before a' U = true := by
  simp only [vx_ot, Bool.or_eq_true] at hg
  rcases hg with hg | hg
  · exact va_tabs hg hvm h
  · exact word_at hW (good_of_word hg) h
/-- a list's words: the good ones out of the method's own list, the others by premises of their own -/
theorem vx_hat {args : Array Value} {s : State} {L B : List Cond} (h1 : ∀ w ∈ L.filter goodWord, w.before args s = true) (h2 : ∀ w ∈ L.filter (fun w => !goodWord w), w ∈ B) (h3 : ∀ w ∈ B, w.before args s = true) : ∀ w ∈ L, w.before args s = true := by
  intro w hw
  by_cases g : goodWord w = true
  · exact h1 w (List.mem_filter.mpr ⟨hw, g⟩)
  · refine h3 w (h2 w (List.mem_filter.mpr ⟨hw, ?_⟩))
    show (!goodWord w) = true
    cases hgw : goodWord w
    · rfl
    · exact absurd hgw g
theorem vx_c {args : Array Value} {s : State} {w : Cond} {B : List Cond} (h : w.before args s = true) (t : ∀ w ∈ B, w.before args s = true) : ∀ w' ∈ w :: B, w'.before args s = true := fun w' h' => (List.mem_cons.mp h').elim (fun e => by rw [e]; exact h) (t w')
theorem vx_n {args : Array Value} {s : State} : ∀ w ∈ ([] : List Cond), w.before args s = true := fun _ h => nomatch h
theorem vx_own {args : Array Value} {s : State} {L : List Cond} (h1 : ∀ w ∈ L.filter vx_no, w.before args s = true)
    (hU : (Cond.isRef (.static Bundle.tN "UNASSIGNED_STACK" Bundle.steD)).before args s = true) (hN : (Cond.isRef (.static Bundle.tN "SUPPRESSED_SENTINEL" Bundle.listD)).before args s = true)
    (lU : (Cond.laysStatic Bundle.tN "UNASSIGNED_STACK" Bundle.steD).before args s = true) (lN : (Cond.laysStatic Bundle.tN "SUPPRESSED_SENTINEL" Bundle.listD).before args s = true) : ∀ w ∈ L, w.before args s = true := by
  intro w hw
  by_cases e1 : w = .isRef (.static Bundle.tN "UNASSIGNED_STACK" Bundle.steD)
  · rw [e1]; exact hU
  · by_cases e2 : w = .isRef (.static Bundle.tN "SUPPRESSED_SENTINEL" Bundle.listD)
    · rw [e2]; exact hN
    · by_cases e3 : w = .laysStatic Bundle.tN "UNASSIGNED_STACK" Bundle.steD
      · rw [e3]; exact lU
      · by_cases e4 : w = .laysStatic Bundle.tN "SUPPRESSED_SENTINEL" Bundle.listD
        · rw [e4]; exact lN
        · exact h1 w (List.mem_filter.mpr ⟨hw, by unfold vx_no; rw [decide_eq_true e1, decide_eq_true e2, decide_eq_true e3, decide_eq_true e4]; rfl⟩)
/-- where a static field lies, its class's statics cell in H -/
def vx_L (C n d : String) (A : Nat → Prop) (U : State) (H : Heap) : Prop := ∃ (c : ClassId) (k : Class) (i : Nat) (f : Field) (a : Nat) (cell : Cell), U.vm.findClass C = some c ∧ U.fieldFound? C n d = some (c, k, i, f) ∧ f.isStatic = true ∧ k.statics = some a ∧ H[a]? = some cell ∧ cell.vm.isStatics = true ∧ cell.cls = c ∧ f.slot < cell.slots.size ∧ k.staticTypes[f.slot]? = some f.type ∧ ¬ A a
theorem vx_L.moved {C n d : String} {A : Nat → Prop} {u U : State} {H : Heap} (hvm : u.vm.Alike U.vm) (h : vx_L C n d A u H) : vx_L C n d A U H := by
  obtain ⟨c, k, i, f, a, cell, h1, h2, h3, h4, h5, h6, h7, h8, h9, h10⟩ := h
  obtain ⟨k', hi', he⟩ := State.fieldFound?_setVm hvm h2
  exact ⟨c, k', i, f, a, cell, by rw [hvm.findClass]; exact h1, hi', h3, by rw [he]; exact h4, h5, h6, h7, h8, by rw [he]; exact h9, h10⟩
theorem vx_L.kept {C n d : String} {A : Nat → Prop} {U : State} {H H1 : Heap} (h : vx_L C n d A U H) (hq : ∀ a : Nat, a < H.size → ¬ A a → H1[a]? = H[a]?) : vx_L C n d A U H1 := by
  obtain ⟨c, k, i, f, a, cell, h1, h2, h3, h4, h5, h6, h7, h8, h9, h10⟩ := h
  exact ⟨c, k, i, f, a, cell, h1, h2, h3, h4, by rw [hq a (Array.getElem?_eq_some_iff.mp h5).1 h10]; exact h5, h6, h7, h8, h9, h10⟩
theorem vx_L.narrow {C n d : String} {A B : Nat → Prop} {U : State} {H : Heap} (h : vx_L C n d A U H) (hAB : ∀ q, B q → A q) : vx_L C n d B U H := by
  obtain ⟨c, k, i, f, a, cell, h1, h2, h3, h4, h5, h6, h7, h8, h9, h10⟩ := h
  exact ⟨c, k, i, f, a, cell, h1, h2, h3, h4, h5, h6, h7, h8, h9, fun z => h10 (hAB _ z)⟩
theorem vx_L.word {C n d : String} {A : Nat → Prop} {s : State} {args : Array Value} (h : vx_L C n d A s s.heap) : (Cond.laysStatic C n d).before args s = true := by
  obtain ⟨c, k, i, f, a, cell, h1, h2, h3, h4, h5, h6, h7, h8, h9, -⟩ := h
  show (Cond.laysStatic C n d).holds args s none s [] = true
  exact Cond.laysStatic_of h1 h2 h3 h4 h5 h6 h7 h8 h9
/-- .. and what it holds: null or some reference -/
def vx_Zq (C n d : String) (A : Nat → Prop) (U : State) (H : Heap) : Prop := va_Zq C n d A U H ∧ vx_L C n d A U H
theorem vx_Zq.moved {C n d : String} {A : Nat → Prop} {u U : State} {H : Heap} (hvm : u.vm.Alike U.vm) (h : vx_Zq C n d A u H) : vx_Zq C n d A U H := ⟨va_Zq.moved hvm h.1, vx_L.moved hvm h.2⟩
theorem vx_Zq.kept {C n d : String} {A : Nat → Prop} {U : State} {H H1 : Heap} (h : vx_Zq C n d A U H) (hq : ∀ a : Nat, a < H.size → ¬ A a → H1[a]? = H[a]?) : vx_Zq C n d A U H1 := ⟨va_Zq.kept h.1 hq, vx_L.kept h.2 hq⟩
theorem vx_Zq.narrow {C n d : String} {A B : Nat → Prop} {U : State} {H : Heap} (h : vx_Zq C n d A U H) (hAB : ∀ q, B q → A q) : vx_Zq C n d B U H := ⟨va_Zq.narrow h.1 hAB, vx_L.narrow h.2 hAB⟩
theorem vx_Zqof {args : Array Value} {s : State} {C n d : String} {A : Nat → Prop} (hl : (Cond.laysStatic C n d).before args s = true) (hini : (Cond.initialized C).before args s = true) (h : (Cond.isRef (.static C n d)).before args s = true) (hA : ∀ a : Nat, a < s.heap.size → ¬ A a) : vx_Zq C n d A s s.heap := by
  refine ⟨va_Zqof hl hini h hA, ?_⟩
  obtain ⟨c, k, i, f, a, cell, h1, h2, h3, h4, h5, h6, h7, h8, h9⟩ := Cond.laysStatic_spec hl
  exact ⟨c, k, i, f, a, cell, h1, h2, h3, h4, h5, h6, h7, h8, h9, hA a (Array.getElem?_eq_some_iff.mp h5).1⟩
theorem vx_isRef {C n d : String} {v : Value} {A : Nat → Prop} {s : State} {args : Array Value} (h : va_Z C n d v A s s.heap) (hv : v.isRef = true) : (Cond.isRef (.static C n d)).before args s = true := by
  obtain ⟨cf, kf, fi, f, a, cell, h1, h2, h3, h4, h5, h6, h7, -⟩ := h
  have he : (Term.static C n d).eval args s none [] s = some v := by
    simp [Term.eval, State.fieldNamed?, h1, h2, h4, h5, h6, h7]
  simp only [Cond.before, Cond.holds, Cond.value, he]
  cases v <;> simp_all [Value.isRef]
theorem vx_isRefq {C n d : String} {A : Nat → Prop} {s : State} {args : Array Value} (h : va_Zq C n d A s s.heap) : (Cond.isRef (.static C n d)).before args s = true := by
  rcases h with h | ⟨t, h⟩
  · exact vx_isRef h rfl
  · exact vx_isRef h rfl
/-- the same frame, seen from here: as if the method were called anew in this heap -/
theorem vx_rebase {T : State} (X : Stand p l e R s m args below meth c T locs cells slots) {R' : Room} (hf : R'.frames ≤ R.frames) (hl : R'.locals ≤ R.locals) (hc : cells + R'.cells ≤ R.cells) (hs : slots + R'.slots ≤ R.slots) :
    Stand p l e R' ((T.setVm s.vm).setFrames (.invoking m args :: below)) m args below meth c T [] 0 0 := by
  have htop : (T.setVm s.vm).topJava?.isSome := X.here.top
  have hF : ((T.setVm s.vm).setFrames (.invoking m args :: below)).frames = .invoking m args :: below := State.frames_setFrames _ (State.cur_lt_of_top htop)
  obtain ⟨g₀, hg0⟩ := Option.isSome_iff_exists.mp htop
  obtain ⟨r, hr⟩ := State.topJava?_eq_some.mp hg0
  have hl9 : e.platform.stackLimits (T.setVm s.vm).me = e.platform.stackLimits s.me := X.limits
  have hb9 : (T.setVm s.vm).me.stackBytes = s.me.stackBytes := X.bytes
  refine ⟨X.admits, X.cas, X.clock, hF, ?_, X.hears, X.method, X.code, X.here, X.tail, X.warmed, ?_, ?_, ?_⟩
  · have h := X.room
    have hU : ((T.setVm s.vm).setFrames (.invoking m args :: below)).localsInUse = s.localsInUse := by
      rw [State.localsInUse_invoking hF (meth := meth) (c := c) X.method X.code, State.localsInUse_invoking X.frames X.method X.code]
    simp only [State.hasRoom, Bool.and_eq_true, decide_eq_true_eq] at h ⊢
    obtain ⟨⟨⟨⟨h1, h2, h3, h4, h5, h6⟩, h7⟩, h8⟩, h9⟩ := h
    rw [X.frames, List.length_cons] at h2 h3
    have q1 := X.heapSize
    have q2 := X.used
    simp only [hF, hU, List.length_cons, State.stackLimits_setFrames, State.stackBytes_setFrames, hl9, hb9]
    refine ⟨⟨⟨⟨by omega, by omega, by omega, by omega, by omega, h6⟩, ?_⟩, ?_⟩, X.book⟩
    · show T.heap.size + R'.cells ≤ e.platform.maxCells
      omega
    · show T.slotsUsed + R'.slots ≤ e.platform.maxSlots
      omega
  · rw [State.stackLimits_setFrames]; rfl
  · rw [State.stackBytes_setFrames]; rfl
  · refine ⟨?_, Nat.le_refl _, Nat.le_refl _, ?_, ?_, fun a c9 h9 => ⟨c9, h9, rfl, rfl, fun _ _ => rfl⟩⟩
    · obtain ⟨t, ht, -⟩ := State.frames_cons hr
      show T.setVm s.vm = { ((T.setVm s.vm).setFrames (.invoking m args :: below)).setFrames (T.setVm s.vm).frames with heap := T.heap, slotsUsed := T.slotsUsed }
      rw [State.setFrames_setFrames, State.setFrames_self ht]
      rfl
    · show T.slotsUsed = T.slotsUsed + ((T.heap.toList.drop T.heap.size).map (·.slots.size)).sum
      rw [List.drop_eq_nil_of_le (Nat.le_of_eq Array.length_toList)]
      rfl
    · show ((T.heap.toList.drop T.heap.size).map (·.slots.size)).sum ≤ 0
      rw [List.drop_eq_nil_of_le (Nat.le_of_eq Array.length_toList)]
      exact Nat.le_refl _
/-- 'throw new E()': new; dup; invokespecial; athrow -/
theorem vx_throw0 {cc : ByteArray} {pc : Nat} (hexec : p.tables.exec = Jvm.exec) (hb : c.code = cc) (hl : l.stackTraces = false) {own cls : String} {names : List String} {ik ic mc ms : Nat} {A : Nat → Prop}
    (hown : s.vm.findClass own = some m.cls) (hcls : Bundle.fit cls = true) (hnames : ∀ n ∈ names, Bundle.fit n = true)
    (hk : (Cond.classLink own ik cls).before args s = true) (hini : (Cond.initialized cls).before args s = true) (hat : ∀ w ∈ vx_at0 own ic cls names, w.before args s = true)
    (hgood : ∀ w ∈ Cond.classLink own ik cls :: Cond.initialized cls :: vx_at0 own ic cls names, vx_ot w = true)
    (hU : vx_Zq Bundle.tN "UNASSIGNED_STACK" Bundle.steD A s s.heap) (hN : vx_Zq Bundle.tN "SUPPRESSED_SENTINEL" Bundle.listD A s s.heap) (hS : va_S A s.heap H locs) (hsize : ls.size = c.maxLocals)
    (d0 : decode cc pc = .ok (.new ik, 3)) (d3 : decode cc (pc + 3) = .ok (.dup, 1)) (d4 : decode cc (pc + 4) = .ok (.invokespecial ic, 3)) (d7 : decode cc (pc + 7) = .ok (.athrow, 1))
    (hout : ∀ x ∈ c.exceptionTable.toList, covers x (pc + 7) = false)
    (hRframes : names.length + 3 < R.frames) (hRlocals : (rest.map fun v => v.category).sum + (13 * (names.length + 1) + 42) ≤ R.locals) (hRcells : cells + 1 ≤ R.cells) (hRslots : slots + 6 ≤ R.slots) (hlocks : meth.locks = false)
    (hx : ∀ t : State, s.vm.Alike t.vm → H.size ≤ t.heap.size → (∀ q : Nat, q < H.size → t.heap[q]? = H[q]?) → XC cls s t)
    (hf : ∀ z ∈ locs, free z.base) (hc : cells + 1 ≤ mc) (hs : slots + 6 ≤ ms) :
    W p l e R s m args below meth c H locs cells slots (vx_MQ below Qc XC args s mc ms free) (F0 m pc ls rest) := by
  intro T hT X
  have htr : e.platform.stackTraces = false := (show e.platform.stackTraces = l.stackTraces by rw [X.admits.platform]).trans hl
  have Y := vx_rebase X (R' := { frames := R.frames, locals := R.locals, cells := 1, slots := 6 }) (Nat.le_refl _) (Nat.le_refl _) hRcells hRslots
  obtain ⟨s', hA⟩ : ∃ z, z = (T.setVm s.vm).setFrames (.invoking m args :: below) := ⟨_, rfl⟩
  rw [← hA] at Y
  have hvm : s'.vm = s.vm := by rw [hA]; rfl
  have hhp : s'.heap = H := by rw [hA]; exact hT
  have hW0 : s.WarmedH s'.vm := by rw [hvm]; exact State.WarmedH.refl s
  have hat' : ∀ w ∈ vx_at0 own ic cls names, w.before args s' = true := fun w hw => vx_ot_at hW0 hvm.symm (hgood w (List.mem_cons_of_mem _ (List.mem_cons_of_mem _ hw))) (hat w hw)
  have hk' : (Cond.classLink own ik cls).before args s' = true := vx_ot_at hW0 hvm.symm (hgood _ List.mem_cons_self) hk
  have hini' : (Cond.initialized cls).before args s' = true := vx_ot_at hW0 hvm.symm (hgood _ (List.mem_cons_of_mem _ List.mem_cons_self)) hini
  have hU' : vx_Zq Bundle.tN "UNASSIGNED_STACK" Bundle.steD A s' s'.heap := by rw [hhp]; exact vx_Zq.moved hW0.alike (hU.kept hS.2.1)
  have hN' : vx_Zq Bundle.tN "SUPPRESSED_SENTINEL" Bundle.listD A s' s'.heap := by rw [hhp]; exact vx_Zq.moved hW0.alike (hN.kept hS.2.1)
  have h : ∀ w ∈ Bundle.ownAtoms0 own ic cls names, w.before args s' = true := vx_own hat' (vx_isRefq hU'.1) (vx_isRefq hN'.1) hU'.2.word hN'.2.word
  have hown' : s'.vm.findClass own = some m.cls := by rw [hvm]; exact hown
  have hins : (Cond.instantiable cls 6).before args s' = true := h _ (by simp [Bundle.ownAtoms0])
  obtain ⟨vm₁, cX, kX, hfX, hkX, -, -, X₁, st1⟩ := Y.newCold hexec (own := own) (C := cls) (index := ik) (n := 6) hown' hk' hins hini'
    (g := F0 m pc ls rest) rfl (by rw [hb]; exact d0) (Nat.le_refl _) (Nat.le_refl _)
  generalize hT1 : (T.setVm vm₁).pushCell { cls := cX, slots := kX.instanceTypes.map defaultValue, vm := .none } = T1 at X₁ st1
  have hcat : (Value.ref T.heap.size).category = 1 := rfl
  have hcellA : T1.heap[T.heap.size]? = some (freshCell cX kX) := by rw [← hT1]; exact State.heap_pushCell_size _ _
  have d3' : decode c.code (pc + 3) = .ok (.dup, 1) := by rw [hb]; exact d3
  obtain ⟨U, hsteps, hrun, hend, hW, hsame, ce, hce, hO⟩ := X₁.ctorThrow0 hexec htr (own := own) (cls := cls) (names := names) (ic := ic) hown' hcls hnames h (fun x hx => nomatch hx) hfX hkX hcellA (by rw [hhp, hT]; exact Nat.le_refl _)
    (g := { method := m, pc := pc + 4, locals := ls, stack := .ref T.heap.size :: .ref T.heap.size :: rest, locked := none }) rfl hsize rfl rfl (rest := rest) rfl
    (by rw [hb]; exact d4) (by rw [hb]; exact d7) hout hRframes (by simp only [List.map_cons, List.sum_cons, hcat]; omega) hlocks
  obtain ⟨f1, f2⟩ := vx_frame hsame
  rw [hhp] at f1 f2
  have hWs : s.WarmedH U.vm := State.WarmedH.trans hW0 hW
  have hcl : s.vm.findClass cls = some ce.cls := by
    have h9 := hO.cls
    rw [hvm] at h9
    exact h9
  have hall : s.sameButNew ({ U with vm := s.vm } : State) locs mc ms := by
    subst hA
    obtain ⟨e1, e2⟩ := hsame
    rw [State.setFrames_setFrames] at e1
    have h2 : (T.setVm s.vm).sameButNew ({ U with vm := s.vm } : State) [] (0 + 1) (0 + 6) := ⟨e1, e2⟩
    have h3 := X.same.trans h2
    rw [List.append_nil] at h3
    exact h3.mono hc hs
  refine ⟨U, ?_, .threw T.heap.size, hrun, hend, Or.inr ⟨T.heap.size, rfl, cls, ce, locs, hx U hWs.alike f1 (fun q hq => f2 q hq (fun z hz => nomatch hz)), hce, hO.vm, hcl, hWs, hall, hf⟩⟩
  refine st1 _ ?_
  show Steps p.tables e below (T1.setTop { method := m, pc := pc + 3, locals := ls, stack := .ref T.heap.size :: rest, locked := none }) _
  jvm_step X₁.here [X₁.here.top, hexec, d3', Value.category]
  exact hsteps
/-- 'throw new E("text")': new; dup; ldc; invokespecial; athrow -/
theorem vx_throwS {cc : ByteArray} {pc : Nat} (hexec : p.tables.exec = Jvm.exec) (hb : c.code = cc) (hl : l.stackTraces = false) {own cls text : String} {names : List String} {ik is ic mc ms sa : Nat} {A : Nat → Prop}
    (hown : s.vm.findClass own = some m.cls) (hcls : Bundle.fit cls = true) (hnames : ∀ n ∈ names, Bundle.fit n = true)
    (hk : (Cond.classLink own ik cls).before args s = true) (hini : (Cond.initialized cls).before args s = true) (hstr : vk_R own is text sa s) (hat : ∀ w ∈ vx_atS own ic cls names, w.before args s = true)
    (hgood : ∀ w ∈ Cond.classLink own ik cls :: Cond.initialized cls :: vx_atS own ic cls names, vx_ot w = true)
    (hU : vx_Zq Bundle.tN "UNASSIGNED_STACK" Bundle.steD A s s.heap) (hN : vx_Zq Bundle.tN "SUPPRESSED_SENTINEL" Bundle.listD A s s.heap) (hS : va_S A s.heap H locs) (hsize : ls.size = c.maxLocals)
    (d0 : decode cc pc = .ok (.new ik, 3)) (d3 : decode cc (pc + 3) = .ok (.dup, 1)) (d4 : decode cc (pc + 4) = .ok (.ldc is, 2)) (d6 : decode cc (pc + 6) = .ok (.invokespecial ic, 3)) (d9 : decode cc (pc + 9) = .ok (.athrow, 1))
    (hout : ∀ x ∈ c.exceptionTable.toList, covers x (pc + 9) = false)
    (hRframes : names.length + 3 < R.frames) (hRlocals : (rest.map fun v => v.category).sum + (13 * (names.length + 1) + 43) ≤ R.locals) (hRcells : cells + 1 ≤ R.cells) (hRslots : slots + 6 ≤ R.slots) (hlocks : meth.locks = false)
    (hx : ∀ t : State, s.vm.Alike t.vm → H.size ≤ t.heap.size → (∀ q : Nat, q < H.size → t.heap[q]? = H[q]?) → XC cls s t)
    (hf : ∀ z ∈ locs, free z.base) (hc : cells + 1 ≤ mc) (hs : slots + 6 ≤ ms) :
    W p l e R s m args below meth c H locs cells slots (vx_MQ below Qc XC args s mc ms free) (F0 m pc ls rest) := by
  intro T hT X
  have htr : e.platform.stackTraces = false := (show e.platform.stackTraces = l.stackTraces by rw [X.admits.platform]).trans hl
  have Y := vx_rebase X (R' := { frames := R.frames, locals := R.locals, cells := 1, slots := 6 }) (Nat.le_refl _) (Nat.le_refl _) hRcells hRslots
  obtain ⟨s', hA⟩ : ∃ z, z = (T.setVm s.vm).setFrames (.invoking m args :: below) := ⟨_, rfl⟩
  rw [← hA] at Y
  have hvm : s'.vm = s.vm := by rw [hA]; rfl
  have hhp : s'.heap = H := by rw [hA]; exact hT
  have hW0 : s.WarmedH s'.vm := by rw [hvm]; exact State.WarmedH.refl s
  have hat' : ∀ w ∈ vx_atS own ic cls names, w.before args s' = true := fun w hw => vx_ot_at hW0 hvm.symm (hgood w (List.mem_cons_of_mem _ (List.mem_cons_of_mem _ hw))) (hat w hw)
  have hk' : (Cond.classLink own ik cls).before args s' = true := vx_ot_at hW0 hvm.symm (hgood _ List.mem_cons_self) hk
  have hini' : (Cond.initialized cls).before args s' = true := vx_ot_at hW0 hvm.symm (hgood _ (List.mem_cons_of_mem _ List.mem_cons_self)) hini
  have hU' : vx_Zq Bundle.tN "UNASSIGNED_STACK" Bundle.steD A s' s'.heap := by rw [hhp]; exact vx_Zq.moved hW0.alike (hU.kept hS.2.1)
  have hN' : vx_Zq Bundle.tN "SUPPRESSED_SENTINEL" Bundle.listD A s' s'.heap := by rw [hhp]; exact vx_Zq.moved hW0.alike (hN.kept hS.2.1)
  have h : ∀ w ∈ Bundle.ownAtoms own ic cls names, w.before args s' = true := vx_own hat' (vx_isRefq hU'.1) (vx_isRefq hN'.1) hU'.2.word hN'.2.word
  have hown' : s'.vm.findClass own = some m.cls := by rw [hvm]; exact hown
  have hins : (Cond.instantiable cls 6).before args s' = true := h _ (by simp [Bundle.ownAtoms])
  obtain ⟨vm₁, cX, kX, hfX, hkX, -, -, X₁, st1⟩ := Y.newCold hexec (own := own) (C := cls) (index := ik) (n := 6) hown' hk' hins hini'
    (g := F0 m pc ls rest) rfl (by rw [hb]; exact d0) (Nat.le_refl _) (Nat.le_refl _)
  generalize hT1 : (T.setVm vm₁).pushCell { cls := cX, slots := kX.instanceTypes.map defaultValue, vm := .none } = T1 at X₁ st1
  have hcat : (Value.ref T.heap.size).category = 1 := rfl
  have hcellA : T1.heap[T.heap.size]? = some (freshCell cX kX) := by rw [← hT1]; exact State.heap_pushCell_size _ _
  have d3' : decode c.code (pc + 3) = .ok (.dup, 1) := by rw [hb]; exact d3
  have d4' : decode c.code (pc + 4) = .ok (.ldc is, 2) := by rw [hb]; exact d4
  have hstr' : vk_R own is text sa s' := vk_R.warm hW0 hstr
  obtain ⟨U, hsteps, hrun, hend, hW, hsame, ce, hce, hO⟩ := X₁.ctorThrowS hexec htr (own := own) (cls := cls) (names := names) (ic := ic) hown' hcls hnames h (fun x hx => nomatch hx) hfX hkX hcellA (by rw [hhp, hT]; exact Nat.le_refl _) (msg := .ref sa) rfl
    (g := { method := m, pc := pc + 6, locals := ls, stack := .ref sa :: .ref T.heap.size :: .ref T.heap.size :: rest, locked := none }) rfl hsize rfl rfl (rest := rest) rfl
    (by rw [hb]; exact d6) (by rw [hb]; exact d9) hout hRframes (by simp only [List.map_cons, List.sum_cons, hcat]; omega) hlocks
  obtain ⟨f1, f2⟩ := vx_frame hsame
  rw [hhp] at f1 f2
  have hWs : s.WarmedH U.vm := State.WarmedH.trans hW0 hW
  have hcl : s.vm.findClass cls = some ce.cls := by
    have h9 := hO.cls
    rw [hvm] at h9
    exact h9
  have hall : s.sameButNew ({ U with vm := s.vm } : State) locs mc ms := by
    subst hA
    obtain ⟨e1, e2⟩ := hsame
    rw [State.setFrames_setFrames] at e1
    have h2 : (T.setVm s.vm).sameButNew ({ U with vm := s.vm } : State) [] (0 + 1) (0 + 6) := ⟨e1, e2⟩
    have h3 := X.same.trans h2
    rw [List.append_nil] at h3
    exact h3.mono hc hs
  refine ⟨U, ?_, .threw T.heap.size, hrun, hend, Or.inr ⟨T.heap.size, rfl, cls, ce, locs, hx U hWs.alike f1 (fun q hq => f2 q hq (fun z hz => nomatch hz)), hce, hO.vm, hcl, hWs, hall, hf⟩⟩
  refine st1 _ ?_
  show Steps p.tables e below (T1.setTop { method := m, pc := pc + 3, locals := ls, stack := .ref T.heap.size :: rest, locked := none }) _
  jvm_step X₁.here [X₁.here.top, hexec, d3', Value.category]
  exact X₁.ldcString hexec (own := own) (text := text) (index := is) (a := sa) hown' hstr'.1 hstr'.2
    (g := { method := m, pc := pc + 4, locals := ls, stack := .ref T.heap.size :: .ref T.heap.size :: rest, locked := none }) rfl d4' _ hsteps
/-- 'throw new E("text")', the text by a wide index -/
theorem vx_throwSW {cc : ByteArray} {pc : Nat} (hexec : p.tables.exec = Jvm.exec) (hb : c.code = cc) (hl : l.stackTraces = false) {own cls text : String} {names : List String} {ik is ic mc ms sa : Nat} {A : Nat → Prop}
    (hown : s.vm.findClass own = some m.cls) (hcls : Bundle.fit cls = true) (hnames : ∀ n ∈ names, Bundle.fit n = true)
    (hk : (Cond.classLink own ik cls).before args s = true) (hini : (Cond.initialized cls).before args s = true) (hstr : vk_R own is text sa s) (hat : ∀ w ∈ vx_atS own ic cls names, w.before args s = true)
    (hgood : ∀ w ∈ Cond.classLink own ik cls :: Cond.initialized cls :: vx_atS own ic cls names, vx_ot w = true)
    (hU : vx_Zq Bundle.tN "UNASSIGNED_STACK" Bundle.steD A s s.heap) (hN : vx_Zq Bundle.tN "SUPPRESSED_SENTINEL" Bundle.listD A s s.heap) (hS : va_S A s.heap H locs) (hsize : ls.size = c.maxLocals)
    (d0 : decode cc pc = .ok (.new ik, 3)) (d3 : decode cc (pc + 3) = .ok (.dup, 1)) (d4 : decode cc (pc + 4) = .ok (.ldc_w is, 3)) (d7 : decode cc (pc + 7) = .ok (.invokespecial ic, 3)) (d10 : decode cc (pc + 10) = .ok (.athrow, 1))
    (hout : ∀ x ∈ c.exceptionTable.toList, covers x (pc + 10) = false)
    (hRframes : names.length + 3 < R.frames) (hRlocals : (rest.map fun v => v.category).sum + (13 * (names.length + 1) + 43) ≤ R.locals) (hRcells : cells + 1 ≤ R.cells) (hRslots : slots + 6 ≤ R.slots) (hlocks : meth.locks = false)
    (hx : ∀ t : State, s.vm.Alike t.vm → H.size ≤ t.heap.size → (∀ q : Nat, q < H.size → t.heap[q]? = H[q]?) → XC cls s t)
    (hf : ∀ z ∈ locs, free z.base) (hc : cells + 1 ≤ mc) (hs : slots + 6 ≤ ms) :
    W p l e R s m args below meth c H locs cells slots (vx_MQ below Qc XC args s mc ms free) (F0 m pc ls rest) := by
  intro T hT X
  have htr : e.platform.stackTraces = false := (show e.platform.stackTraces = l.stackTraces by rw [X.admits.platform]).trans hl
  have Y := vx_rebase X (R' := { frames := R.frames, locals := R.locals, cells := 1, slots := 6 }) (Nat.le_refl _) (Nat.le_refl _) hRcells hRslots
  obtain ⟨s', hA⟩ : ∃ z, z = (T.setVm s.vm).setFrames (.invoking m args :: below) := ⟨_, rfl⟩
  rw [← hA] at Y
  have hvm : s'.vm = s.vm := by rw [hA]; rfl
  have hhp : s'.heap = H := by rw [hA]; exact hT
  have hW0 : s.WarmedH s'.vm := by rw [hvm]; exact State.WarmedH.refl s
  have hat' : ∀ w ∈ vx_atS own ic cls names, w.before args s' = true := fun w hw => vx_ot_at hW0 hvm.symm (hgood w (List.mem_cons_of_mem _ (List.mem_cons_of_mem _ hw))) (hat w hw)
  have hk' : (Cond.classLink own ik cls).before args s' = true := vx_ot_at hW0 hvm.symm (hgood _ List.mem_cons_self) hk
  have hini' : (Cond.initialized cls).before args s' = true := vx_ot_at hW0 hvm.symm (hgood _ (List.mem_cons_of_mem _ List.mem_cons_self)) hini
  have hU' : vx_Zq Bundle.tN "UNASSIGNED_STACK" Bundle.steD A s' s'.heap := by rw [hhp]; exact vx_Zq.moved hW0.alike (hU.kept hS.2.1)
  have hN' : vx_Zq Bundle.tN "SUPPRESSED_SENTINEL" Bundle.listD A s' s'.heap := by rw [hhp]; exact vx_Zq.moved hW0.alike (hN.kept hS.2.1)
  have h : ∀ w ∈ Bundle.ownAtoms own ic cls names, w.before args s' = true := vx_own hat' (vx_isRefq hU'.1) (vx_isRefq hN'.1) hU'.2.word hN'.2.word
  have hown' : s'.vm.findClass own = some m.cls := by rw [hvm]; exact hown
  have hins : (Cond.instantiable cls 6).before args s' = true := h _ (by simp [Bundle.ownAtoms])
  obtain ⟨vm₁, cX, kX, hfX, hkX, -, -, X₁, st1⟩ := Y.newCold hexec (own := own) (C := cls) (index := ik) (n := 6) hown' hk' hins hini'
    (g := F0 m pc ls rest) rfl (by rw [hb]; exact d0) (Nat.le_refl _) (Nat.le_refl _)
  generalize hT1 : (T.setVm vm₁).pushCell { cls := cX, slots := kX.instanceTypes.map defaultValue, vm := .none } = T1 at X₁ st1
  have hcat : (Value.ref T.heap.size).category = 1 := rfl
  have hcellA : T1.heap[T.heap.size]? = some (freshCell cX kX) := by rw [← hT1]; exact State.heap_pushCell_size _ _
  have d3' : decode c.code (pc + 3) = .ok (.dup, 1) := by rw [hb]; exact d3
  have d4' : decode c.code (pc + 4) = .ok (.ldc_w is, 3) := by rw [hb]; exact d4
  have hstr' : vk_R own is text sa s' := vk_R.warm hW0 hstr
  obtain ⟨U, hsteps, hrun, hend, hW, hsame, ce, hce, hO⟩ := X₁.ctorThrowS hexec htr (own := own) (cls := cls) (names := names) (ic := ic) hown' hcls hnames h (fun x hx => nomatch hx) hfX hkX hcellA (by rw [hhp, hT]; exact Nat.le_refl _) (msg := .ref sa) rfl
    (g := { method := m, pc := pc + 7, locals := ls, stack := .ref sa :: .ref T.heap.size :: .ref T.heap.size :: rest, locked := none }) rfl hsize rfl rfl (rest := rest) rfl
    (by rw [hb]; exact d7) (by rw [hb]; exact d10) hout hRframes (by simp only [List.map_cons, List.sum_cons, hcat]; omega) hlocks
  obtain ⟨f1, f2⟩ := vx_frame hsame
  rw [hhp] at f1 f2
  have hWs : s.WarmedH U.vm := State.WarmedH.trans hW0 hW
  have hcl : s.vm.findClass cls = some ce.cls := by
    have h9 := hO.cls
    rw [hvm] at h9
    exact h9
  have hall : s.sameButNew ({ U with vm := s.vm } : State) locs mc ms := by
    subst hA
    obtain ⟨e1, e2⟩ := hsame
    rw [State.setFrames_setFrames] at e1
    have h2 : (T.setVm s.vm).sameButNew ({ U with vm := s.vm } : State) [] (0 + 1) (0 + 6) := ⟨e1, e2⟩
    have h3 := X.same.trans h2
    rw [List.append_nil] at h3
    exact h3.mono hc hs
  refine ⟨U, ?_, .threw T.heap.size, hrun, hend, Or.inr ⟨T.heap.size, rfl, cls, ce, locs, hx U hWs.alike f1 (fun q hq => f2 q hq (fun z hz => nomatch hz)), hce, hO.vm, hcl, hWs, hall, hf⟩⟩
  refine st1 _ ?_
  show Steps p.tables e below (T1.setTop { method := m, pc := pc + 3, locals := ls, stack := .ref T.heap.size :: rest, locked := none }) _
  jvm_step X₁.here [X₁.here.top, hexec, d3', Value.category]
  exact X₁.ldcStringW hexec (own := own) (text := text) (index := is) (a := sa) hown' hstr'.1 hstr'.2
    (g := { method := m, pc := pc + 4, locals := ls, stack := .ref T.heap.size :: .ref T.heap.size :: rest, locked := none }) rfl d4' _ hsteps
end Ends
section Bodies
variable {l : Launch}
theorem vx_ofW {y : MethodName} {ws ws' : List Cond} {rm : Room} {Pc : Array Value → State → Prop} {Qc : Array Value → State → Outcome → State → Prop} {XC : String → State → State → Prop} {mc ms : Nat} {free : Addr → Prop} {cc : ByteArray} {maxL : Nat} {ret : Option FieldType}
    (hy : plainName y.cls = true) (hw : ws = Cond.code y cc maxL ret :: ws')
    (body : ∀ p e s m args below meth c s₁, BodyLoose p l y (headSpec ws rm) cc maxL ret e s m args below meth c s₁ → c.maxLocals = maxL → (∀ x ∈ c.exceptionTable.toList, False) → Pc args s →
      W p l e (headSpec ws rm).room s m args below meth c s.heap [] 0 0 (vx_MQ below Qc XC args s mc ms free) (entryFrame m args maxL)) : vx_Met l y ws rm Pc Qc XC mc ms free := by
  refine MetFree.of_bodyS (code := cc) (maxLocals := maxL) (ret := ret) hy ?_ ?_
  · intro args s m h hn
    obtain ⟨meth, c, h1, h2, h3, h4, h5, h6, -, -⟩ := Cond.code_spec hn (atoms_spec (ws := ws) h _ (by rw [hw]; exact List.mem_cons_self))
    exact ⟨meth, c, h1, h2, h3, h4, h5, h6⟩
  · intro p e s m args below meth c s₁ B hml hP _
    have hh0 : s₁.heap = s.heap := by rw [B.state]; rfl
    have ht : ∀ x ∈ c.exceptionTable.toList, False := by
      obtain ⟨meth9, c9, h1, h2, -, -, -, -, h7, -⟩ := Cond.code_spec B.named (atoms_spec (ws := ws) B.pre _ (by rw [hw]; exact List.mem_cons_self))
      cases Option.some.inj (h1.symm.trans B.method)
      cases Option.some.inj (h2.symm.trans (Stand.of_body B).code)
      intro x hx
      rw [Array.isEmpty_iff.mp h7] at hx
      cases hx
    obtain ⟨t, a1, o, b1, b2, b3⟩ := body p e s m args below meth c s₁ B hml ht hP s₁ hh0 (Stand.of_body B)
    exact ⟨t, o, a1, b1, b2, b3⟩
/-- the table of a body with handlers -/
theorem vx_table {p : Program} {x y : MethodName} {S : Spec} {cc bytes : ByteArray} {maxL maxL' : Nat} {ret ret' : Option FieldType} {e : Env} {s s₁ : State} {m : MethodId} {args : Array Value} {below : List Frame} {meth : Method} {c : Code} {hh : List (Nat × Nat × Nat × Nat)}
    (B : BodyLoose p l y S cc maxL ret e s m args below meth c s₁) (h : (Cond.codeWith y bytes maxL' ret' hh).before args s = true) : c.exceptionTable.toList = tableOf hh := by
  obtain ⟨m9, meth9, c9, hn9, h1, h2, -, -, h6, -⟩ := Cond.codeWith_spec h
  cases Option.some.inj (hn9.symm.trans B.named)
  cases Option.some.inj (h1.symm.trans B.method)
  cases Option.some.inj (h2.symm.trans (Stand.of_body B).code)
  rw [← h6, table_eq]
end Bodies
end VXA
/-! ===== END ===== -/
/-! ===== BEGIN a static call of a method with an exception table ===== -/
section VXS
variable {p : Program} {l : Launch} {e : Env} {R : Room} {s : State} {m : MethodId} {args : Array Value} {below : List Frame} {meth : Method} {c : Code} {T : State} {H : Heap} {locs : List Loc} {cells slots : Nat}
abbrev vx_CSW (R : Room) (s : State) (args : Array Value) (own : String) (index : Nat) (y : MethodName) (bytes : ByteArray) (maxL : Nat) (ret : Option FieldType) (hh : List (Nat × Nat × Nat × Nat)) (ws : List Cond) (rm : Room) (mc ms n : Nat) : Prop :=
  (rm.cells = mc ∧ rm.slots = ms ∧ rm.frames + 1 ≤ R.frames ∧ 8 + (maxL + 11) + rm.locals ≤ R.locals ∧ (∀ w ∈ ws, ∀ (a' : Array Value) (U : State), s.WarmedH U.vm → w.before a' U = true) ∧ Cond.codeWith y bytes maxL ret hh ∈ ws) ∧
  (Cond.codeWith y bytes maxL ret hh).before args s = true ∧ (Cond.initialized y.cls).before args s = true ∧ (y.cls ≠ "java/lang/invoke/MethodHandle" ∧ y.cls ≠ "java/lang/invoke/VarHandle") ∧
  (∀ sig, parseMethodDescriptor y.desc = some sig → n = sig.parameters.length) ∧ (Cond.methodLink own index y).before args s = true ∧ (Cond.static y).before args s = true
theorem vx_cwSW {own : String} {index maxL mc ms : Nat} {y : MethodName} {bytes : ByteArray} {ret : Option FieldType} {hh : List (Nat × Nat × Nat × Nat)} {Ts ws ws' : List Cond} {rm : Room} (n : Nat) (ht : ∀ w ∈ Ts, w.before args s = true) (hT : GoodIn Ts (va_wsS own index y ws)) (hw : ws = Cond.codeWith y bytes maxL ret hh :: ws') (hrc : rm.cells = mc) (hrs : rm.slots = ms)
    (hd : y.cls ≠ "java/lang/invoke/MethodHandle" ∧ y.cls ≠ "java/lang/invoke/VarHandle" ∧ (parseMethodDescriptor y.desc).map (fun d => d.parameters.length) = some n) (hR : rm.frames + 1 ≤ R.frames ∧ 8 + (maxL + 11) + rm.locals ≤ R.locals) :
    vx_CSW R s args own index y bytes maxL ret hh ws rm mc ms n := by
  have ok : ∀ w ∈ va_wsS own index y ws, w.before args s = true := fun w h => ht w (hT w h).1
  have hG : GoodIn Ts ws := fun w h => hT w (by unfold va_wsS; exact List.mem_append_right _ h)
  have hc : Cond.codeWith y bytes maxL ret hh ∈ ws := by rw [hw]; exact List.mem_cons_self
  refine ⟨⟨hrc, hrs, hR.1, hR.2, pay_in ht hG, hc⟩, ht _ (hG _ hc).1, ok _ (by simp [va_wsS]), ⟨hd.1, hd.2.1⟩, fun sig h => ?_, ok _ (by simp [va_wsS]), ok _ (by simp [va_wsS])⟩
  have h2 := hd.2.2
  rw [h] at h2
  exact (Option.some.inj h2).symm
theorem vx_callSW (X : Stand p l e R s m args below meth c T locs cells slots) (hexec : p.tables.exec = Jvm.exec) {own : String} {index : Nat} {y : MethodName} {bytes : ByteArray} {maxL : Nat} {ret : Option FieldType} {hh : List (Nat × Nat × Nat × Nat)}
    (hown : s.vm.findClass own = some m.cls) (hlink : (Cond.methodLink own index y).before args s = true) (hstat : (Cond.static y).before args s = true) (hinit : (Cond.initialized y.cls).before args s = true)
    (hcode : (Cond.codeWith y bytes maxL ret hh).before args s = true) (hy : y.cls ≠ "java/lang/invoke/MethodHandle" ∧ y.cls ≠ "java/lang/invoke/VarHandle")
    {W9 : Nat} {Pre : Pt → Array Value → Prop} {Post : Pt → Array Value → Option Value → Pt → Prop} (hK : Back l R p e below s args y 3 W9 Pre Post)
    {g : JFrame} (hg : g.method = m) (hsize : g.locals.size = c.maxLocals) {argsL rest : List Value} (hlen : ∀ sig, parseMethodDescriptor y.desc = some sig → argsL.length = sig.parameters.length)
    (hstack : g.stack = argsL.reverse ++ rest) (hW : 2 * g.monitorRoom + (rest.map fun v => v.category).sum ≤ W9) (hdg : decode c.code g.pc = .ok (.invokestatic index, 3))
    (hpre : ∀ vm₁, s.WarmedH vm₁ → Pre ⟨T.setVm vm₁, locs, cells, slots⟩ argsL.toArray) :
    ∃ (v : Option Value) (vm₁ : Vm) (B : Pt), s.WarmedH vm₁ ∧ Stand p l e R s m args below meth c B.U B.locs B.cells B.slots ∧ Post ⟨T.setVm vm₁, locs, cells, slots⟩ argsL.toArray v B ∧
      ∀ target, Steps p.tables e below (B.U.setTop { g with pc := g.pc + 3, stack := v.toList ++ rest }) target → Steps p.tables e below (T.setTop g) target := by
  obtain ⟨mk, methM, cM, hnamed, hmethM, -, -, -, -, -, -, hsigM⟩ := Cond.codeWith_spec hcode
  have hstatic : methM.isStatic = true := Cond.static_spec hnamed hmethM hstat
  obtain ⟨kP, hkP, -⟩ := className_of_methodNamed hnamed
  have hinitP : kP.init = .initialized := Cond.initialized_spec (findClass_of_methodNamed hnamed) hkP hinit
  obtain ⟨vm₁, X₁, hstep₁⟩ := X.invokestatic hexec hown hlink hnamed hmethM hstatic hkP hinitP hy (g := g) hg (argsL := argsL) (rest := rest) (hlen _ hsigM) hstack hdg
  obtain ⟨v, B, X', hpost, hsteps⟩ := hK m meth c ⟨T.setVm vm₁, locs, cells, slots⟩ { g with stack := rest } (.invokestatic index) mk argsL.toArray X₁ hg hsize hdg hW (X₁.named hnamed) (hpre vm₁ X₁.warmed)
  exact ⟨v, vm₁, B, X₁.warmed, X', hpost, fun target h => hstep₁ _ fun acts => by rw [doInvoke_state]; exact hsteps.trans h⟩
theorem vx_runSW {y : MethodName} {bytes cc : ByteArray} {maxL nL mc ms n index : Nat} {ret : Option FieldType} {hh : List (Nat × Nat × Nat × Nat)} {ws : List Cond} {rm : Room} {Pc : Array Value → State → Prop} {Qc : Array Value → State → Outcome → State → Prop} {free : Addr → Prop} {Ts : List Cond} {own : String} {As rest : List Value} {g : JFrame}
    (S : CallFix p m c cc nL s args Ts own) (hM : Met l y ws rm Pc Qc mc ms free) (cw : vx_CSW R s args own index y bytes maxL ret hh ws rm mc ms n) (hp : PreS s H Pc As)
    (hg : g.method = m) (hn : As.length = n) (hsize : g.locals.size = nL) (hstack : g.stack = As.reverse ++ rest) (hW : 2 * g.monitorRoom + (rest.map fun v => v.category).sum ≤ 8) (hdg : decode cc g.pc = .ok (.invokestatic index, 3)) (hf : cells + mc ≤ R.cells ∧ slots + ms ≤ R.slots) :
    va_Run p l e R s m args below meth c H locs cells slots mc ms g rest (Qc As.toArray) (free) := by
  obtain ⟨⟨hrc, hrs, hfr, hlo, hws, hcw⟩, hcode, hini, hy, hlen, hl, hstt⟩ := cw
  have hK : Back l R p e below s args y 3 8 (PreOf R mc ms Pc) (PostOf Qc mc ms free) := va_backW (hh := hh) (bytes := bytes) (maxL := maxL) (ret := ret) hM hp.1 hrc hrs hfr hlo hws hcw (fun a' U hW => word_at hW (Or.inl (by first | rfl | simp [Cond.onTables, Cond.keeps, Cond.steady])) hini)
  obtain ⟨hx, hb, hml, ho, -⟩ := S
  intro T hT X
  obtain ⟨v, vm₁, ⟨U', l2, c2, s2⟩, hW₁, X', ⟨g', mk, t, L, e1, e2, hq, h1, hL, h2, h3⟩, st⟩ := vx_callSW X hx (hh := hh) (bytes := bytes) (maxL := maxL) (ret := ret) ho hl hstt hini hcode hy hK hg (hsize.trans hml.symm) (argsL := As) (rest := rest) (fun sig h => hn.trans (hlen sig h)) hstack hW (by rw [hb]; exact hdg)
    (fun vm₁ hW₁ => ⟨hf.1, hf.2, hp.2 (T.setVm vm₁) hT hW₁⟩)
  dsimp only [Pt.U, Pt.locs, Pt.cells, Pt.slots] at X' e1 e2 h1 h2 h3 st
  subst h1; subst h2; subst h3
  exact ⟨v, (T.setVm vm₁).calling g' mk As.toArray, t, U', L, hT, X', hL, e1, e2, hq, st⟩
/-- not caught here, past rows that name other classes: it goes on to the caller -/
theorem vx_outP {p : Program} {l : Launch} {e : Env} {R : Room} {s : State} {m : MethodId} {args : Array Value} {below : List Frame} {meth : Method} {c : Code} {H : Heap} {locs : List Loc} {cells slots : Nat} {free : Addr → Prop} {ls : Array Slot} {rest : List Value} {Qc : Array Value → State → Outcome → State → Prop} {XC : String → State → State → Prop}
    {pc : Nat} {own E : String} {ce : Cell} {q : Addr} {mc ms : Nat} (hown : s.vm.findClass own = some m.cls) (hlocks : meth.locks = false)
    (hpass : ∀ z ∈ c.exceptionTable.toList, covers z pc = false ∨ (z.catchType ≠ 0 ∧ ∃ nm : String, (Cond.classLink own z.catchType nm).before args s = true ∧ va_Nc E nm s)) (hcell : H[q]? = some ce) (hv : ce.vm = .none) (hcl : s.vm.findClass E = some ce.cls)
    (hx : ∀ t : State, t.heap = H → s.vm.Alike t.vm → XC E s t) (hf : ∀ z ∈ locs, free z.base) (hc : cells ≤ mc) (hs : slots ≤ ms) :
    vx_W p l e R s m args below meth c H locs cells slots (vx_MQ below Qc XC args s mc ms free) (F0 m pc ls rest) q := by
  intro T hT X
  have hpl : e.platform.magicAccessors = ({} : Platform).magicAccessors := by rw [X.admits.platform]
  obtain ⟨vm', hW', X', st⟩ := X.outThrough hlocks q (g := F0 m pc ls rest) rfl rfl rfl (cell := ce) (by rw [hT]; exact hcell) (by rw [hv]; rfl)
    (by obtain ⟨k9, h9, -⟩ := Vm.findClass_spec hcl; exact ⟨k9, h9⟩) (fun z hz => by
      rcases hpass z hz with h | ⟨hz0, nm, hl1, hn1⟩
      · exact Or.inl h
      · obtain ⟨c6, hc6, hcl6⟩ := Cond.classLink_spec hown hl1 e.platform hpl
        obtain ⟨a8, b8, h1, h2, h3⟩ := hn1
        cases Option.some.inj (h1.symm.trans hcl)
        cases Option.some.inj (h2.symm.trans hc6)
        exact Or.inr ⟨hz0, _, hcl6, h3⟩)
  obtain ⟨g₀, hfr⟩ := X'.frames_eq
  have hcell9 : ((T.setVm vm').setFrames (.throwing q :: below)).heap[q]? = some ce := by
    show T.heap[q]? = some ce
    rw [hT]; exact hcell
  have hend : Ended ((T.setVm vm').setFrames (.throwing q :: below)) below (.threw q) := State.frames_setFrames _ (State.cur_lt_of_frames hfr)
  refine ⟨(T.setVm vm').setFrames (.throwing q :: below), ?_, .threw q, X'.here.running, hend, Or.inr ⟨q, rfl, E, ce, locs, hx _ hT (X'.ends _).1.alike, hcell9, hv, hcl, (X'.ends _).1, (X'.ends _).2.mono hc hs, hf⟩⟩
  rw [X.pushThrowing_eq]
  exact st
/-- a thing of a world lies in the heap -/
theorem vx_lt {D : va_G} {cl : List vw_C} {ws : va_W} {H1 : Heap} (h : va_P D cl ws H1) {k : Nat} {q : Nat × va_E} (hk : ws[k]? = some q) : q.1 < H1.size := (h k q hk).lt
end VXS
/-! ===== END ===== -/
/-! ===== BEGIN methods with a table of their own: called by a name, returning or throwing ===== -/
section VXH
/-! vx_backW, vx_callVX, vx_callSX, vx_callVW, vx_runVW, vx_runVX, vx_runSX, vx_ofWH follow the same proofs as their sisters above (Free/Laws.lean, Shelf42/LK1.lean); vx_outP calls Shelf42/NT130.lean (outThrough). -/
section
variable {l : Launch} {R : Room} {p : Program} {e : Env} {below : List Frame} {s : State} {sargs : Array Value} {y : MethodName} {len W9 : Nat}
theorem vx_backW {ws : List Cond} {rm : Room} {Pc : Array Value → State → Prop} {Qc : Array Value → State → Outcome → State → Prop} {XC : String → State → State → Prop} {mc ms : Nat} {free : Addr → Prop} {bytes : ByteArray} {maxL : Nat} {ret : Option FieldType} {hh : List (Nat × Nat × Nat × Nat)}
    (hM : vx_Met l y ws rm Pc Qc XC mc ms free) (hblind : FrameBlind Pc) (hrc : rm.cells = mc) (hrs : rm.slots = ms)
    (hframes : rm.frames + 1 ≤ R.frames) (hlocals : W9 + (maxL + 11) + rm.locals ≤ R.locals)
    (hws : ∀ w ∈ ws, ∀ a' U, s.WarmedH U.vm → w.before a' U = true) (hcode : Cond.codeWith y bytes maxL ret hh ∈ ws) (hinit : ∀ a' U, s.WarmedH U.vm → (Cond.initialized y.cls).before a' U = true) :
    vx_Back l R p e below s sargs y len W9 (PreOf R mc ms Pc) (PostOf Qc mc ms free) (vx_Post XC mc ms free) := by
  intro m meth c A g ig mk a X hg hsize hdg hW hn hp
  have h1 : (headSpec ws rm).pre.before a A.U = true := atoms_intro fun w hw => hws w hw _ _ X.warmed
  have h2 : (Cond.codeWith y bytes maxL ret hh).before a A.U = true := hws _ hcode _ _ X.warmed
  have h3 : (Cond.initialized y.cls).before a A.U = true := hinit _ _ X.warmed
  have h4 : A.cells + (headSpec ws rm).room.cells ≤ R.cells := by rw [show (headSpec ws rm).room.cells = mc from hrc]; exact hp.1
  have h5 : A.slots + (headSpec ws rm).room.slots ≤ R.slots := by rw [show (headSpec ws rm).room.slots = ms from hrs]; exact hp.2.1
  have hPc : Pc a (A.U.calling g mk a) := hblind _ _ _ _ hp.2.2
  obtain ⟨U, Ls, c0, s0⟩ := A
  dsimp only [Pt.U, Pt.locs, Pt.cells, Pt.slots] at h1 h2 h3 h4 h5 X hn hPc ⊢
  obtain ⟨m9, methY, cY, hn9, hmY, hcY, -, hlY, -⟩ := Cond.codeWith_spec h2
  cases Option.some.inj (hn9.symm.trans hn)
  obtain ⟨kY, hkY, -⟩ := className_of_methodNamed hn
  have hinitY : kY.init = .initialized := Cond.initialized_spec (findClass_of_methodNamed hn) hkY h3
  have h : At U g.method c below := by rw [hg]; exact X.here
  have hlocals9 : W9 + (maxL + 11) + (headSpec ws rm).room.locals ≤ R.locals := hlocals
  have happ : (headSpec ws rm).appliesLoose y e.platform (U.calling g mk a) = true :=
    Spec.appliesLoose_calling (g := g) h hdg hn hkY hinitY
      (X.room_calling (g := g) (R' := (headSpec ws rm).room) hsize hmY hcY hframes (by rw [hlY]; omega) h4 h5) h1
  obtain ⟨mid, hmid⟩ := h.above
  have hfr : (U.setTop g).frames = (.java g :: mid) ++ below := by rw [State.frames_setTop' g h.top, hmid]; rfl
  obtain ⟨o, s₂, hsteps, -, hend, hq⟩ := Steps.callFree hM p X.admits X.cas X.clock (acts := []) hfr happ hPc trivial
  have hq' : vx_Q Qc XC mc ms free a (U.calling g mk a) o s₂ := hq
  rw [State.frames_setTop' g h.top] at hend
  obtain ⟨g₀, hg0⟩ := Option.isSome_iff_exists.mp h.top
  obtain ⟨r, hr⟩ := State.topJava?_eq_some.mp hg0
  have hr' : (({ U with heap := s₂.heap, slotsUsed := s₂.slotsUsed } : State).setVm s₂.vm).frames = .java g₀ :: r := hr
  rcases hq' with ⟨hqc, L, hfe, hL⟩ | ⟨q, rfl, E, ce, L, hx, hce, hcv, hcl, hW₂, hsm, hL⟩
  · obtain ⟨⟨v, rfl⟩, hW₂, e2, q2, q3, q4, q5, q6⟩ := id hfe
    have e3 : s₂ = ({ (U.calling g mk a).setFrames s₂.frames with heap := s₂.heap, slotsUsed := s₂.slotsUsed } : State).setVm s₂.vm := by
      have : s₂ = ({ s₂ with vm := (U.calling g mk a).vm } : State).setVm s₂.vm := rfl
      rw [e2] at this
      exact this
    obtain ⟨c₂, i₂, len₂, hc₂, hd₂, hf₂⟩ := hend
    have hW' : U.WarmedH s₂.vm := hW₂
    have hcc : c₂ = c := by
      have h1 : s₂.code? g.method = U.code? g.method := by
        rw [State.code?_eq, State.code?_eq, hW'.alike.method?]
      exact Option.some.inj (hc₂.symm.trans (h1.trans h.code))
    subst hcc
    have hlen : len₂ = len := by rw [hdg] at hd₂; cases hd₂; rfl
    subst hlen
    have hs₂ : s₂ = (({ U with heap := s₂.heap, slotsUsed := s₂.slotsUsed } : State).setVm s₂.vm).setTop { g with pc := g.pc + len₂, stack := v.toList ++ g.stack } := by
      refine e3.trans ?_
      rw [hf₂, State.calling_eq h.top, State.setFrames_setFrames, State.setTop_of_frames _ hr', hr]
      rfl
    have hsame : U.sameButNew ({ U with heap := s₂.heap, slotsUsed := s₂.slotsUsed } : State) L mc ms := by
      refine ⟨?_, q2, q3, q4, q5, q6⟩
      obtain ⟨t, ht, -⟩ := State.frames_cons hr
      show ({ U with heap := s₂.heap, slotsUsed := s₂.slotsUsed } : State) = { U.setFrames U.frames with heap := s₂.heap, slotsUsed := s₂.slotsUsed }
      rw [State.setFrames_self ht]
    subst hg
    refine Or.inl ⟨v, ⟨(({ U with heap := s₂.heap, slotsUsed := s₂.slotsUsed } : State).setVm s₂.vm), Ls ++ L, c0 + mc, s0 + ms⟩,
      ⟨X.admits, X.cas, X.clock, X.frames, X.room, X.hears, X.method, X.code, (X.here.setHeapUsed s₂.heap s₂.slotsUsed).setVm hW'.alike, X.tail, State.WarmedH.trans X.warmed hW', X.limits, X.bytes, X.same.trans (hsame.setVm s.vm)⟩,
      ⟨g, mk, s₂, L, rfl, rfl, hqc, rfl, hL, rfl, rfl⟩, ?_⟩
    show Steps p.tables e below _ ((({ U with heap := s₂.heap, slotsUsed := s₂.slotsUsed } : State).setVm s₂.vm).setTop { g with pc := g.pc + len₂, stack := v.toList ++ g.stack })
    rw [← hs₂]
    exact hsteps
  · obtain ⟨e2, q2, q3, q4, q5, q6⟩ := id hsm
    have e3 : s₂ = ({ (U.calling g mk a).setFrames s₂.frames with heap := s₂.heap, slotsUsed := s₂.slotsUsed } : State).setVm s₂.vm := by
      have : s₂ = ({ s₂ with vm := (U.calling g mk a).vm } : State).setVm s₂.vm := rfl
      rw [e2] at this
      exact this
    have hf₂ : s₂.frames = .throwing q :: .java g :: U.frames.tail := hend
    have hW' : U.WarmedH s₂.vm := hW₂
    have hs₂ : s₂ = ((({ U with heap := s₂.heap, slotsUsed := s₂.slotsUsed } : State).setVm s₂.vm).setTop g).pushFrame (.throwing q) := by
      refine e3.trans ?_
      rw [hf₂, State.calling_eq h.top, State.setFrames_setFrames, State.pushFrame, State.frames_setTop _ hr', State.setTop_of_frames _ hr', State.setFrames_setFrames, hr]
      rfl
    have hsame : U.sameButNew ({ U with heap := s₂.heap, slotsUsed := s₂.slotsUsed } : State) L mc ms := by
      refine ⟨?_, q2, q3, q4, q5, q6⟩
      obtain ⟨t, ht, -⟩ := State.frames_cons hr
      show ({ U with heap := s₂.heap, slotsUsed := s₂.slotsUsed } : State) = { U.setFrames U.frames with heap := s₂.heap, slotsUsed := s₂.slotsUsed }
      rw [State.setFrames_self ht]
    subst hg
    refine Or.inr ⟨q, ⟨(({ U with heap := s₂.heap, slotsUsed := s₂.slotsUsed } : State).setVm s₂.vm), Ls ++ L, c0 + mc, s0 + ms⟩,
      ⟨X.admits, X.cas, X.clock, X.frames, X.room, X.hears, X.method, X.code, (X.here.setHeapUsed s₂.heap s₂.slotsUsed).setVm hW'.alike, X.tail, State.WarmedH.trans X.warmed hW', X.limits, X.bytes, X.same.trans (hsame.setVm s.vm)⟩,
      ⟨g, mk, s₂, L, E, ce, rfl, rfl, hx, hce, hcv, hcl, rfl, hL, rfl, rfl⟩, ?_⟩
    show Steps p.tables e below _ (((({ U with heap := s₂.heap, slotsUsed := s₂.slotsUsed } : State).setVm s₂.vm).setTop g).pushFrame (.throwing q))
    rw [← hs₂]
    exact hsteps
end
variable {p : Program} {l : Launch} {e : Env} {R : Room} {s : State} {m : MethodId} {args : Array Value} {below : List Frame} {meth : Method} {c : Code} {T : State} {H : Heap} {locs : List Loc} {cells slots : Nat}
theorem vx_callVX (X : Stand p l e R s m args below meth c T locs cells slots) (hexec : p.tables.exec = Jvm.exec) {own C : String} {index : Nat} {y : MethodName} {bytes : ByteArray} {maxL : Nat} {ret : Option FieldType} {hh : List (Nat × Nat × Nat × Nat)}
    (hown : s.vm.findClass own = some m.cls) (hlink : (Cond.methodLink own index y).before args s = true) (hinst : (Cond.instanceMethod y).before args s = true) (hsel : (Cond.selects C y y).before args s = true)
    (hcode : (Cond.codeWith y bytes maxL ret hh).before args s = true) (hy : y.cls ≠ "java/lang/invoke/MethodHandle" ∧ y.cls ≠ "java/lang/invoke/VarHandle")
    {W9 : Nat} {Pre : Pt → Array Value → Prop} {Post : Pt → Array Value → Option Value → Pt → Prop} {PostX : Pt → Array Value → Addr → Pt → Prop} (hK : vx_Back l R p e below s args y 3 W9 Pre Post PostX)
    {b : Addr} {cellB : Cell} (hcell : T.heap[b]? = some cellB) (hobj : cellB.vm.isStatics = false) (hcls : s.vm.findClass C = some cellB.cls)
    {g : JFrame} (hg : g.method = m) (hsize : g.locals.size = c.maxLocals) {argsL rest : List Value} (hlen : ∀ sig, parseMethodDescriptor y.desc = some sig → argsL.length = sig.parameters.length)
    (hstack : g.stack = argsL.reverse ++ .ref b :: rest) (hW : 2 * g.monitorRoom + (rest.map fun v => v.category).sum ≤ W9) (hdg : decode c.code g.pc = .ok (.invokevirtual index, 3))
    (hpre : ∀ vm₁, s.WarmedH vm₁ → Pre ⟨T.setVm vm₁, locs, cells, slots⟩ (Value.ref b :: argsL).toArray) :
    (∃ (v : Option Value) (vm₁ : Vm) (B : Pt), s.WarmedH vm₁ ∧ Stand p l e R s m args below meth c B.U B.locs B.cells B.slots ∧ Post ⟨T.setVm vm₁, locs, cells, slots⟩ (Value.ref b :: argsL).toArray v B ∧
      ∀ target, Steps p.tables e below (B.U.setTop { g with pc := g.pc + 3, stack := v.toList ++ rest }) target → Steps p.tables e below (T.setTop g) target) ∨
    (∃ (q : Addr) (vm₁ : Vm) (B : Pt), s.WarmedH vm₁ ∧ Stand p l e R s m args below meth c B.U B.locs B.cells B.slots ∧ PostX ⟨T.setVm vm₁, locs, cells, slots⟩ (Value.ref b :: argsL).toArray q B ∧
      Steps p.tables e below (T.setTop g) ((B.U.setTop { g with stack := rest }).pushFrame (.throwing q))) := by
  obtain ⟨mk, methM, hnamed, hmethM, hstM, habM⟩ := Cond.instanceMethod_spec hinst
  obtain ⟨m8, methM', cM, hn8, hmethM', -, -, -, -, -, -, hsigM⟩ := Cond.codeWith_spec hcode
  cases Option.some.inj (hn8.symm.trans hnamed)
  cases hmethM.symm.trans hmethM'
  obtain ⟨c2, r2, m2, q1, q2, q3, q4, kP, hkP, hkPi⟩ := Cond.selects_spec hsel
  cases hcls.symm.trans q1
  cases (State.methodFound?_of_named hnamed hy).symm.trans q2
  cases hnamed.symm.trans q3
  have hselP : selectMethod e.platform s.vm cellB.cls mk = .method mk := by rw [Launch.admits_selectMethod X.admits]; exact q4
  obtain ⟨vm₁, X₁, hstep₁⟩ := X.invokevirtual hexec hown hlink hnamed hmethM hstM hkP hkPi hy (a := b) (cell := cellB) hcell
    (fun z h => by rw [h] at hobj; cases hobj) hselP hmethM habM hkP hkPi (g := g) hg (argsL := argsL) (rest := rest) (hlen _ hsigM) hstack hdg
  rcases hK m meth c ⟨T.setVm vm₁, locs, cells, slots⟩ { g with stack := rest } (.invokevirtual index) mk (Value.ref b :: argsL).toArray X₁ hg hsize hdg hW (X₁.named hnamed) (hpre vm₁ X₁.warmed) with ⟨v, B, X', hpost, hsteps⟩ | ⟨q, B, X', hpost, hsteps⟩
  · exact Or.inl ⟨v, vm₁, B, X₁.warmed, X', hpost, fun target h => hstep₁ _ fun acts => by rw [doInvoke_state]; exact hsteps.trans h⟩
  · exact Or.inr ⟨q, vm₁, B, X₁.warmed, X', hpost, hstep₁ _ fun acts => by rw [doInvoke_state]; exact hsteps⟩
theorem vx_callSX (X : Stand p l e R s m args below meth c T locs cells slots) (hexec : p.tables.exec = Jvm.exec) {own : String} {index : Nat} {y : MethodName} {bytes : ByteArray} {maxL : Nat} {ret : Option FieldType} {hh : List (Nat × Nat × Nat × Nat)}
    (hown : s.vm.findClass own = some m.cls) (hlink : (Cond.methodLink own index y).before args s = true) (hstat : (Cond.static y).before args s = true) (hinit : (Cond.initialized y.cls).before args s = true)
    (hcode : (Cond.codeWith y bytes maxL ret hh).before args s = true) (hy : y.cls ≠ "java/lang/invoke/MethodHandle" ∧ y.cls ≠ "java/lang/invoke/VarHandle")
    {W9 : Nat} {Pre : Pt → Array Value → Prop} {Post : Pt → Array Value → Option Value → Pt → Prop} {PostX : Pt → Array Value → Addr → Pt → Prop} (hK : vx_Back l R p e below s args y 3 W9 Pre Post PostX)
    {g : JFrame} (hg : g.method = m) (hsize : g.locals.size = c.maxLocals) {argsL rest : List Value} (hlen : ∀ sig, parseMethodDescriptor y.desc = some sig → argsL.length = sig.parameters.length)
    (hstack : g.stack = argsL.reverse ++ rest) (hW : 2 * g.monitorRoom + (rest.map fun v => v.category).sum ≤ W9) (hdg : decode c.code g.pc = .ok (.invokestatic index, 3))
    (hpre : ∀ vm₁, s.WarmedH vm₁ → Pre ⟨T.setVm vm₁, locs, cells, slots⟩ argsL.toArray) :
    (∃ (v : Option Value) (vm₁ : Vm) (B : Pt), s.WarmedH vm₁ ∧ Stand p l e R s m args below meth c B.U B.locs B.cells B.slots ∧ Post ⟨T.setVm vm₁, locs, cells, slots⟩ argsL.toArray v B ∧
      ∀ target, Steps p.tables e below (B.U.setTop { g with pc := g.pc + 3, stack := v.toList ++ rest }) target → Steps p.tables e below (T.setTop g) target) ∨
    (∃ (q : Addr) (vm₁ : Vm) (B : Pt), s.WarmedH vm₁ ∧ Stand p l e R s m args below meth c B.U B.locs B.cells B.slots ∧ PostX ⟨T.setVm vm₁, locs, cells, slots⟩ argsL.toArray q B ∧
      Steps p.tables e below (T.setTop g) ((B.U.setTop { g with stack := rest }).pushFrame (.throwing q))) := by
  obtain ⟨mk, methM, cM, hnamed, hmethM, -, -, -, -, -, -, hsigM⟩ := Cond.codeWith_spec hcode
  have hstatic : methM.isStatic = true := Cond.static_spec hnamed hmethM hstat
  obtain ⟨kP, hkP, -⟩ := className_of_methodNamed hnamed
  have hinitP : kP.init = .initialized := Cond.initialized_spec (findClass_of_methodNamed hnamed) hkP hinit
  obtain ⟨vm₁, X₁, hstep₁⟩ := X.invokestatic hexec hown hlink hnamed hmethM hstatic hkP hinitP hy (g := g) hg (argsL := argsL) (rest := rest) (hlen _ hsigM) hstack hdg
  rcases hK m meth c ⟨T.setVm vm₁, locs, cells, slots⟩ { g with stack := rest } (.invokestatic index) mk argsL.toArray X₁ hg hsize hdg hW (X₁.named hnamed) (hpre vm₁ X₁.warmed) with ⟨v, B, X', hpost, hsteps⟩ | ⟨q, B, X', hpost, hsteps⟩
  · exact Or.inl ⟨v, vm₁, B, X₁.warmed, X', hpost, fun target h => hstep₁ _ fun acts => by rw [doInvoke_state]; exact hsteps.trans h⟩
  · exact Or.inr ⟨q, vm₁, B, X₁.warmed, X', hpost, hstep₁ _ fun acts => by rw [doInvoke_state]; exact hsteps⟩
theorem vx_callVW (X : Stand p l e R s m args below meth c T locs cells slots) (hexec : p.tables.exec = Jvm.exec) {own C : String} {index : Nat} {y : MethodName} {bytes : ByteArray} {maxL : Nat} {ret : Option FieldType} {hh : List (Nat × Nat × Nat × Nat)}
    (hown : s.vm.findClass own = some m.cls) (hlink : (Cond.methodLink own index y).before args s = true) (hinst : (Cond.instanceMethod y).before args s = true) (hsel : (Cond.selects C y y).before args s = true)
    (hcode : (Cond.codeWith y bytes maxL ret hh).before args s = true) (hy : y.cls ≠ "java/lang/invoke/MethodHandle" ∧ y.cls ≠ "java/lang/invoke/VarHandle")
    {W9 : Nat} {Pre : Pt → Array Value → Prop} {Post : Pt → Array Value → Option Value → Pt → Prop} (hK : Back l R p e below s args y 3 W9 Pre Post)
    {b : Addr} {cellB : Cell} (hcell : T.heap[b]? = some cellB) (hobj : cellB.vm.isStatics = false) (hcls : s.vm.findClass C = some cellB.cls)
    {g : JFrame} (hg : g.method = m) (hsize : g.locals.size = c.maxLocals) {argsL rest : List Value} (hlen : ∀ sig, parseMethodDescriptor y.desc = some sig → argsL.length = sig.parameters.length)
    (hstack : g.stack = argsL.reverse ++ .ref b :: rest) (hW : 2 * g.monitorRoom + (rest.map fun v => v.category).sum ≤ W9) (hdg : decode c.code g.pc = .ok (.invokevirtual index, 3))
    (hpre : ∀ vm₁, s.WarmedH vm₁ → Pre ⟨T.setVm vm₁, locs, cells, slots⟩ (Value.ref b :: argsL).toArray) :
    ∃ (v : Option Value) (vm₁ : Vm) (B : Pt), s.WarmedH vm₁ ∧ Stand p l e R s m args below meth c B.U B.locs B.cells B.slots ∧ Post ⟨T.setVm vm₁, locs, cells, slots⟩ (Value.ref b :: argsL).toArray v B ∧
      ∀ target, Steps p.tables e below (B.U.setTop { g with pc := g.pc + 3, stack := v.toList ++ rest }) target → Steps p.tables e below (T.setTop g) target := by
  obtain ⟨mk, methM, hnamed, hmethM, hstM, habM⟩ := Cond.instanceMethod_spec hinst
  obtain ⟨m8, methM', cM, hn8, hmethM', -, -, -, -, -, -, hsigM⟩ := Cond.codeWith_spec hcode
  cases Option.some.inj (hn8.symm.trans hnamed)
  cases hmethM.symm.trans hmethM'
  obtain ⟨c2, r2, m2, q1, q2, q3, q4, kP, hkP, hkPi⟩ := Cond.selects_spec hsel
  cases hcls.symm.trans q1
  cases (State.methodFound?_of_named hnamed hy).symm.trans q2
  cases hnamed.symm.trans q3
  have hselP : selectMethod e.platform s.vm cellB.cls mk = .method mk := by rw [Launch.admits_selectMethod X.admits]; exact q4
  obtain ⟨vm₁, X₁, hstep₁⟩ := X.invokevirtual hexec hown hlink hnamed hmethM hstM hkP hkPi hy (a := b) (cell := cellB) hcell
    (fun z h => by rw [h] at hobj; cases hobj) hselP hmethM habM hkP hkPi (g := g) hg (argsL := argsL) (rest := rest) (hlen _ hsigM) hstack hdg
  obtain ⟨v, B, X', hpost, hsteps⟩ := hK m meth c ⟨T.setVm vm₁, locs, cells, slots⟩ { g with stack := rest } (.invokevirtual index) mk (Value.ref b :: argsL).toArray X₁ hg hsize hdg hW (X₁.named hnamed) (hpre vm₁ X₁.warmed)
  exact ⟨v, vm₁, B, X₁.warmed, X', hpost, fun target h => hstep₁ _ fun acts => by rw [doInvoke_state]; exact hsteps.trans h⟩
abbrev vx_CVW (R : Room) (s : State) (args : Array Value) (own C : String) (index : Nat) (y : MethodName) (bytes : ByteArray) (maxL : Nat) (ret : Option FieldType) (hh : List (Nat × Nat × Nat × Nat)) (ws : List Cond) (rm : Room) (mc ms n : Nat) : Prop :=
  (rm.cells = mc ∧ rm.slots = ms ∧ rm.frames + 1 ≤ R.frames ∧ 8 + (maxL + 11) + rm.locals ≤ R.locals ∧ (∀ w ∈ ws, ∀ (a' : Array Value) (U : State), s.WarmedH U.vm → w.before a' U = true) ∧ Cond.codeWith y bytes maxL ret hh ∈ ws) ∧
  (Cond.codeWith y bytes maxL ret hh).before args s = true ∧ (Cond.initialized y.cls).before args s = true ∧ (y.cls ≠ "java/lang/invoke/MethodHandle" ∧ y.cls ≠ "java/lang/invoke/VarHandle") ∧
  (∀ sig, parseMethodDescriptor y.desc = some sig → n = sig.parameters.length) ∧ (Cond.methodLink own index y).before args s = true ∧ (Cond.instanceMethod y).before args s = true ∧ (Cond.selects C y y).before args s = true
theorem vx_cwVW {own C : String} {index maxL mc ms : Nat} {y : MethodName} {bytes : ByteArray} {ret : Option FieldType} {hh : List (Nat × Nat × Nat × Nat)} {Ts ws ws' : List Cond} {rm : Room} (n : Nat) (ht : ∀ w ∈ Ts, w.before args s = true) (hT : GoodIn Ts (wsV own index C y ws)) (hw : ws = Cond.codeWith y bytes maxL ret hh :: ws') (hrc : rm.cells = mc) (hrs : rm.slots = ms)
    (hd : y.cls = C ∧ y.cls ≠ "java/lang/invoke/MethodHandle" ∧ y.cls ≠ "java/lang/invoke/VarHandle" ∧ (parseMethodDescriptor y.desc).map (fun d => d.parameters.length) = some n) (hR : rm.frames + 1 ≤ R.frames ∧ 8 + (maxL + 11) + rm.locals ≤ R.locals) :
    vx_CVW R s args own C index y bytes maxL ret hh ws rm mc ms n := by
  obtain ⟨hC, hd⟩ := hd
  subst hC
  have ok : ∀ w ∈ wsV own index y.cls y ws, w.before args s = true := fun w h => ht w (hT w h).1
  have hG : GoodIn Ts ws := fun w h => hT w (by unfold wsV; exact List.mem_append_right _ h)
  have hc : Cond.codeWith y bytes maxL ret hh ∈ ws := by rw [hw]; exact List.mem_cons_self
  refine ⟨⟨hrc, hrs, hR.1, hR.2, pay_in ht hG, hc⟩, ht _ (hG _ hc).1, ok _ (by simp [wsV]), ⟨hd.1, hd.2.1⟩, fun sig h => ?_, ok _ (by simp [wsV]), ok _ (by simp [wsV]), ok _ (by simp [wsV])⟩
  have h2 := hd.2.2
  rw [h] at h2
  exact (Option.some.inj h2).symm
theorem vx_runVW {y : MethodName} {bytes cc : ByteArray} {maxL nL mc ms n index : Nat} {ret : Option FieldType} {hh : List (Nat × Nat × Nat × Nat)} {ws : List Cond} {rm : Room} {Pc : Array Value → State → Prop} {Qc : Array Value → State → Outcome → State → Prop} {free : Addr → Prop} {Ts : List Cond} {own C : String} {b : Addr} {As rest : List Value} {g : JFrame}
    (S : CallFix p m c cc nL s args Ts own) (hM : Met l y ws rm Pc Qc mc ms free) (cw : vx_CVW R s args own C index y bytes maxL ret hh ws rm mc ms n) (hp : PreV s H C b Pc As)
    (hg : g.method = m) (hn : As.length = n) (hsize : g.locals.size = nL) (hstack : g.stack = As.reverse ++ .ref b :: rest) (hW : 2 * g.monitorRoom + (rest.map fun v => v.category).sum ≤ 8) (hdg : decode cc g.pc = .ok (.invokevirtual index, 3)) (hf : cells + mc ≤ R.cells ∧ slots + ms ≤ R.slots) :
    va_Run p l e R s m args below meth c H locs cells slots mc ms g rest (Qc (Value.ref b :: As).toArray) free := by
  obtain ⟨⟨hrc, hrs, hfr, hlo, hws, hcw⟩, hcode, hini, hy, hlen, hl, hin, hse⟩ := cw
  have hK : Back l R p e below s args y 3 8 (PreOf R mc ms Pc) (PostOf Qc mc ms free) := va_backW (hh := hh) (bytes := bytes) (maxL := maxL) (ret := ret) hM hp.1 hrc hrs hfr hlo hws hcw (fun a' U hW => word_at hW (Or.inl (by first | rfl | simp [Cond.onTables, Cond.keeps, Cond.steady])) hini)
  obtain ⟨hx, hb, hml, ho, -⟩ := S
  obtain ⟨-, ⟨cellB, hcB, hoB, hclB⟩, hPc⟩ := hp
  intro T hT X
  obtain ⟨v, vm₁, ⟨U', l2, c2, s2⟩, hW₁, X', ⟨g', mk, t, L, e1, e2, hq, h1, hL, h2, h3⟩, st⟩ := vx_callVW X hx (C := C) (hh := hh) (bytes := bytes) (maxL := maxL) (ret := ret) ho hl hin hse hcode hy hK (by rw [hT]; exact hcB) hoB hclB hg (hsize.trans hml.symm) (argsL := As) (rest := rest) (fun sig h => hn.trans (hlen sig h)) hstack hW (by rw [hb]; exact hdg)
    (fun vm₁ hW₁ => ⟨hf.1, hf.2, hPc (T.setVm vm₁) hT hW₁⟩)
  dsimp only [Pt.U, Pt.locs, Pt.cells, Pt.slots] at X' e1 e2 h1 h2 h3 st
  subst h1; subst h2; subst h3
  exact ⟨v, (T.setVm vm₁).calling g' mk (Value.ref b :: As).toArray, t, U', L, hT, X', hL, e1, e2, hq, st⟩
section
variable {y : MethodName} {bytes cc : ByteArray} {maxL nL mc ms n index : Nat} {ret : Option FieldType} {ws : List Cond} {rm : Room} {Pc : Array Value → State → Prop} {Qc : Array Value → State → Outcome → State → Prop} {XC : String → State → State → Prop} {free : Addr → Prop} {Ts : List Cond} {own C : String} {b : Addr} {As rest : List Value} {g : JFrame}
theorem vx_runVX {hh : List (Nat × Nat × Nat × Nat)} (S : CallFix p m c cc nL s args Ts own) (hM : vx_Met l y ws rm Pc Qc XC mc ms free) (cw : vx_CVW R s args own C index y bytes maxL ret hh ws rm mc ms n) (hp : PreV s H C b Pc As)
    (hg : g.method = m) (hn : As.length = n) (hsize : g.locals.size = nL) (hstack : g.stack = As.reverse ++ .ref b :: rest) (hW : 2 * g.monitorRoom + (rest.map fun v => v.category).sum ≤ 8) (hdg : decode cc g.pc = .ok (.invokevirtual index, 3)) (hf : cells + mc ≤ R.cells ∧ slots + ms ≤ R.slots) :
    vx_Run p l e R s m args below meth c H locs cells slots mc ms g rest (Qc (Value.ref b :: As).toArray) XC free := by
  obtain ⟨⟨hrc, hrs, hfr, hlo, hws, hcw⟩, hcode, hini, hy, hlen, hl, hin, hse⟩ := cw
  have hK : vx_Back l R p e below s args y 3 8 (PreOf R mc ms Pc) (PostOf Qc mc ms free) (vx_Post XC mc ms free) := vx_backW (hh := hh) (bytes := bytes) (maxL := maxL) (ret := ret) hM hp.1 hrc hrs hfr hlo hws hcw (fun a' U hW => word_at hW (Or.inl (by first | rfl | simp [Cond.onTables, Cond.keeps, Cond.steady])) hini)
  obtain ⟨hx, hb, hml, ho, -⟩ := S
  obtain ⟨-, ⟨cellB, hcB, hoB, hclB⟩, hPc⟩ := hp
  intro T hT X
  rcases vx_callVX X hx (C := C) (hh := hh) (bytes := bytes) (maxL := maxL) (ret := ret) ho hl hin hse hcode hy hK (by rw [hT]; exact hcB) hoB hclB hg (hsize.trans hml.symm) (argsL := As) (rest := rest) (fun sig h => hn.trans (hlen sig h)) hstack hW (by rw [hb]; exact hdg)
    (fun vm₁ hW₁ => ⟨hf.1, hf.2, hPc (T.setVm vm₁) hT hW₁⟩) with ⟨v, vm₁, ⟨U', l2, c2, s2⟩, hW₁, X', ⟨g', mk, t, L, e1, e2, hq, h1, hL, h2, h3⟩, st⟩ | ⟨q, vm₁, ⟨U', l2, c2, s2⟩, hW₁, X', ⟨g', mk, t, L, E, ce, e1, e2, hq, hce, hcv, hcl, h1, hL, h2, h3⟩, st⟩
  · dsimp only [Pt.U, Pt.locs, Pt.cells, Pt.slots] at X' e1 e2 h1 h2 h3 st
    subst h1; subst h2; subst h3
    exact Or.inl ⟨v, (T.setVm vm₁).calling g' mk (Value.ref b :: As).toArray, t, U', L, hT, X', hL, e1, e2, hq, st⟩
  · dsimp only [Pt.U, Pt.locs, Pt.cells, Pt.slots] at X' e1 e2 h1 h2 h3 st hcl
    subst h1; subst h2; subst h3
    exact Or.inr ⟨q, (T.setVm vm₁).calling g' mk (Value.ref b :: As).toArray, t, U', L, E, ce, hT, X', hL, e1, e2, hq, hce, hcv, vx_cls hW₁ hcl, st⟩
theorem vx_runSX {hh : List (Nat × Nat × Nat × Nat)} (S : CallFix p m c cc nL s args Ts own) (hM : vx_Met l y ws rm Pc Qc XC mc ms free) (cw : vx_CSW R s args own index y bytes maxL ret hh ws rm mc ms n) (hp : PreS s H Pc As)
    (hg : g.method = m) (hn : As.length = n) (hsize : g.locals.size = nL) (hstack : g.stack = As.reverse ++ rest) (hW : 2 * g.monitorRoom + (rest.map fun v => v.category).sum ≤ 8) (hdg : decode cc g.pc = .ok (.invokestatic index, 3)) (hf : cells + mc ≤ R.cells ∧ slots + ms ≤ R.slots) :
    vx_Run p l e R s m args below meth c H locs cells slots mc ms g rest (Qc As.toArray) XC free := by
  obtain ⟨⟨hrc, hrs, hfr, hlo, hws, hcw⟩, hcode, hini, hy, hlen, hl, hstt⟩ := cw
  have hK : vx_Back l R p e below s args y 3 8 (PreOf R mc ms Pc) (PostOf Qc mc ms free) (vx_Post XC mc ms free) := vx_backW (hh := hh) (bytes := bytes) (maxL := maxL) (ret := ret) hM hp.1 hrc hrs hfr hlo hws hcw (fun a' U hW => word_at hW (Or.inl (by first | rfl | simp [Cond.onTables, Cond.keeps, Cond.steady])) hini)
  obtain ⟨hx, hb, hml, ho, -⟩ := S
  intro T hT X
  rcases vx_callSX X hx (hh := hh) (bytes := bytes) (maxL := maxL) (ret := ret) ho hl hstt hini hcode hy hK hg (hsize.trans hml.symm) (argsL := As) (rest := rest) (fun sig h => hn.trans (hlen sig h)) hstack hW (by rw [hb]; exact hdg)
    (fun vm₁ hW₁ => ⟨hf.1, hf.2, hp.2 (T.setVm vm₁) hT hW₁⟩) with ⟨v, vm₁, ⟨U', l2, c2, s2⟩, hW₁, X', ⟨g', mk, t, L, e1, e2, hq, h1, hL, h2, h3⟩, st⟩ | ⟨q, vm₁, ⟨U', l2, c2, s2⟩, hW₁, X', ⟨g', mk, t, L, E, ce, e1, e2, hq, hce, hcv, hcl, h1, hL, h2, h3⟩, st⟩
  · dsimp only [Pt.U, Pt.locs, Pt.cells, Pt.slots] at X' e1 e2 h1 h2 h3 st
    subst h1; subst h2; subst h3
    exact Or.inl ⟨v, (T.setVm vm₁).calling g' mk As.toArray, t, U', L, hT, X', hL, e1, e2, hq, st⟩
  · dsimp only [Pt.U, Pt.locs, Pt.cells, Pt.slots] at X' e1 e2 h1 h2 h3 st hcl
    subst h1; subst h2; subst h3
    exact Or.inr ⟨q, (T.setVm vm₁).calling g' mk As.toArray, t, U', L, E, ce, hT, X', hL, e1, e2, hq, hce, hcv, vx_cls hW₁ hcl, st⟩
end
end VXH
theorem vx_ofWH {l : Launch} {y : MethodName} {ws ws' : List Cond} {rm : Room} {Pc : Array Value → State → Prop} {Qc : Array Value → State → Outcome → State → Prop} {XC : String → State → State → Prop} {mc ms : Nat} {free : Addr → Prop} {cc : ByteArray} {maxL : Nat} {ret : Option FieldType} {hh : List (Nat × Nat × Nat × Nat)}
    (hy : plainName y.cls = true) (hw : ws = Cond.codeWith y cc maxL ret hh :: ws')
    (body : ∀ p e s m args below meth c s₁, BodyLoose p l y (headSpec ws rm) cc maxL ret e s m args below meth c s₁ → c.maxLocals = maxL → Pc args s →
      W p l e (headSpec ws rm).room s m args below meth c s.heap [] 0 0 (vx_MQ below Qc XC args s mc ms free) (entryFrame m args maxL)) : vx_Met l y ws rm Pc Qc XC mc ms free := by
  refine MetFree.of_bodyS (code := cc) (maxLocals := maxL) (ret := ret) hy ?_ ?_
  · intro args s m h hn
    obtain ⟨m9, meth, c, hn9, h1, h2, h3, h4, -, h5, h6, -⟩ := Cond.codeWith_spec (atoms_spec (ws := ws) h _ (by rw [hw]; exact List.mem_cons_self))
    cases hn.symm.trans hn9
    exact ⟨meth, c, h1, h2, h3, h4, h5, h6⟩
  · intro p e s m args below meth c s₁ B hml hP _
    have hh0 : s₁.heap = s.heap := by rw [B.state]; rfl
    obtain ⟨t, a1, o, b1, b2, b3⟩ := body p e s m args below meth c s₁ B hml hP s₁ hh0 (Stand.of_body B)
    exact ⟨t, o, a1, b1, b2, b3⟩
/-! ===== END ===== -/
end
section
def RX0 : String := "Trumpvault$Bids"
def TX0 : u_T := fun k => match k with
  | 0 => ("Trumpvault$Bids", "prices", "[[I", true)
  | _ => ("Trumpvault$Bids", "numbers", "[[I", true)
def tyX0 : Nat → FieldType := fun k => match k with
  | 0 => .array (.array .int)
  | _ => .array (.array .int)
abbrev wsX00 : List Cond := u_ws RX0 TX0 2
theorem nmX0 : ∀ a, a < 2 → ∀ b, b < 2 → a ≠ b → (TX0 a).2.1 ≠ (TX0 b).2.1 := by decide +kernel
theorem tyX0_ok : ∀ k, k < 2 → parseFieldDescriptor (TX0 k).2.2.1 = some (tyX0 k) := by decide +kernel
abbrev cX0_init : ByteArray := prog_2_method_1_code
def yX0_init : MethodName := ⟨RX0, "<init>", "()V"⟩
abbrev cX0_has : ByteArray := prog_2_method_2_code
def yX0_has : MethodName := ⟨RX0, "has", "(II)Z"⟩
abbrev cX0_put : ByteArray := prog_2_method_3_code
def yX0_put : MethodName := ⟨RX0, "put", "(IIII)V"⟩
abbrev cX0_take : ByteArray := prog_2_method_4_code
def yX0_take : MethodName := ⟨RX0, "take", "(II)I"⟩
abbrev cX0_bestBidder : ByteArray := prog_2_method_5_code
def yX0_bestBidder : MethodName := ⟨RX0, "bestBidder", "(II)I"⟩
abbrev cX0_isBefore : ByteArray := prog_2_method_6_code
def yX0_isBefore : MethodName := ⟨RX0, "isBefore", "(III)Z"⟩
def RX1 : String := "Trumpvault$Cards"
def TX1 : u_T := fun k => match k with
  | 0 => ("Trumpvault$Cards", "kinds", "[I", true)
  | 1 => ("Trumpvault$Cards", "owners", "[I", true)
  | 2 => ("Trumpvault$Cards", "states", "[I", true)
  | 3 => ("Trumpvault$Cards", "salePrices", "[I", true)
  | 4 => ("Trumpvault$Cards", "saleNumbers", "[I", true)
  | 5 => ("Trumpvault$Cards", "swapOthers", "[I", true)
  | 6 => ("Trumpvault$Cards", "borrowers", "[I", true)
  | 7 => ("Trumpvault$Cards", "returnDays", "[I", true)
  | _ => ("Trumpvault$Cards", "count", "I", false)
def tyX1 : Nat → FieldType := fun k => match k with
  | 0 => .array .int
  | 1 => .array .int
  | 2 => .array .int
  | 3 => .array .int
  | 4 => .array .int
  | 5 => .array .int
  | 6 => .array .int
  | 7 => .array .int
  | _ => .int
abbrev wsX10 : List Cond := u_ws RX1 TX1 9
theorem nmX1 : ∀ a, a < 9 → ∀ b, b < 9 → a ≠ b → (TX1 a).2.1 ≠ (TX1 b).2.1 := by decide +kernel
theorem tyX1_ok : ∀ k, k < 9 → parseFieldDescriptor (TX1 k).2.2.1 = some (tyX1 k) := by decide +kernel
abbrev cX1_init : ByteArray := prog_3_method_1_code
def yX1_init : MethodName := ⟨RX1, "<init>", "()V"⟩
abbrev cX1_has : ByteArray := prog_3_method_2_code
def yX1_has : MethodName := ⟨RX1, "has", "(I)Z"⟩
abbrev cX1_isFull : ByteArray := prog_3_method_3_code
def yX1_isFull : MethodName := ⟨RX1, "isFull", "()Z"⟩
abbrev cX1_add : ByteArray := prog_3_method_4_code
def yX1_add : MethodName := ⟨RX1, "add", "(II)I"⟩
abbrev cX1_holderOf : ByteArray := prog_3_method_5_code
def yX1_holderOf : MethodName := ⟨RX1, "holderOf", "(I)I"⟩
abbrev cX1_putSale : ByteArray := prog_3_method_6_code
def yX1_putSale : MethodName := ⟨RX1, "putSale", "(III)V"⟩
abbrev cX1_takeSale : ByteArray := prog_3_method_7_code
def yX1_takeSale : MethodName := ⟨RX1, "takeSale", "(I)I"⟩
abbrev cX1_takeSalesOf : ByteArray := prog_3_method_8_code
def yX1_takeSalesOf : MethodName := ⟨RX1, "takeSalesOf", "(I)I"⟩
abbrev cX1_isOnSale : ByteArray := prog_3_method_9_code
def yX1_isOnSale : MethodName := ⟨RX1, "isOnSale", "(II)Z"⟩
abbrev cX1_bestSale : ByteArray := prog_3_method_10_code
def yX1_bestSale : MethodName := ⟨RX1, "bestSale", "(II)I"⟩
abbrev cX1_saleIsBefore : ByteArray := prog_3_method_11_code
def yX1_saleIsBefore : MethodName := ⟨RX1, "saleIsBefore", "(II)Z"⟩
abbrev cX1_canBeSwapped : ByteArray := prog_3_method_12_code
def yX1_canBeSwapped : MethodName := ⟨RX1, "canBeSwapped", "(I)Z"⟩
abbrev cX1_lendTo : ByteArray := prog_3_method_13_code
def yX1_lendTo : MethodName := ⟨RX1, "lendTo", "(III)V"⟩
abbrev cX1_endLoans : ByteArray := prog_3_method_14_code
def yX1_endLoans : MethodName := ⟨RX1, "endLoans", "(I)V"⟩
def RX2 : String := "Trumpvault$History"
def TX2 : u_T := fun k => match k with
  | 0 => ("Trumpvault$History", "movedCards", "[I", true)
  | 1 => ("Trumpvault$History", "newOwners", "[I", true)
  | _ => ("Trumpvault$History", "count", "I", false)
def tyX2 : Nat → FieldType := fun k => match k with
  | 0 => .array .int
  | 1 => .array .int
  | _ => .int
abbrev wsX20 : List Cond := u_ws RX2 TX2 3
theorem nmX2 : ∀ a, a < 3 → ∀ b, b < 3 → a ≠ b → (TX2 a).2.1 ≠ (TX2 b).2.1 := by decide +kernel
theorem tyX2_ok : ∀ k, k < 3 → parseFieldDescriptor (TX2 k).2.2.1 = some (tyX2 k) := by decide +kernel
abbrev cX2_init : ByteArray := prog_4_method_1_code
def yX2_init : MethodName := ⟨RX2, "<init>", "()V"⟩
abbrev cX2_record : ByteArray := prog_4_method_2_code
def yX2_record : MethodName := ⟨RX2, "record", "(II)V"⟩
abbrev cX2_lastOwner : ByteArray := prog_4_method_3_code
def yX2_lastOwner : MethodName := ⟨RX2, "lastOwner", "(I)I"⟩
def RX3 : String := "Trumpvault"
def TX3 : u_T := fun k => match k with
  | 0 => ("Trumpvault", "cards", "LTrumpvault$Cards;", true)
  | 1 => ("Trumpvault", "bids", "LTrumpvault$Bids;", true)
  | 2 => ("Trumpvault", "history", "LTrumpvault$History;", true)
  | 3 => ("Trumpvault", "purses", "[I", true)
  | 4 => ("Trumpvault", "bannedFrom", "[I", true)
  | 5 => ("Trumpvault", "decks", "[I", true)
  | 6 => ("Trumpvault", "nextNumber", "I", false)
  | _ => ("Trumpvault", "today", "I", false)
def tyX3 : Nat → FieldType := fun k => match k with
  | 0 => .object "Trumpvault$Cards"
  | 1 => .object "Trumpvault$Bids"
  | 2 => .object "Trumpvault$History"
  | 3 => .array .int
  | 4 => .array .int
  | 5 => .array .int
  | 6 => .int
  | _ => .int
abbrev wsX30 : List Cond := u_ws RX3 TX3 8
theorem nmX3 : ∀ a, a < 8 → ∀ b, b < 8 → a ≠ b → (TX3 a).2.1 ≠ (TX3 b).2.1 := by decide +kernel
theorem tyX3_ok : ∀ k, k < 8 → parseFieldDescriptor (TX3 k).2.2.1 = some (tyX3 k) := by decide +kernel
abbrev cX3_init : ByteArray := prog_1_method_1_code
def yX3_init : MethodName := ⟨RX3, "<init>", "()V"⟩
abbrev cX3_mint : ByteArray := prog_1_method_2_code
def yX3_mint : MethodName := ⟨RX3, "mint", "(II)I"⟩
abbrev cX3_owner : ByteArray := prog_1_method_3_code
def yX3_owner : MethodName := ⟨RX3, "owner", "(I)I"⟩
abbrev cX3_ownerByHistory : ByteArray := prog_1_method_4_code
def yX3_ownerByHistory : MethodName := ⟨RX3, "ownerByHistory", "(I)I"⟩
abbrev cX3_holder : ByteArray := prog_1_method_5_code
def yX3_holder : MethodName := ⟨RX3, "holder", "(I)I"⟩
abbrev cX3_stateOf : ByteArray := prog_1_method_6_code
def yX3_stateOf : MethodName := ⟨RX3, "stateOf", "(I)I"⟩
abbrev cX3_coins : ByteArray := prog_1_method_7_code
def yX3_coins : MethodName := ⟨RX3, "coins", "(I)I"⟩
abbrev cX3_sell : ByteArray := prog_1_method_8_code
def yX3_sell : MethodName := ⟨RX3, "sell", "(II)I"⟩
abbrev cX3_bid : ByteArray := prog_1_method_9_code
def yX3_bid : MethodName := ⟨RX3, "bid", "(III)I"⟩
abbrev cX3_cancelSale : ByteArray := prog_1_method_10_code
def yX3_cancelSale : MethodName := ⟨RX3, "cancelSale", "(I)I"⟩
abbrev cX3_cancelBid : ByteArray := prog_1_method_11_code
def yX3_cancelBid : MethodName := ⟨RX3, "cancelBid", "(II)I"⟩
abbrev cX3_leastSale : ByteArray := prog_1_method_12_code
def yX3_leastSale : MethodName := ⟨RX3, "leastSale", "(I)I"⟩
abbrev cX3_greatestBid : ByteArray := prog_1_method_13_code
def yX3_greatestBid : MethodName := ⟨RX3, "greatestBid", "(I)I"⟩
abbrev cX3_swap : ByteArray := prog_1_method_14_code
def yX3_swap : MethodName := ⟨RX3, "swap", "(II)V"⟩
abbrev cX3_agree : ByteArray := prog_1_method_15_code
def yX3_agree : MethodName := ⟨RX3, "agree", "(I)I"⟩
abbrev cX3_cancelSwap : ByteArray := prog_1_method_16_code
def yX3_cancelSwap : MethodName := ⟨RX3, "cancelSwap", "(I)V"⟩
abbrev cX3_lend : ByteArray := prog_1_method_17_code
def yX3_lend : MethodName := ⟨RX3, "lend", "(III)I"⟩
abbrev cX3_ban : ByteArray := prog_1_method_18_code
def yX3_ban : MethodName := ⟨RX3, "ban", "(II)I"⟩
abbrev cX3_lift : ByteArray := prog_1_method_19_code
def yX3_lift : MethodName := ⟨RX3, "lift", "(I)Z"⟩
abbrev cX3_isBanned : ByteArray := prog_1_method_20_code
def yX3_isBanned : MethodName := ⟨RX3, "isBanned", "(I)Z"⟩
abbrev cX3_pass : ByteArray := prog_1_method_21_code
def yX3_pass : MethodName := ⟨RX3, "pass", "(I)I"⟩
abbrev cX3_toggleDeck : ByteArray := prog_1_method_22_code
def yX3_toggleDeck : MethodName := ⟨RX3, "toggleDeck", "(II)I"⟩
abbrev cX3_isRight : ByteArray := prog_1_method_23_code
def yX3_isRight : MethodName := ⟨RX3, "isRight", "(I)Z"⟩
abbrev cX3_strength : ByteArray := prog_1_method_24_code
def yX3_strength : MethodName := ⟨RX3, "strength", "(I)I"⟩
abbrev cX3_play : ByteArray := prog_1_method_25_code
def yX3_play : MethodName := ⟨RX3, "play", "(II)I"⟩
abbrev cX3_needPlayer : ByteArray := prog_1_method_26_code
def yX3_needPlayer : MethodName := ⟨RX3, "needPlayer", "(I)V"⟩
abbrev cX3_needKind : ByteArray := prog_1_method_27_code
def yX3_needKind : MethodName := ⟨RX3, "needKind", "(I)V"⟩
abbrev cX3_needCard : ByteArray := prog_1_method_28_code
def yX3_needCard : MethodName := ⟨RX3, "needCard", "(I)V"⟩
abbrev cX3_needPrice : ByteArray := prog_1_method_29_code
def yX3_needPrice : MethodName := ⟨RX3, "needPrice", "(I)V"⟩
abbrev cX3_bannedToday : ByteArray := prog_1_method_30_code
def yX3_bannedToday : MethodName := ⟨RX3, "bannedToday", "(I)Z"⟩
abbrev cX3_giveTo : ByteArray := prog_1_method_31_code
def yX3_giveTo : MethodName := ⟨RX3, "giveTo", "(II)V"⟩
abbrev cX3_giveBidBack : ByteArray := prog_1_method_32_code
def yX3_giveBidBack : MethodName := ⟨RX3, "giveBidBack", "(II)I"⟩
abbrev cX3_clearMarket : ByteArray := prog_1_method_33_code
def yX3_clearMarket : MethodName := ⟨RX3, "clearMarket", "(I)I"⟩
abbrev cX3_inDeck : ByteArray := prog_1_method_34_code
def yX3_inDeck : MethodName := ⟨RX3, "inDeck", "(II)Z"⟩
abbrev cX3_deckIsRight : ByteArray := prog_1_method_35_code
def yX3_deckIsRight : MethodName := ⟨RX3, "deckIsRight", "(I)Z"⟩
abbrev cX3_isPlayable : ByteArray := prog_1_method_36_code
def yX3_isPlayable : MethodName := ⟨RX3, "isPlayable", "(II)Z"⟩
abbrev cX3_deckStrength : ByteArray := prog_1_method_37_code
def yX3_deckStrength : MethodName := ⟨RX3, "deckStrength", "(I)I"⟩
def RX4 : String := "TrumpvaultModel"
def TX4 : u_T := fun k => match k with
  | 0 => ("TrumpvaultModel", "today", "I", false)
  | 1 => ("TrumpvaultModel", "coins", "[I", true)
  | 2 => ("TrumpvaultModel", "kindOf", "[I", true)
  | 3 => ("TrumpvaultModel", "owner", "[I", true)
  | 4 => ("TrumpvaultModel", "state", "[I", true)
  | 5 => ("TrumpvaultModel", "price", "[I", true)
  | 6 => ("TrumpvaultModel", "number", "[I", true)
  | 7 => ("TrumpvaultModel", "swapFor", "[I", true)
  | 8 => ("TrumpvaultModel", "holder", "[I", true)
  | 9 => ("TrumpvaultModel", "back", "[I", true)
  | 10 => ("TrumpvaultModel", "cards", "I", false)
  | 11 => ("TrumpvaultModel", "bidPrice", "[I", true)
  | 12 => ("TrumpvaultModel", "bidNumber", "[I", true)
  | 13 => ("TrumpvaultModel", "made", "I", false)
  | 14 => ("TrumpvaultModel", "banDay", "[I", true)
  | 15 => ("TrumpvaultModel", "deck", "[I", true)
  | _ => ("TrumpvaultModel", "thrown", "I", false)
def tyX4 : Nat → FieldType := fun k => match k with
  | 0 => .int
  | 1 => .array .int
  | 2 => .array .int
  | 3 => .array .int
  | 4 => .array .int
  | 5 => .array .int
  | 6 => .array .int
  | 7 => .array .int
  | 8 => .array .int
  | 9 => .array .int
  | 10 => .int
  | 11 => .array .int
  | 12 => .array .int
  | 13 => .int
  | 14 => .array .int
  | 15 => .array .int
  | _ => .int
abbrev wsX40 : List Cond := u_ws RX4 TX4 17
theorem nmX4 : ∀ a, a < 17 → ∀ b, b < 17 → a ≠ b → (TX4 a).2.1 ≠ (TX4 b).2.1 := by decide +kernel
theorem tyX4_ok : ∀ k, k < 17 → parseFieldDescriptor (TX4 k).2.2.1 = some (tyX4 k) := by decide +kernel
abbrev cX4_init : ByteArray := prog_6_method_1_code
def yX4_init : MethodName := ⟨RX4, "<init>", "()V"⟩
abbrev cX4_thrown : ByteArray := prog_6_method_2_code
def yX4_thrown : MethodName := ⟨RX4, "thrown", "()I"⟩
abbrev cX4_in : ByteArray := prog_6_method_3_code
def yX4_in : MethodName := ⟨RX4, "in", "(III)Z"⟩
abbrev cX4_asked : ByteArray := prog_6_method_4_code
def yX4_asked : MethodName := ⟨RX4, "asked", "(Z)Z"⟩
abbrev cX4_asked_ : ByteArray := prog_6_method_5_code
def yX4_asked_ : MethodName := ⟨RX4, "asked", "(ZZ)Z"⟩
abbrev cX4_asked__ : ByteArray := prog_6_method_6_code
def yX4_asked__ : MethodName := ⟨RX4, "asked", "(ZZZ)Z"⟩
abbrev cX4_isPlayer : ByteArray := prog_6_method_7_code
def yX4_isPlayer : MethodName := ⟨RX4, "isPlayer", "(I)Z"⟩
abbrev cX4_isKind : ByteArray := prog_6_method_8_code
def yX4_isKind : MethodName := ⟨RX4, "isKind", "(I)Z"⟩
abbrev cX4_isCard : ByteArray := prog_6_method_9_code
def yX4_isCard : MethodName := ⟨RX4, "isCard", "(I)Z"⟩
abbrev cX4_banned : ByteArray := prog_6_method_10_code
def yX4_banned : MethodName := ⟨RX4, "banned", "(I)Z"⟩
abbrev cX4_mint : ByteArray := prog_6_method_11_code
def yX4_mint : MethodName := ⟨RX4, "mint", "(II)I"⟩
abbrev cX4_owner : ByteArray := prog_6_method_12_code
def yX4_owner : MethodName := ⟨RX4, "owner", "(I)I"⟩
abbrev cX4_ownerByHistory : ByteArray := prog_6_method_13_code
def yX4_ownerByHistory : MethodName := ⟨RX4, "ownerByHistory", "(I)I"⟩
abbrev cX4_holds : ByteArray := prog_6_method_14_code
def yX4_holds : MethodName := ⟨RX4, "holds", "(I)I"⟩
abbrev cX4_holder : ByteArray := prog_6_method_15_code
def yX4_holder : MethodName := ⟨RX4, "holder", "(I)I"⟩
abbrev cX4_stateOf : ByteArray := prog_6_method_16_code
def yX4_stateOf : MethodName := ⟨RX4, "stateOf", "(I)I"⟩
abbrev cX4_coins : ByteArray := prog_6_method_17_code
def yX4_coins : MethodName := ⟨RX4, "coins", "(I)I"⟩
abbrev cX4_bidder : ByteArray := prog_6_method_18_code
def yX4_bidder : MethodName := ⟨RX4, "bidder", "(II)I"⟩
abbrev cX4_offer : ByteArray := prog_6_method_19_code
def yX4_offer : MethodName := ⟨RX4, "offer", "(II)I"⟩
abbrev cX4_sell : ByteArray := prog_6_method_20_code
def yX4_sell : MethodName := ⟨RX4, "sell", "(II)I"⟩
abbrev cX4_bid : ByteArray := prog_6_method_21_code
def yX4_bid : MethodName := ⟨RX4, "bid", "(III)I"⟩
abbrev cX4_cancelSale : ByteArray := prog_6_method_22_code
def yX4_cancelSale : MethodName := ⟨RX4, "cancelSale", "(I)I"⟩
abbrev cX4_cancelBid : ByteArray := prog_6_method_23_code
def yX4_cancelBid : MethodName := ⟨RX4, "cancelBid", "(II)I"⟩
abbrev cX4_leastSale : ByteArray := prog_6_method_24_code
def yX4_leastSale : MethodName := ⟨RX4, "leastSale", "(I)I"⟩
abbrev cX4_greatestBid : ByteArray := prog_6_method_25_code
def yX4_greatestBid : MethodName := ⟨RX4, "greatestBid", "(I)I"⟩
abbrev cX4_swap : ByteArray := prog_6_method_26_code
def yX4_swap : MethodName := ⟨RX4, "swap", "(II)V"⟩
abbrev cX4_agree : ByteArray := prog_6_method_27_code
def yX4_agree : MethodName := ⟨RX4, "agree", "(I)I"⟩
abbrev cX4_cancelSwap : ByteArray := prog_6_method_28_code
def yX4_cancelSwap : MethodName := ⟨RX4, "cancelSwap", "(I)V"⟩
abbrev cX4_lend : ByteArray := prog_6_method_29_code
def yX4_lend : MethodName := ⟨RX4, "lend", "(III)I"⟩
abbrev cX4_clears : ByteArray := prog_6_method_30_code
def yX4_clears : MethodName := ⟨RX4, "clears", "(I)I"⟩
abbrev cX4_ban : ByteArray := prog_6_method_31_code
def yX4_ban : MethodName := ⟨RX4, "ban", "(II)I"⟩
abbrev cX4_lift : ByteArray := prog_6_method_32_code
def yX4_lift : MethodName := ⟨RX4, "lift", "(I)Z"⟩
abbrev cX4_isBanned : ByteArray := prog_6_method_33_code
def yX4_isBanned : MethodName := ⟨RX4, "isBanned", "(I)Z"⟩
abbrev cX4_pass : ByteArray := prog_6_method_34_code
def yX4_pass : MethodName := ⟨RX4, "pass", "(I)I"⟩
abbrev cX4_size : ByteArray := prog_6_method_35_code
def yX4_size : MethodName := ⟨RX4, "size", "(I)I"⟩
abbrev cX4_toggleDeck : ByteArray := prog_6_method_36_code
def yX4_toggleDeck : MethodName := ⟨RX4, "toggleDeck", "(II)I"⟩
abbrev cX4_right : ByteArray := prog_6_method_37_code
def yX4_right : MethodName := ⟨RX4, "right", "(I)Z"⟩
abbrev cX4_strengthOf : ByteArray := prog_6_method_38_code
def yX4_strengthOf : MethodName := ⟨RX4, "strengthOf", "(I)I"⟩
abbrev cX4_isRight : ByteArray := prog_6_method_39_code
def yX4_isRight : MethodName := ⟨RX4, "isRight", "(I)Z"⟩
abbrev cX4_strength : ByteArray := prog_6_method_40_code
def yX4_strength : MethodName := ⟨RX4, "strength", "(I)I"⟩
abbrev cX4_play : ByteArray := prog_6_method_41_code
def yX4_play : MethodName := ⟨RX4, "play", "(II)I"⟩
def RJx145de : String := "java/io/Serializable"
def TJx145de : u_T := fun k => match k with
  | _ => ("", "", "", false)
def tyJx145de : Nat → FieldType := fun k => match k with
  | _ => .int
abbrev wsJx145de0 : List Cond := u_ws RJx145de TJx145de 0
theorem nmJx145de : ∀ a, a < 0 → ∀ b, b < 0 → a ≠ b → (TJx145de a).2.1 ≠ (TJx145de b).2.1 := by decide +kernel
theorem tyJx145de_ok : ∀ k, k < 0 → parseFieldDescriptor (TJx145de k).2.2.1 = some (tyJx145de k) := by decide +kernel
def RJ6 : String := "java/lang/Integer"
def TJ6 : u_T := fun k => match k with
  | _ => ("", "", "", false)
def tyJ6 : Nat → FieldType := fun k => match k with
  | _ => .int
abbrev wsJ60 : List Cond := u_ws RJ6 TJ6 0
theorem nmJ6 : ∀ a, a < 0 → ∀ b, b < 0 → a ≠ b → (TJ6 a).2.1 ≠ (TJ6 b).2.1 := by decide +kernel
theorem tyJ6_ok : ∀ k, k < 0 → parseFieldDescriptor (TJ6 k).2.2.1 = some (tyJ6 k) := by decide +kernel
abbrev cJ6_bitCount_0f7a4 : ByteArray := prog_11_method_49_code
def yJ6_bitCount_0f7a4 : MethodName := ⟨RJ6, "bitCount", "(I)I"⟩
def RJ0 : String := "java/lang/String"
def TJ0 : u_T := fun k => match k with
  | _ => ("", "", "", false)
def tyJ0 : Nat → FieldType := fun k => match k with
  | _ => .int
abbrev wsJ00 : List Cond := u_ws RJ0 TJ0 0
theorem nmJ0 : ∀ a, a < 0 → ∀ b, b < 0 → a ≠ b → (TJ0 a).2.1 ≠ (TJ0 b).2.1 := by decide +kernel
theorem tyJ0_ok : ∀ k, k < 0 → parseFieldDescriptor (TJ0 k).2.2.1 = some (tyJ0 k) := by decide +kernel
def RJ7 : String := "java/util/Arrays"
def TJ7 : u_T := fun k => match k with
  | _ => ("", "", "", false)
def tyJ7 : Nat → FieldType := fun k => match k with
  | _ => .int
abbrev wsJ70 : List Cond := u_ws RJ7 TJ7 0
theorem nmJ7 : ∀ a, a < 0 → ∀ b, b < 0 → a ≠ b → (TJ7 a).2.1 ≠ (TJ7 b).2.1 := by decide +kernel
theorem tyJ7_ok : ∀ k, k < 0 → parseFieldDescriptor (TJ7 k).2.2.1 = some (tyJ7 k) := by decide +kernel
abbrev cJ7_fill_53178 : ByteArray := prog_15_method_103_code
def yJ7_fill_53178 : MethodName := ⟨RJ7, "fill", "([II)V"⟩
def RL : String := "TrumpvaultLaw"
abbrev cL_mint : ByteArray := method_3_code
def yL_mint : MethodName := ⟨RL, "mint", "(LTrumpvault;II[J)I"⟩
abbrev cL_owner : ByteArray := method_4_code
def yL_owner : MethodName := ⟨RL, "owner", "(LTrumpvault;I[J)I"⟩
abbrev cL_ownerByHistory : ByteArray := method_5_code
def yL_ownerByHistory : MethodName := ⟨RL, "ownerByHistory", "(LTrumpvault;I[J)I"⟩
abbrev cL_holder : ByteArray := method_6_code
def yL_holder : MethodName := ⟨RL, "holder", "(LTrumpvault;I[J)I"⟩
abbrev cL_stateOf : ByteArray := method_7_code
def yL_stateOf : MethodName := ⟨RL, "stateOf", "(LTrumpvault;I[J)I"⟩
abbrev cL_coins : ByteArray := method_8_code
def yL_coins : MethodName := ⟨RL, "coins", "(LTrumpvault;I[J)I"⟩
abbrev cL_sell : ByteArray := method_9_code
def yL_sell : MethodName := ⟨RL, "sell", "(LTrumpvault;II[J)I"⟩
abbrev cL_bid : ByteArray := method_10_code
def yL_bid : MethodName := ⟨RL, "bid", "(LTrumpvault;III[J)I"⟩
abbrev cL_cancelSale : ByteArray := method_11_code
def yL_cancelSale : MethodName := ⟨RL, "cancelSale", "(LTrumpvault;I[J)I"⟩
abbrev cL_cancelBid : ByteArray := method_12_code
def yL_cancelBid : MethodName := ⟨RL, "cancelBid", "(LTrumpvault;II[J)I"⟩
abbrev cL_leastSale : ByteArray := method_13_code
def yL_leastSale : MethodName := ⟨RL, "leastSale", "(LTrumpvault;I[J)I"⟩
abbrev cL_greatestBid : ByteArray := method_14_code
def yL_greatestBid : MethodName := ⟨RL, "greatestBid", "(LTrumpvault;I[J)I"⟩
abbrev cL_swap : ByteArray := method_15_code
def yL_swap : MethodName := ⟨RL, "swap", "(LTrumpvault;II)I"⟩
abbrev cL_agree : ByteArray := method_16_code
def yL_agree : MethodName := ⟨RL, "agree", "(LTrumpvault;I[J)I"⟩
abbrev cL_cancelSwap : ByteArray := method_17_code
def yL_cancelSwap : MethodName := ⟨RL, "cancelSwap", "(LTrumpvault;I)I"⟩
abbrev cL_lend : ByteArray := method_18_code
def yL_lend : MethodName := ⟨RL, "lend", "(LTrumpvault;III[J)I"⟩
abbrev cL_ban : ByteArray := method_19_code
def yL_ban : MethodName := ⟨RL, "ban", "(LTrumpvault;II[J)I"⟩
abbrev cL_lift : ByteArray := method_20_code
def yL_lift : MethodName := ⟨RL, "lift", "(LTrumpvault;I[J)I"⟩
abbrev cL_isBanned : ByteArray := method_21_code
def yL_isBanned : MethodName := ⟨RL, "isBanned", "(LTrumpvault;I[J)I"⟩
abbrev cL_pass : ByteArray := method_22_code
def yL_pass : MethodName := ⟨RL, "pass", "(LTrumpvault;I[J)I"⟩
abbrev cL_toggleDeck : ByteArray := method_23_code
def yL_toggleDeck : MethodName := ⟨RL, "toggleDeck", "(LTrumpvault;II[J)I"⟩
abbrev cL_isRight : ByteArray := method_24_code
def yL_isRight : MethodName := ⟨RL, "isRight", "(LTrumpvault;I[J)I"⟩
abbrev cL_strength : ByteArray := method_25_code
def yL_strength : MethodName := ⟨RL, "strength", "(LTrumpvault;I[J)I"⟩
abbrev cL_play : ByteArray := method_26_code
def yL_play : MethodName := ⟨RL, "play", "(LTrumpvault;II[J)I"⟩
abbrev cL_law : ByteArray := code
def yL_law : MethodName := ⟨RL, "law", "([I)Z"⟩
def wsX0_init : List Cond := .code yX0_init cX0_init 1 none :: ([.methodLink RX0 3 objectInit, .instanceMethod objectInit, .code objectInit ⟨#[0xb1]⟩ 1 none, .classLink RX0 9 "[[I", .arrayClass .int, .fieldLink RX0 11 "Trumpvault$Bids" "prices" "[[I", .fieldLink RX0 16 "Trumpvault$Bids" "numbers" "[[I"] ++ wsX00)
def wsX0_has : List Cond := .code yX0_has cX0_has 3 (some .boolean) :: ([.fieldLink RX0 11 "Trumpvault$Bids" "prices" "[[I"] ++ wsX00)
def wsX0_put : List Cond := .code yX0_put cX0_put 5 none :: ([.fieldLink RX0 11 "Trumpvault$Bids" "prices" "[[I", .fieldLink RX0 16 "Trumpvault$Bids" "numbers" "[[I"] ++ wsX00)
def wsX0_take : List Cond := .code yX0_take cX0_take 4 (some .int) :: ([.fieldLink RX0 11 "Trumpvault$Bids" "prices" "[[I"] ++ wsX00)
def wsX0_isBefore : List Cond := .code yX0_isBefore cX0_isBefore 6 (some .boolean) :: ([.fieldLink RX0 11 "Trumpvault$Bids" "prices" "[[I", .fieldLink RX0 16 "Trumpvault$Bids" "numbers" "[[I"] ++ wsX00)
def wsX0_bestBidder : List Cond := .code yX0_bestBidder cX0_bestBidder 5 (some .int) :: ([.methodLink RX0 19 yX0_has, .instanceMethod yX0_has, .selects RX0 yX0_has yX0_has, .initialized RX0, .code yX0_has cX0_has 3 (some .boolean), .fieldLink RX0 11 "Trumpvault$Bids" "prices" "[[I", .methodLink RX0 23 yX0_isBefore, .instanceMethod yX0_isBefore, .selects RX0 yX0_isBefore yX0_isBefore, .code yX0_isBefore cX0_isBefore 6 (some .boolean), .fieldLink RX0 16 "Trumpvault$Bids" "numbers" "[[I"] ++ wsX00)
def wsX1_init : List Cond := .code yX1_init cX1_init 1 none :: ([.methodLink RX1 3 objectInit, .instanceMethod objectInit, .code objectInit ⟨#[0xb1]⟩ 1 none, .arrayClass .int, .fieldLink RX1 9 "Trumpvault$Cards" "kinds" "[I", .fieldLink RX1 15 "Trumpvault$Cards" "owners" "[I", .fieldLink RX1 18 "Trumpvault$Cards" "states" "[I", .fieldLink RX1 21 "Trumpvault$Cards" "salePrices" "[I", .fieldLink RX1 24 "Trumpvault$Cards" "saleNumbers" "[I", .fieldLink RX1 27 "Trumpvault$Cards" "swapOthers" "[I", .fieldLink RX1 30 "Trumpvault$Cards" "borrowers" "[I", .fieldLink RX1 33 "Trumpvault$Cards" "returnDays" "[I", .fieldLink RX1 36 "Trumpvault$Cards" "count" "I"] ++ wsX10)
def wsX1_has : List Cond := .code yX1_has cX1_has 2 (some .boolean) :: ([.fieldLink RX1 36 "Trumpvault$Cards" "count" "I"] ++ wsX10)
def wsX1_isFull : List Cond := .code yX1_isFull cX1_isFull 1 (some .boolean) :: ([.fieldLink RX1 36 "Trumpvault$Cards" "count" "I"] ++ wsX10)
def wsX1_add : List Cond := .code yX1_add cX1_add 4 (some .int) :: ([.fieldLink RX1 36 "Trumpvault$Cards" "count" "I", .fieldLink RX1 9 "Trumpvault$Cards" "kinds" "[I", .fieldLink RX1 15 "Trumpvault$Cards" "owners" "[I", .fieldLink RX1 18 "Trumpvault$Cards" "states" "[I"] ++ wsX10)
def wsX1_holderOf : List Cond := .code yX1_holderOf cX1_holderOf 2 (some .int) :: ([.fieldLink RX1 18 "Trumpvault$Cards" "states" "[I", .fieldLink RX1 30 "Trumpvault$Cards" "borrowers" "[I", .fieldLink RX1 15 "Trumpvault$Cards" "owners" "[I"] ++ wsX10)
def wsX1_putSale : List Cond := .code yX1_putSale cX1_putSale 4 none :: ([.fieldLink RX1 18 "Trumpvault$Cards" "states" "[I", .fieldLink RX1 21 "Trumpvault$Cards" "salePrices" "[I", .fieldLink RX1 24 "Trumpvault$Cards" "saleNumbers" "[I"] ++ wsX10)
def wsX1_takeSale : List Cond := .code yX1_takeSale cX1_takeSale 2 (some .int) :: ([.fieldLink RX1 18 "Trumpvault$Cards" "states" "[I", .fieldLink RX1 21 "Trumpvault$Cards" "salePrices" "[I"] ++ wsX10)
def wsX1_isOnSale : List Cond := .code yX1_isOnSale cX1_isOnSale 3 (some .boolean) :: ([.fieldLink RX1 18 "Trumpvault$Cards" "states" "[I", .fieldLink RX1 9 "Trumpvault$Cards" "kinds" "[I"] ++ wsX10)
def wsX1_takeSalesOf : List Cond := .code yX1_takeSalesOf cX1_takeSalesOf 4 (some .int) :: ([.fieldLink RX1 36 "Trumpvault$Cards" "count" "I", .methodLink RX1 40 yX1_isOnSale, .instanceMethod yX1_isOnSale, .selects RX1 yX1_isOnSale yX1_isOnSale, .initialized RX1, .code yX1_isOnSale cX1_isOnSale 3 (some .boolean), .fieldLink RX1 18 "Trumpvault$Cards" "states" "[I", .fieldLink RX1 9 "Trumpvault$Cards" "kinds" "[I", .methodLink RX1 44 yX1_takeSale, .instanceMethod yX1_takeSale, .selects RX1 yX1_takeSale yX1_takeSale, .code yX1_takeSale cX1_takeSale 2 (some .int), .fieldLink RX1 21 "Trumpvault$Cards" "salePrices" "[I"] ++ wsX10)
def wsX1_saleIsBefore : List Cond := .code yX1_saleIsBefore cX1_saleIsBefore 3 (some .boolean) :: ([.fieldLink RX1 21 "Trumpvault$Cards" "salePrices" "[I", .fieldLink RX1 24 "Trumpvault$Cards" "saleNumbers" "[I"] ++ wsX10)
def wsX1_bestSale : List Cond := .code yX1_bestSale cX1_bestSale 5 (some .int) :: ([.fieldLink RX1 36 "Trumpvault$Cards" "count" "I", .fieldLink RX1 15 "Trumpvault$Cards" "owners" "[I", .methodLink RX1 40 yX1_isOnSale, .instanceMethod yX1_isOnSale, .selects RX1 yX1_isOnSale yX1_isOnSale, .initialized RX1, .code yX1_isOnSale cX1_isOnSale 3 (some .boolean), .fieldLink RX1 18 "Trumpvault$Cards" "states" "[I", .fieldLink RX1 9 "Trumpvault$Cards" "kinds" "[I", .methodLink RX1 48 yX1_saleIsBefore, .instanceMethod yX1_saleIsBefore, .selects RX1 yX1_saleIsBefore yX1_saleIsBefore, .code yX1_saleIsBefore cX1_saleIsBefore 3 (some .boolean), .fieldLink RX1 21 "Trumpvault$Cards" "salePrices" "[I", .fieldLink RX1 24 "Trumpvault$Cards" "saleNumbers" "[I"] ++ wsX10)
def wsX1_canBeSwapped : List Cond := .code yX1_canBeSwapped cX1_canBeSwapped 3 (some .boolean) :: ([.fieldLink RX1 27 "Trumpvault$Cards" "swapOthers" "[I", .fieldLink RX1 18 "Trumpvault$Cards" "states" "[I", .fieldLink RX1 15 "Trumpvault$Cards" "owners" "[I", .methodLink RX1 51 yX1_has, .instanceMethod yX1_has, .selects RX1 yX1_has yX1_has, .initialized RX1, .code yX1_has cX1_has 2 (some .boolean), .fieldLink RX1 36 "Trumpvault$Cards" "count" "I"] ++ wsX10)
def wsX1_lendTo : List Cond := .code yX1_lendTo cX1_lendTo 4 none :: ([.fieldLink RX1 18 "Trumpvault$Cards" "states" "[I", .fieldLink RX1 30 "Trumpvault$Cards" "borrowers" "[I", .fieldLink RX1 33 "Trumpvault$Cards" "returnDays" "[I"] ++ wsX10)
def wsX1_endLoans : List Cond := .code yX1_endLoans cX1_endLoans 3 none :: ([.fieldLink RX1 36 "Trumpvault$Cards" "count" "I", .fieldLink RX1 18 "Trumpvault$Cards" "states" "[I", .fieldLink RX1 33 "Trumpvault$Cards" "returnDays" "[I"] ++ wsX10)
def wsX2_init : List Cond := .code yX2_init cX2_init 1 none :: ([.methodLink RX2 3 objectInit, .instanceMethod objectInit, .code objectInit ⟨#[0xb1]⟩ 1 none, .arrayClass .int, .fieldLink RX2 9 "Trumpvault$History" "movedCards" "[I", .fieldLink RX2 15 "Trumpvault$History" "newOwners" "[I", .fieldLink RX2 18 "Trumpvault$History" "count" "I"] ++ wsX20)
def wsX2_record : List Cond := .code yX2_record cX2_record 3 none :: ([.fieldLink RX2 18 "Trumpvault$History" "count" "I", .fieldLink RX2 9 "Trumpvault$History" "movedCards" "[I", .fieldLink RX2 15 "Trumpvault$History" "newOwners" "[I"] ++ wsX20)
def wsX2_lastOwner : List Cond := .code yX2_lastOwner cX2_lastOwner 4 (some .int) :: ([.fieldLink RX2 18 "Trumpvault$History" "count" "I", .fieldLink RX2 9 "Trumpvault$History" "movedCards" "[I", .fieldLink RX2 15 "Trumpvault$History" "newOwners" "[I"] ++ wsX20)
def wsJ7_fill_53178 : List Cond := .code yJ7_fill_53178 cJ7_fill_53178 4 none :: ([])
def wsX3_init_r1 : List Cond := [Cond.methodLink RX3 1 objectInit, Cond.instanceMethod objectInit, Cond.code objectInit ⟨#[0xb1]⟩ 1 none, Cond.classLink RX3 7 RX1, Cond.instantiable RX1 9, Cond.initialized RX1, Cond.fieldLink RX3 10 "Trumpvault" "cards" "LTrumpvault$Cards;", Cond.classLink RX3 16 RX0, Cond.instantiable RX0 2, Cond.initialized RX0, Cond.fieldLink RX3 19 "Trumpvault" "bids" "LTrumpvault$Bids;", Cond.classLink RX3 23 RX2, Cond.instantiable RX2 3, Cond.initialized RX2, Cond.fieldLink RX3 26 "Trumpvault" "history" "LTrumpvault$History;", Cond.arrayClass .int, Cond.fieldLink RX3 30 "Trumpvault" "purses" "[I", Cond.fieldLink RX3 40 "Trumpvault" "bannedFrom" "[I", Cond.fieldLink RX3 43 "Trumpvault" "decks" "[I", Cond.fieldLink RX3 46 "Trumpvault" "nextNumber" "I", Cond.fieldLink RX3 50 "Trumpvault" "today" "I", Cond.instanceMethod yX1_init, Cond.code yX1_init cX1_init 1 none, Cond.methodLink RX1 3 objectInit]
def wsX3_init_r2 : List Cond := [Cond.fieldLink RX1 9 "Trumpvault$Cards" "kinds" "[I", Cond.fieldLink RX1 15 "Trumpvault$Cards" "owners" "[I", Cond.fieldLink RX1 18 "Trumpvault$Cards" "states" "[I", Cond.fieldLink RX1 21 "Trumpvault$Cards" "salePrices" "[I", Cond.fieldLink RX1 24 "Trumpvault$Cards" "saleNumbers" "[I", Cond.fieldLink RX1 27 "Trumpvault$Cards" "swapOthers" "[I", Cond.fieldLink RX1 30 "Trumpvault$Cards" "borrowers" "[I", Cond.fieldLink RX1 33 "Trumpvault$Cards" "returnDays" "[I", Cond.fieldLink RX1 36 "Trumpvault$Cards" "count" "I", Cond.instanceMethod yX0_init, Cond.code yX0_init cX0_init 1 none, Cond.methodLink RX0 3 objectInit, Cond.classLink RX0 9 "[[I", Cond.fieldLink RX0 11 "Trumpvault$Bids" "prices" "[[I", Cond.fieldLink RX0 16 "Trumpvault$Bids" "numbers" "[[I", Cond.instanceMethod yX2_init, Cond.code yX2_init cX2_init 1 none, Cond.methodLink RX2 3 objectInit, Cond.fieldLink RX2 9 "Trumpvault$History" "movedCards" "[I", Cond.fieldLink RX2 15 "Trumpvault$History" "newOwners" "[I", Cond.fieldLink RX2 18 "Trumpvault$History" "count" "I", Cond.methodLink RX3 34 yJ7_fill_53178, Cond.static yJ7_fill_53178, Cond.initialized RJ7]
def wsX3_init_r3 : List Cond := [Cond.code yJ7_fill_53178 cJ7_fill_53178 4 none]
def wsX3_init : List Cond := .code yX3_init cX3_init 1 none :: ((wsX3_init_r1 ++ (wsX3_init_r2 ++ wsX3_init_r3)) ++ wsX10 ++ wsX30 ++ wsX00 ++ wsX20)
def wsX3_needPlayer : List Cond := .code yX3_needPlayer cX3_needPlayer 1 none :: ([.classLink RX3 197 "java/lang/IndexOutOfBoundsException", .initialized "java/lang/IndexOutOfBoundsException"] ++ (vx_atS RX3 201 "java/lang/IndexOutOfBoundsException" ["java/lang/RuntimeException", "java/lang/Exception"]).filter goodWord)
def wsX3_needKind : List Cond := .code yX3_needKind cX3_needKind 1 none :: ([.classLink RX3 197 "java/lang/IndexOutOfBoundsException", .initialized "java/lang/IndexOutOfBoundsException"] ++ (vx_atS RX3 201 "java/lang/IndexOutOfBoundsException" ["java/lang/RuntimeException", "java/lang/Exception"]).filter goodWord)
def wsX3_mint_r1 : List Cond := [Cond.classLink RX3 64 "java/lang/IllegalStateException", Cond.initialized "java/lang/IllegalStateException", Cond.fieldLink RX3 10 "Trumpvault" "cards" "LTrumpvault$Cards;", Cond.fieldLink RX3 26 "Trumpvault" "history" "LTrumpvault$History;", Cond.methodLink RX3 53 yX3_needPlayer, Cond.static yX3_needPlayer, Cond.initialized RX3, Cond.code yX3_needPlayer cX3_needPlayer 1 none, Cond.classLink RX3 197 "java/lang/IndexOutOfBoundsException", Cond.initialized "java/lang/IndexOutOfBoundsException", Cond.methodLink RX3 57 yX3_needKind, Cond.static yX3_needKind, Cond.code yX3_needKind cX3_needKind 1 none, Cond.methodLink RX3 60 yX1_isFull, Cond.instanceMethod yX1_isFull, Cond.selects RX1 yX1_isFull yX1_isFull, Cond.initialized RX1, Cond.code yX1_isFull cX1_isFull 1 (some .boolean), Cond.fieldLink RX1 36 "Trumpvault$Cards" "count" "I", Cond.methodLink RX3 71 yX1_add, Cond.instanceMethod yX1_add, Cond.selects RX1 yX1_add yX1_add, Cond.code yX1_add cX1_add 4 (some .int), Cond.fieldLink RX1 9 "Trumpvault$Cards" "kinds" "[I"]
def wsX3_mint_r2 : List Cond := [Cond.fieldLink RX1 15 "Trumpvault$Cards" "owners" "[I", Cond.fieldLink RX1 18 "Trumpvault$Cards" "states" "[I", Cond.methodLink RX3 75 yX2_record, Cond.instanceMethod yX2_record, Cond.selects RX2 yX2_record yX2_record, Cond.initialized RX2, Cond.code yX2_record cX2_record 3 none, Cond.fieldLink RX2 18 "Trumpvault$History" "count" "I", Cond.fieldLink RX2 9 "Trumpvault$History" "movedCards" "[I", Cond.fieldLink RX2 15 "Trumpvault$History" "newOwners" "[I"]
def wsX3_mint : List Cond := .code yX3_mint cX3_mint 4 (some .int) :: ((wsX3_mint_r1 ++ wsX3_mint_r2) ++ wsX30 ++ wsX10 ++ wsX20 ++ (vx_atS RX3 68 "java/lang/IllegalStateException" ["java/lang/RuntimeException", "java/lang/Exception"]).filter goodWord ++ (vx_atS RX3 201 "java/lang/IndexOutOfBoundsException" ["java/lang/RuntimeException", "java/lang/Exception"]).filter goodWord)
def wsX3_needCard : List Cond := .code yX3_needCard cX3_needCard 2 none :: ([.classLink RX3 197 "java/lang/IndexOutOfBoundsException", .initialized "java/lang/IndexOutOfBoundsException", .fieldLink RX3 10 "Trumpvault" "cards" "LTrumpvault$Cards;", .methodLink RX3 204 yX1_has, .instanceMethod yX1_has, .selects RX1 yX1_has yX1_has, .initialized RX1, .code yX1_has cX1_has 2 (some .boolean), .fieldLink RX1 36 "Trumpvault$Cards" "count" "I"] ++ wsX30 ++ wsX10 ++ (vx_atS RX3 201 "java/lang/IndexOutOfBoundsException" ["java/lang/RuntimeException", "java/lang/Exception"]).filter goodWord)
def wsX3_owner : List Cond := .code yX3_owner cX3_owner 2 (some .int) :: ([.fieldLink RX3 10 "Trumpvault" "cards" "LTrumpvault$Cards;", .fieldLink RX3 82 "Trumpvault$Cards" "owners" "[I", .methodLink RX3 79 yX3_needCard, .instanceMethod yX3_needCard, .selects RX3 yX3_needCard yX3_needCard, .initialized RX3, .code yX3_needCard cX3_needCard 2 none, .classLink RX3 197 "java/lang/IndexOutOfBoundsException", .initialized "java/lang/IndexOutOfBoundsException", .methodLink RX3 204 yX1_has, .instanceMethod yX1_has, .selects RX1 yX1_has yX1_has, .initialized RX1, .code yX1_has cX1_has 2 (some .boolean), .fieldLink RX1 36 "Trumpvault$Cards" "count" "I"] ++ wsX30 ++ wsX10 ++ (vx_atS RX3 201 "java/lang/IndexOutOfBoundsException" ["java/lang/RuntimeException", "java/lang/Exception"]).filter goodWord)
def wsX3_ownerByHistory : List Cond := .code yX3_ownerByHistory cX3_ownerByHistory 2 (some .int) :: ([.fieldLink RX3 26 "Trumpvault" "history" "LTrumpvault$History;", .methodLink RX3 79 yX3_needCard, .instanceMethod yX3_needCard, .selects RX3 yX3_needCard yX3_needCard, .initialized RX3, .code yX3_needCard cX3_needCard 2 none, .classLink RX3 197 "java/lang/IndexOutOfBoundsException", .initialized "java/lang/IndexOutOfBoundsException", .fieldLink RX3 10 "Trumpvault" "cards" "LTrumpvault$Cards;", .methodLink RX3 204 yX1_has, .instanceMethod yX1_has, .selects RX1 yX1_has yX1_has, .initialized RX1, .code yX1_has cX1_has 2 (some .boolean), .fieldLink RX1 36 "Trumpvault$Cards" "count" "I", .methodLink RX3 85 yX2_lastOwner, .instanceMethod yX2_lastOwner, .selects RX2 yX2_lastOwner yX2_lastOwner, .initialized RX2, .code yX2_lastOwner cX2_lastOwner 4 (some .int), .fieldLink RX2 18 "Trumpvault$History" "count" "I", .fieldLink RX2 9 "Trumpvault$History" "movedCards" "[I", .fieldLink RX2 15 "Trumpvault$History" "newOwners" "[I"] ++ wsX30 ++ wsX10 ++ wsX20 ++ (vx_atS RX3 201 "java/lang/IndexOutOfBoundsException" ["java/lang/RuntimeException", "java/lang/Exception"]).filter goodWord)
def wsX3_holder : List Cond := .code yX3_holder cX3_holder 2 (some .int) :: ([.fieldLink RX3 10 "Trumpvault" "cards" "LTrumpvault$Cards;", .methodLink RX3 79 yX3_needCard, .instanceMethod yX3_needCard, .selects RX3 yX3_needCard yX3_needCard, .initialized RX3, .code yX3_needCard cX3_needCard 2 none, .classLink RX3 197 "java/lang/IndexOutOfBoundsException", .initialized "java/lang/IndexOutOfBoundsException", .methodLink RX3 204 yX1_has, .instanceMethod yX1_has, .selects RX1 yX1_has yX1_has, .initialized RX1, .code yX1_has cX1_has 2 (some .boolean), .fieldLink RX1 36 "Trumpvault$Cards" "count" "I", .methodLink RX3 89 yX1_holderOf, .instanceMethod yX1_holderOf, .selects RX1 yX1_holderOf yX1_holderOf, .code yX1_holderOf cX1_holderOf 2 (some .int), .fieldLink RX1 18 "Trumpvault$Cards" "states" "[I", .fieldLink RX1 30 "Trumpvault$Cards" "borrowers" "[I", .fieldLink RX1 15 "Trumpvault$Cards" "owners" "[I"] ++ wsX30 ++ wsX10 ++ (vx_atS RX3 201 "java/lang/IndexOutOfBoundsException" ["java/lang/RuntimeException", "java/lang/Exception"]).filter goodWord)
def wsX3_stateOf : List Cond := .code yX3_stateOf cX3_stateOf 2 (some .int) :: ([.fieldLink RX3 10 "Trumpvault" "cards" "LTrumpvault$Cards;", .fieldLink RX3 92 "Trumpvault$Cards" "states" "[I", .methodLink RX3 79 yX3_needCard, .instanceMethod yX3_needCard, .selects RX3 yX3_needCard yX3_needCard, .initialized RX3, .code yX3_needCard cX3_needCard 2 none, .classLink RX3 197 "java/lang/IndexOutOfBoundsException", .initialized "java/lang/IndexOutOfBoundsException", .methodLink RX3 204 yX1_has, .instanceMethod yX1_has, .selects RX1 yX1_has yX1_has, .initialized RX1, .code yX1_has cX1_has 2 (some .boolean), .fieldLink RX1 36 "Trumpvault$Cards" "count" "I"] ++ wsX30 ++ wsX10 ++ (vx_atS RX3 201 "java/lang/IndexOutOfBoundsException" ["java/lang/RuntimeException", "java/lang/Exception"]).filter goodWord)
def wsX3_coins : List Cond := .code yX3_coins cX3_coins 2 (some .int) :: ([.fieldLink RX3 30 "Trumpvault" "purses" "[I", .methodLink RX3 53 yX3_needPlayer, .static yX3_needPlayer, .initialized RX3, .code yX3_needPlayer cX3_needPlayer 1 none, .classLink RX3 197 "java/lang/IndexOutOfBoundsException", .initialized "java/lang/IndexOutOfBoundsException"] ++ wsX30 ++ (vx_atS RX3 201 "java/lang/IndexOutOfBoundsException" ["java/lang/RuntimeException", "java/lang/Exception"]).filter goodWord)
def wsX3_needPrice : List Cond := .code yX3_needPrice cX3_needPrice 1 none :: ([.classLink RX3 150 "java/lang/IllegalArgumentException", .initialized "java/lang/IllegalArgumentException"] ++ (vx_atS RX3 154 "java/lang/IllegalArgumentException" ["java/lang/RuntimeException", "java/lang/Exception"]).filter goodWord)
def wsX3_bannedToday : List Cond := .code yX3_bannedToday cX3_bannedToday 2 (some .boolean) :: ([.fieldLink RX3 40 "Trumpvault" "bannedFrom" "[I", .fieldLink RX3 50 "Trumpvault" "today" "I"] ++ wsX30)
def wsX3_giveTo : List Cond := .code yX3_giveTo cX3_giveTo 3 none :: ([.fieldLink RX3 10 "Trumpvault" "cards" "LTrumpvault$Cards;", .fieldLink RX3 82 "Trumpvault$Cards" "owners" "[I", .fieldLink RX3 92 "Trumpvault$Cards" "states" "[I", .fieldLink RX3 26 "Trumpvault" "history" "LTrumpvault$History;", .methodLink RX3 75 yX2_record, .instanceMethod yX2_record, .selects RX2 yX2_record yX2_record, .initialized RX2, .code yX2_record cX2_record 3 none, .fieldLink RX2 18 "Trumpvault$History" "count" "I", .fieldLink RX2 9 "Trumpvault$History" "movedCards" "[I", .fieldLink RX2 15 "Trumpvault$History" "newOwners" "[I"] ++ wsX30 ++ wsX10 ++ wsX20)
def wsX3_sell_r1 : List Cond := [Cond.classLink RX3 64 "java/lang/IllegalStateException", Cond.initialized "java/lang/IllegalStateException", Cond.fieldLink RX3 10 "Trumpvault" "cards" "LTrumpvault$Cards;", Cond.fieldLink RX3 98 "Trumpvault$Cards" "kinds" "[I", Cond.fieldLink RX3 92 "Trumpvault$Cards" "states" "[I", Cond.fieldLink RX3 19 "Trumpvault" "bids" "LTrumpvault$Bids;", Cond.fieldLink RX3 82 "Trumpvault$Cards" "owners" "[I", Cond.fieldLink RX3 110 "Trumpvault$Bids" "prices" "[[I", Cond.fieldLink RX3 46 "Trumpvault" "nextNumber" "I", Cond.fieldLink RX3 30 "Trumpvault" "purses" "[I", Cond.methodLink RX3 79 yX3_needCard, Cond.instanceMethod yX3_needCard, Cond.selects RX3 yX3_needCard yX3_needCard, Cond.initialized RX3, Cond.code yX3_needCard cX3_needCard 2 none, Cond.classLink RX3 197 "java/lang/IndexOutOfBoundsException", Cond.initialized "java/lang/IndexOutOfBoundsException", Cond.methodLink RX3 204 yX1_has, Cond.instanceMethod yX1_has, Cond.selects RX1 yX1_has yX1_has, Cond.initialized RX1, Cond.code yX1_has cX1_has 2 (some .boolean), Cond.fieldLink RX1 36 "Trumpvault$Cards" "count" "I", Cond.methodLink RX3 95 yX3_needPrice]
def wsX3_sell_r2 : List Cond := [Cond.static yX3_needPrice, Cond.code yX3_needPrice cX3_needPrice 1 none, Cond.classLink RX3 150 "java/lang/IllegalArgumentException", Cond.initialized "java/lang/IllegalArgumentException", Cond.methodLink RX3 101 yX3_bannedToday, Cond.instanceMethod yX3_bannedToday, Cond.selects RX3 yX3_bannedToday yX3_bannedToday, Cond.code yX3_bannedToday cX3_bannedToday 2 (some .boolean), Cond.fieldLink RX3 40 "Trumpvault" "bannedFrom" "[I", Cond.fieldLink RX3 50 "Trumpvault" "today" "I", Cond.methodLink RX3 107 yX0_bestBidder, Cond.instanceMethod yX0_bestBidder, Cond.selects RX0 yX0_bestBidder yX0_bestBidder, Cond.initialized RX0, Cond.code yX0_bestBidder cX0_bestBidder 5 (some .int), Cond.methodLink RX0 19 yX0_has, Cond.instanceMethod yX0_has, Cond.selects RX0 yX0_has yX0_has, Cond.code yX0_has cX0_has 3 (some .boolean), Cond.fieldLink RX0 11 "Trumpvault$Bids" "prices" "[[I", Cond.methodLink RX0 23 yX0_isBefore, Cond.instanceMethod yX0_isBefore, Cond.selects RX0 yX0_isBefore yX0_isBefore, Cond.code yX0_isBefore cX0_isBefore 6 (some .boolean)]
def wsX3_sell_r3 : List Cond := [Cond.fieldLink RX0 16 "Trumpvault$Bids" "numbers" "[[I", Cond.methodLink RX3 114 yX1_putSale, Cond.instanceMethod yX1_putSale, Cond.selects RX1 yX1_putSale yX1_putSale, Cond.code yX1_putSale cX1_putSale 4 none, Cond.fieldLink RX1 18 "Trumpvault$Cards" "states" "[I", Cond.fieldLink RX1 21 "Trumpvault$Cards" "salePrices" "[I", Cond.fieldLink RX1 24 "Trumpvault$Cards" "saleNumbers" "[I", Cond.methodLink RX3 118 yX0_take, Cond.instanceMethod yX0_take, Cond.selects RX0 yX0_take yX0_take, Cond.code yX0_take cX0_take 4 (some .int), Cond.methodLink RX3 121 yX3_giveTo, Cond.instanceMethod yX3_giveTo, Cond.selects RX3 yX3_giveTo yX3_giveTo, Cond.code yX3_giveTo cX3_giveTo 3 none, Cond.fieldLink RX3 26 "Trumpvault" "history" "LTrumpvault$History;", Cond.methodLink RX3 75 yX2_record, Cond.instanceMethod yX2_record, Cond.selects RX2 yX2_record yX2_record, Cond.initialized RX2, Cond.code yX2_record cX2_record 3 none, Cond.fieldLink RX2 18 "Trumpvault$History" "count" "I", Cond.fieldLink RX2 9 "Trumpvault$History" "movedCards" "[I"]
def wsX3_sell_r4 : List Cond := [Cond.fieldLink RX2 15 "Trumpvault$History" "newOwners" "[I"]
def wsX3_sell : List Cond := .code yX3_sell cX3_sell 6 (some .int) :: ((wsX3_sell_r1 ++ (wsX3_sell_r2 ++ (wsX3_sell_r3 ++ wsX3_sell_r4))) ++ wsX30 ++ wsX10 ++ wsX00 ++ wsX20 ++ (vx_atS RX3 68 "java/lang/IllegalStateException" ["java/lang/RuntimeException", "java/lang/Exception"]).filter goodWord ++ (vx_atS RX3 201 "java/lang/IndexOutOfBoundsException" ["java/lang/RuntimeException", "java/lang/Exception"]).filter goodWord ++ (vx_atS RX3 154 "java/lang/IllegalArgumentException" ["java/lang/RuntimeException", "java/lang/Exception"]).filter goodWord)
def wsX3_bid_r1 : List Cond := [Cond.classLink RX3 64 "java/lang/IllegalStateException", Cond.initialized "java/lang/IllegalStateException", Cond.fieldLink RX3 30 "Trumpvault" "purses" "[I", Cond.fieldLink RX3 19 "Trumpvault" "bids" "LTrumpvault$Bids;", Cond.fieldLink RX3 10 "Trumpvault" "cards" "LTrumpvault$Cards;", Cond.fieldLink RX3 133 "Trumpvault$Cards" "salePrices" "[I", Cond.fieldLink RX3 46 "Trumpvault" "nextNumber" "I", Cond.fieldLink RX3 82 "Trumpvault$Cards" "owners" "[I", Cond.methodLink RX3 53 yX3_needPlayer, Cond.static yX3_needPlayer, Cond.initialized RX3, Cond.code yX3_needPlayer cX3_needPlayer 1 none, Cond.classLink RX3 197 "java/lang/IndexOutOfBoundsException", Cond.initialized "java/lang/IndexOutOfBoundsException", Cond.methodLink RX3 57 yX3_needKind, Cond.static yX3_needKind, Cond.code yX3_needKind cX3_needKind 1 none, Cond.methodLink RX3 95 yX3_needPrice, Cond.static yX3_needPrice, Cond.code yX3_needPrice cX3_needPrice 1 none, Cond.classLink RX3 150 "java/lang/IllegalArgumentException", Cond.initialized "java/lang/IllegalArgumentException", Cond.methodLink RX3 124 yX0_has, Cond.instanceMethod yX0_has]
def wsX3_bid_r2 : List Cond := [Cond.selects RX0 yX0_has yX0_has, Cond.initialized RX0, Cond.code yX0_has cX0_has 3 (some .boolean), Cond.fieldLink RX0 11 "Trumpvault$Bids" "prices" "[[I", Cond.methodLink RX3 101 yX3_bannedToday, Cond.instanceMethod yX3_bannedToday, Cond.selects RX3 yX3_bannedToday yX3_bannedToday, Cond.code yX3_bannedToday cX3_bannedToday 2 (some .boolean), Cond.fieldLink RX3 40 "Trumpvault" "bannedFrom" "[I", Cond.fieldLink RX3 50 "Trumpvault" "today" "I", Cond.methodLink RX3 130 yX1_bestSale, Cond.instanceMethod yX1_bestSale, Cond.selects RX1 yX1_bestSale yX1_bestSale, Cond.initialized RX1, Cond.code yX1_bestSale cX1_bestSale 5 (some .int), Cond.fieldLink RX1 36 "Trumpvault$Cards" "count" "I", Cond.fieldLink RX1 15 "Trumpvault$Cards" "owners" "[I", Cond.methodLink RX1 40 yX1_isOnSale, Cond.instanceMethod yX1_isOnSale, Cond.selects RX1 yX1_isOnSale yX1_isOnSale, Cond.code yX1_isOnSale cX1_isOnSale 3 (some .boolean), Cond.fieldLink RX1 18 "Trumpvault$Cards" "states" "[I", Cond.fieldLink RX1 9 "Trumpvault$Cards" "kinds" "[I", Cond.methodLink RX1 48 yX1_saleIsBefore]
def wsX3_bid_r3 : List Cond := [Cond.instanceMethod yX1_saleIsBefore, Cond.selects RX1 yX1_saleIsBefore yX1_saleIsBefore, Cond.code yX1_saleIsBefore cX1_saleIsBefore 3 (some .boolean), Cond.fieldLink RX1 21 "Trumpvault$Cards" "salePrices" "[I", Cond.fieldLink RX1 24 "Trumpvault$Cards" "saleNumbers" "[I", Cond.methodLink RX3 136 yX0_put, Cond.instanceMethod yX0_put, Cond.selects RX0 yX0_put yX0_put, Cond.code yX0_put cX0_put 5 none, Cond.fieldLink RX0 16 "Trumpvault$Bids" "numbers" "[[I", Cond.methodLink RX3 140 yX1_takeSale, Cond.instanceMethod yX1_takeSale, Cond.selects RX1 yX1_takeSale yX1_takeSale, Cond.code yX1_takeSale cX1_takeSale 2 (some .int), Cond.methodLink RX3 121 yX3_giveTo, Cond.instanceMethod yX3_giveTo, Cond.selects RX3 yX3_giveTo yX3_giveTo, Cond.code yX3_giveTo cX3_giveTo 3 none, Cond.fieldLink RX3 92 "Trumpvault$Cards" "states" "[I", Cond.fieldLink RX3 26 "Trumpvault" "history" "LTrumpvault$History;", Cond.methodLink RX3 75 yX2_record, Cond.instanceMethod yX2_record, Cond.selects RX2 yX2_record yX2_record, Cond.initialized RX2]
def wsX3_bid_r4 : List Cond := [Cond.code yX2_record cX2_record 3 none, Cond.fieldLink RX2 18 "Trumpvault$History" "count" "I", Cond.fieldLink RX2 9 "Trumpvault$History" "movedCards" "[I", Cond.fieldLink RX2 15 "Trumpvault$History" "newOwners" "[I"]
def wsX3_bid : List Cond := .code yX3_bid cX3_bid 6 (some .int) :: ((wsX3_bid_r1 ++ (wsX3_bid_r2 ++ (wsX3_bid_r3 ++ wsX3_bid_r4))) ++ wsX30 ++ wsX10 ++ wsX00 ++ wsX20 ++ (vx_atS RX3 68 "java/lang/IllegalStateException" ["java/lang/RuntimeException", "java/lang/Exception"]).filter goodWord ++ (vx_atS RX3 201 "java/lang/IndexOutOfBoundsException" ["java/lang/RuntimeException", "java/lang/Exception"]).filter goodWord ++ (vx_atS RX3 154 "java/lang/IllegalArgumentException" ["java/lang/RuntimeException", "java/lang/Exception"]).filter goodWord)
def wsX3_cancelSale : List Cond := .code yX3_cancelSale cX3_cancelSale 2 (some .int) :: ([.classLink RX3 64 "java/lang/IllegalStateException", .initialized "java/lang/IllegalStateException", .fieldLink RX3 10 "Trumpvault" "cards" "LTrumpvault$Cards;", .fieldLink RX3 92 "Trumpvault$Cards" "states" "[I", .methodLink RX3 79 yX3_needCard, .instanceMethod yX3_needCard, .selects RX3 yX3_needCard yX3_needCard, .initialized RX3, .code yX3_needCard cX3_needCard 2 none, .classLink RX3 197 "java/lang/IndexOutOfBoundsException", .initialized "java/lang/IndexOutOfBoundsException", .methodLink RX3 204 yX1_has, .instanceMethod yX1_has, .selects RX1 yX1_has yX1_has, .initialized RX1, .code yX1_has cX1_has 2 (some .boolean), .fieldLink RX1 36 "Trumpvault$Cards" "count" "I", .methodLink RX3 140 yX1_takeSale, .instanceMethod yX1_takeSale, .selects RX1 yX1_takeSale yX1_takeSale, .code yX1_takeSale cX1_takeSale 2 (some .int), .fieldLink RX1 18 "Trumpvault$Cards" "states" "[I", .fieldLink RX1 21 "Trumpvault$Cards" "salePrices" "[I"] ++ wsX30 ++ wsX10 ++ (vx_atS RX3 68 "java/lang/IllegalStateException" ["java/lang/RuntimeException", "java/lang/Exception"]).filter goodWord ++ (vx_atS RX3 201 "java/lang/IndexOutOfBoundsException" ["java/lang/RuntimeException", "java/lang/Exception"]).filter goodWord)
def wsX3_giveBidBack : List Cond := .code yX3_giveBidBack cX3_giveBidBack 4 (some .int) :: ([.fieldLink RX3 19 "Trumpvault" "bids" "LTrumpvault$Bids;", .fieldLink RX3 30 "Trumpvault" "purses" "[I", .methodLink RX3 118 yX0_take, .instanceMethod yX0_take, .selects RX0 yX0_take yX0_take, .initialized RX0, .code yX0_take cX0_take 4 (some .int), .fieldLink RX0 11 "Trumpvault$Bids" "prices" "[[I"] ++ wsX30 ++ wsX00)
def wsX3_cancelBid_r1 : List Cond := [Cond.classLink RX3 64 "java/lang/IllegalStateException", Cond.initialized "java/lang/IllegalStateException", Cond.fieldLink RX3 19 "Trumpvault" "bids" "LTrumpvault$Bids;", Cond.methodLink RX3 53 yX3_needPlayer, Cond.static yX3_needPlayer, Cond.initialized RX3, Cond.code yX3_needPlayer cX3_needPlayer 1 none, Cond.classLink RX3 197 "java/lang/IndexOutOfBoundsException", Cond.initialized "java/lang/IndexOutOfBoundsException", Cond.methodLink RX3 57 yX3_needKind, Cond.static yX3_needKind, Cond.code yX3_needKind cX3_needKind 1 none, Cond.methodLink RX3 124 yX0_has, Cond.instanceMethod yX0_has, Cond.selects RX0 yX0_has yX0_has, Cond.initialized RX0, Cond.code yX0_has cX0_has 3 (some .boolean), Cond.fieldLink RX0 11 "Trumpvault$Bids" "prices" "[[I", Cond.methodLink RX3 147 yX3_giveBidBack, Cond.instanceMethod yX3_giveBidBack, Cond.selects RX3 yX3_giveBidBack yX3_giveBidBack, Cond.code yX3_giveBidBack cX3_giveBidBack 4 (some .int), Cond.fieldLink RX3 30 "Trumpvault" "purses" "[I", Cond.methodLink RX3 118 yX0_take]
def wsX3_cancelBid_r2 : List Cond := [Cond.instanceMethod yX0_take, Cond.selects RX0 yX0_take yX0_take, Cond.code yX0_take cX0_take 4 (some .int)]
def wsX3_cancelBid : List Cond := .code yX3_cancelBid cX3_cancelBid 3 (some .int) :: ((wsX3_cancelBid_r1 ++ wsX3_cancelBid_r2) ++ wsX30 ++ wsX00 ++ (vx_atS RX3 68 "java/lang/IllegalStateException" ["java/lang/RuntimeException", "java/lang/Exception"]).filter goodWord ++ (vx_atS RX3 201 "java/lang/IndexOutOfBoundsException" ["java/lang/RuntimeException", "java/lang/Exception"]).filter goodWord)
def wsX3_leastSale_r1 : List Cond := [Cond.fieldLink RX3 10 "Trumpvault" "cards" "LTrumpvault$Cards;", Cond.fieldLink RX3 133 "Trumpvault$Cards" "salePrices" "[I", Cond.methodLink RX3 57 yX3_needKind, Cond.static yX3_needKind, Cond.initialized RX3, Cond.code yX3_needKind cX3_needKind 1 none, Cond.classLink RX3 197 "java/lang/IndexOutOfBoundsException", Cond.initialized "java/lang/IndexOutOfBoundsException", Cond.methodLink RX3 130 yX1_bestSale, Cond.instanceMethod yX1_bestSale, Cond.selects RX1 yX1_bestSale yX1_bestSale, Cond.initialized RX1, Cond.code yX1_bestSale cX1_bestSale 5 (some .int), Cond.fieldLink RX1 36 "Trumpvault$Cards" "count" "I", Cond.fieldLink RX1 15 "Trumpvault$Cards" "owners" "[I", Cond.methodLink RX1 40 yX1_isOnSale, Cond.instanceMethod yX1_isOnSale, Cond.selects RX1 yX1_isOnSale yX1_isOnSale, Cond.code yX1_isOnSale cX1_isOnSale 3 (some .boolean), Cond.fieldLink RX1 18 "Trumpvault$Cards" "states" "[I", Cond.fieldLink RX1 9 "Trumpvault$Cards" "kinds" "[I", Cond.methodLink RX1 48 yX1_saleIsBefore, Cond.instanceMethod yX1_saleIsBefore, Cond.selects RX1 yX1_saleIsBefore yX1_saleIsBefore]
def wsX3_leastSale_r2 : List Cond := [Cond.code yX1_saleIsBefore cX1_saleIsBefore 3 (some .boolean), Cond.fieldLink RX1 21 "Trumpvault$Cards" "salePrices" "[I", Cond.fieldLink RX1 24 "Trumpvault$Cards" "saleNumbers" "[I"]
def wsX3_leastSale : List Cond := .code yX3_leastSale cX3_leastSale 3 (some .int) :: ((wsX3_leastSale_r1 ++ wsX3_leastSale_r2) ++ wsX30 ++ wsX10 ++ (vx_atS RX3 201 "java/lang/IndexOutOfBoundsException" ["java/lang/RuntimeException", "java/lang/Exception"]).filter goodWord)
def wsX3_greatestBid : List Cond := .code yX3_greatestBid cX3_greatestBid 3 (some .int) :: ([.fieldLink RX3 19 "Trumpvault" "bids" "LTrumpvault$Bids;", .fieldLink RX3 110 "Trumpvault$Bids" "prices" "[[I", .methodLink RX3 57 yX3_needKind, .static yX3_needKind, .initialized RX3, .code yX3_needKind cX3_needKind 1 none, .classLink RX3 197 "java/lang/IndexOutOfBoundsException", .initialized "java/lang/IndexOutOfBoundsException", .methodLink RX3 107 yX0_bestBidder, .instanceMethod yX0_bestBidder, .selects RX0 yX0_bestBidder yX0_bestBidder, .initialized RX0, .code yX0_bestBidder cX0_bestBidder 5 (some .int), .methodLink RX0 19 yX0_has, .instanceMethod yX0_has, .selects RX0 yX0_has yX0_has, .code yX0_has cX0_has 3 (some .boolean), .fieldLink RX0 11 "Trumpvault$Bids" "prices" "[[I", .methodLink RX0 23 yX0_isBefore, .instanceMethod yX0_isBefore, .selects RX0 yX0_isBefore yX0_isBefore, .code yX0_isBefore cX0_isBefore 6 (some .boolean), .fieldLink RX0 16 "Trumpvault$Bids" "numbers" "[[I"] ++ wsX30 ++ wsX00 ++ (vx_atS RX3 201 "java/lang/IndexOutOfBoundsException" ["java/lang/RuntimeException", "java/lang/Exception"]).filter goodWord)
def wsX3_swap : List Cond := .code yX3_swap cX3_swap 3 none :: ([.classLink RX3 150 "java/lang/IllegalArgumentException", .initialized "java/lang/IllegalArgumentException", .classLink RX3 64 "java/lang/IllegalStateException", .initialized "java/lang/IllegalStateException", .fieldLink RX3 10 "Trumpvault" "cards" "LTrumpvault$Cards;", .fieldLink RX3 82 "Trumpvault$Cards" "owners" "[I", .fieldLink RX3 92 "Trumpvault$Cards" "states" "[I", .fieldLink RX3 157 "Trumpvault$Cards" "swapOthers" "[I", .methodLink RX3 79 yX3_needCard, .instanceMethod yX3_needCard, .selects RX3 yX3_needCard yX3_needCard, .initialized RX3, .code yX3_needCard cX3_needCard 2 none, .classLink RX3 197 "java/lang/IndexOutOfBoundsException", .initialized "java/lang/IndexOutOfBoundsException", .methodLink RX3 204 yX1_has, .instanceMethod yX1_has, .selects RX1 yX1_has yX1_has, .initialized RX1, .code yX1_has cX1_has 2 (some .boolean), .fieldLink RX1 36 "Trumpvault$Cards" "count" "I"] ++ wsX30 ++ wsX10 ++ (vx_atS RX3 154 "java/lang/IllegalArgumentException" ["java/lang/RuntimeException", "java/lang/Exception"]).filter goodWord ++ (vx_atS RX3 68 "java/lang/IllegalStateException" ["java/lang/RuntimeException", "java/lang/Exception"]).filter goodWord ++ (vx_atS RX3 201 "java/lang/IndexOutOfBoundsException" ["java/lang/RuntimeException", "java/lang/Exception"]).filter goodWord)
def wsX3_agree_r1 : List Cond := [Cond.classLink RX3 64 "java/lang/IllegalStateException", Cond.initialized "java/lang/IllegalStateException", Cond.fieldLink RX3 10 "Trumpvault" "cards" "LTrumpvault$Cards;", Cond.fieldLink RX3 157 "Trumpvault$Cards" "swapOthers" "[I", Cond.fieldLink RX3 82 "Trumpvault$Cards" "owners" "[I", Cond.methodLink RX3 79 yX3_needCard, Cond.instanceMethod yX3_needCard, Cond.selects RX3 yX3_needCard yX3_needCard, Cond.initialized RX3, Cond.code yX3_needCard cX3_needCard 2 none, Cond.classLink RX3 197 "java/lang/IndexOutOfBoundsException", Cond.initialized "java/lang/IndexOutOfBoundsException", Cond.methodLink RX3 204 yX1_has, Cond.instanceMethod yX1_has, Cond.selects RX1 yX1_has yX1_has, Cond.initialized RX1, Cond.code yX1_has cX1_has 2 (some .boolean), Cond.fieldLink RX1 36 "Trumpvault$Cards" "count" "I", Cond.methodLink RX3 160 yX1_canBeSwapped, Cond.instanceMethod yX1_canBeSwapped, Cond.selects RX1 yX1_canBeSwapped yX1_canBeSwapped, Cond.code yX1_canBeSwapped cX1_canBeSwapped 3 (some .boolean), Cond.fieldLink RX1 27 "Trumpvault$Cards" "swapOthers" "[I", Cond.fieldLink RX1 18 "Trumpvault$Cards" "states" "[I"]
def wsX3_agree_r2 : List Cond := [Cond.fieldLink RX1 15 "Trumpvault$Cards" "owners" "[I", Cond.methodLink RX1 51 yX1_has, Cond.methodLink RX3 121 yX3_giveTo, Cond.instanceMethod yX3_giveTo, Cond.selects RX3 yX3_giveTo yX3_giveTo, Cond.code yX3_giveTo cX3_giveTo 3 none, Cond.fieldLink RX3 92 "Trumpvault$Cards" "states" "[I", Cond.fieldLink RX3 26 "Trumpvault" "history" "LTrumpvault$History;", Cond.methodLink RX3 75 yX2_record, Cond.instanceMethod yX2_record, Cond.selects RX2 yX2_record yX2_record, Cond.initialized RX2, Cond.code yX2_record cX2_record 3 none, Cond.fieldLink RX2 18 "Trumpvault$History" "count" "I", Cond.fieldLink RX2 9 "Trumpvault$History" "movedCards" "[I", Cond.fieldLink RX2 15 "Trumpvault$History" "newOwners" "[I"]
def wsX3_agree : List Cond := .code yX3_agree cX3_agree 4 (some .int) :: ((wsX3_agree_r1 ++ wsX3_agree_r2) ++ wsX30 ++ wsX10 ++ wsX20 ++ (vx_atS RX3 68 "java/lang/IllegalStateException" ["java/lang/RuntimeException", "java/lang/Exception"]).filter goodWord ++ (vx_atS RX3 201 "java/lang/IndexOutOfBoundsException" ["java/lang/RuntimeException", "java/lang/Exception"]).filter goodWord)
def wsX3_cancelSwap : List Cond := .code yX3_cancelSwap cX3_cancelSwap 2 none :: ([.classLink RX3 64 "java/lang/IllegalStateException", .initialized "java/lang/IllegalStateException", .fieldLink RX3 10 "Trumpvault" "cards" "LTrumpvault$Cards;", .fieldLink RX3 92 "Trumpvault$Cards" "states" "[I", .methodLink RX3 79 yX3_needCard, .instanceMethod yX3_needCard, .selects RX3 yX3_needCard yX3_needCard, .initialized RX3, .code yX3_needCard cX3_needCard 2 none, .classLink RX3 197 "java/lang/IndexOutOfBoundsException", .initialized "java/lang/IndexOutOfBoundsException", .methodLink RX3 204 yX1_has, .instanceMethod yX1_has, .selects RX1 yX1_has yX1_has, .initialized RX1, .code yX1_has cX1_has 2 (some .boolean), .fieldLink RX1 36 "Trumpvault$Cards" "count" "I"] ++ wsX30 ++ wsX10 ++ (vx_atS RX3 68 "java/lang/IllegalStateException" ["java/lang/RuntimeException", "java/lang/Exception"]).filter goodWord ++ (vx_atS RX3 201 "java/lang/IndexOutOfBoundsException" ["java/lang/RuntimeException", "java/lang/Exception"]).filter goodWord)
def wsX3_lend_r1 : List Cond := [Cond.classLink RX3 150 "java/lang/IllegalArgumentException", Cond.initialized "java/lang/IllegalArgumentException", Cond.classLink RX3 64 "java/lang/IllegalStateException", Cond.initialized "java/lang/IllegalStateException", Cond.fieldLink RX3 10 "Trumpvault" "cards" "LTrumpvault$Cards;", Cond.fieldLink RX3 82 "Trumpvault$Cards" "owners" "[I", Cond.fieldLink RX3 92 "Trumpvault$Cards" "states" "[I", Cond.fieldLink RX3 50 "Trumpvault" "today" "I", Cond.methodLink RX3 79 yX3_needCard, Cond.instanceMethod yX3_needCard, Cond.selects RX3 yX3_needCard yX3_needCard, Cond.initialized RX3, Cond.code yX3_needCard cX3_needCard 2 none, Cond.classLink RX3 197 "java/lang/IndexOutOfBoundsException", Cond.initialized "java/lang/IndexOutOfBoundsException", Cond.methodLink RX3 204 yX1_has, Cond.instanceMethod yX1_has, Cond.selects RX1 yX1_has yX1_has, Cond.initialized RX1, Cond.code yX1_has cX1_has 2 (some .boolean), Cond.fieldLink RX1 36 "Trumpvault$Cards" "count" "I", Cond.methodLink RX3 53 yX3_needPlayer, Cond.static yX3_needPlayer, Cond.code yX3_needPlayer cX3_needPlayer 1 none]
def wsX3_lend_r2 : List Cond := [Cond.methodLink RX3 169 yX1_lendTo, Cond.instanceMethod yX1_lendTo, Cond.selects RX1 yX1_lendTo yX1_lendTo, Cond.code yX1_lendTo cX1_lendTo 4 none, Cond.fieldLink RX1 18 "Trumpvault$Cards" "states" "[I", Cond.fieldLink RX1 30 "Trumpvault$Cards" "borrowers" "[I", Cond.fieldLink RX1 33 "Trumpvault$Cards" "returnDays" "[I"]
def wsX3_lend : List Cond := .code yX3_lend cX3_lend 5 (some .int) :: ((wsX3_lend_r1 ++ wsX3_lend_r2) ++ wsX30 ++ wsX10 ++ (vx_atS RX3 154 "java/lang/IllegalArgumentException" ["java/lang/RuntimeException", "java/lang/Exception"]).filter goodWord ++ (vx_atS RX3 68 "java/lang/IllegalStateException" ["java/lang/RuntimeException", "java/lang/Exception"]).filter goodWord ++ (vx_atS RX3 201 "java/lang/IndexOutOfBoundsException" ["java/lang/RuntimeException", "java/lang/Exception"]).filter goodWord)
def wsX3_clearMarket_r1 : List Cond := [Cond.fieldLink RX3 10 "Trumpvault" "cards" "LTrumpvault$Cards;", Cond.fieldLink RX3 19 "Trumpvault" "bids" "LTrumpvault$Bids;", Cond.methodLink RX3 210 yX1_takeSalesOf, Cond.instanceMethod yX1_takeSalesOf, Cond.selects RX1 yX1_takeSalesOf yX1_takeSalesOf, Cond.initialized RX1, Cond.code yX1_takeSalesOf cX1_takeSalesOf 4 (some .int), Cond.fieldLink RX1 36 "Trumpvault$Cards" "count" "I", Cond.methodLink RX1 40 yX1_isOnSale, Cond.instanceMethod yX1_isOnSale, Cond.selects RX1 yX1_isOnSale yX1_isOnSale, Cond.code yX1_isOnSale cX1_isOnSale 3 (some .boolean), Cond.fieldLink RX1 18 "Trumpvault$Cards" "states" "[I", Cond.fieldLink RX1 9 "Trumpvault$Cards" "kinds" "[I", Cond.methodLink RX1 44 yX1_takeSale, Cond.instanceMethod yX1_takeSale, Cond.selects RX1 yX1_takeSale yX1_takeSale, Cond.code yX1_takeSale cX1_takeSale 2 (some .int), Cond.fieldLink RX1 21 "Trumpvault$Cards" "salePrices" "[I", Cond.methodLink RX3 124 yX0_has, Cond.instanceMethod yX0_has, Cond.selects RX0 yX0_has yX0_has, Cond.initialized RX0, Cond.code yX0_has cX0_has 3 (some .boolean)]
def wsX3_clearMarket_r2 : List Cond := [Cond.fieldLink RX0 11 "Trumpvault$Bids" "prices" "[[I", Cond.methodLink RX3 147 yX3_giveBidBack, Cond.instanceMethod yX3_giveBidBack, Cond.selects RX3 yX3_giveBidBack yX3_giveBidBack, Cond.initialized RX3, Cond.code yX3_giveBidBack cX3_giveBidBack 4 (some .int), Cond.fieldLink RX3 30 "Trumpvault" "purses" "[I", Cond.methodLink RX3 118 yX0_take, Cond.instanceMethod yX0_take, Cond.selects RX0 yX0_take yX0_take, Cond.code yX0_take cX0_take 4 (some .int)]
def wsX3_clearMarket : List Cond := .code yX3_clearMarket cX3_clearMarket 4 (some .int) :: ((wsX3_clearMarket_r1 ++ wsX3_clearMarket_r2) ++ wsX30 ++ wsX10 ++ wsX00)
def wsX3_ban_r1 : List Cond := [Cond.classLink RX3 150 "java/lang/IllegalArgumentException", Cond.initialized "java/lang/IllegalArgumentException", Cond.fieldLink RX3 50 "Trumpvault" "today" "I", Cond.fieldLink RX3 40 "Trumpvault" "bannedFrom" "[I", Cond.methodLink RX3 57 yX3_needKind, Cond.static yX3_needKind, Cond.initialized RX3, Cond.code yX3_needKind cX3_needKind 1 none, Cond.classLink RX3 197 "java/lang/IndexOutOfBoundsException", Cond.initialized "java/lang/IndexOutOfBoundsException", Cond.methodLink RX3 101 yX3_bannedToday, Cond.instanceMethod yX3_bannedToday, Cond.selects RX3 yX3_bannedToday yX3_bannedToday, Cond.code yX3_bannedToday cX3_bannedToday 2 (some .boolean), Cond.methodLink RX3 174 yX3_clearMarket, Cond.instanceMethod yX3_clearMarket, Cond.selects RX3 yX3_clearMarket yX3_clearMarket, Cond.code yX3_clearMarket cX3_clearMarket 4 (some .int), Cond.fieldLink RX3 10 "Trumpvault" "cards" "LTrumpvault$Cards;", Cond.fieldLink RX3 19 "Trumpvault" "bids" "LTrumpvault$Bids;", Cond.methodLink RX3 210 yX1_takeSalesOf, Cond.instanceMethod yX1_takeSalesOf, Cond.selects RX1 yX1_takeSalesOf yX1_takeSalesOf, Cond.initialized RX1]
def wsX3_ban_r2 : List Cond := [Cond.code yX1_takeSalesOf cX1_takeSalesOf 4 (some .int), Cond.fieldLink RX1 36 "Trumpvault$Cards" "count" "I", Cond.methodLink RX1 40 yX1_isOnSale, Cond.instanceMethod yX1_isOnSale, Cond.selects RX1 yX1_isOnSale yX1_isOnSale, Cond.code yX1_isOnSale cX1_isOnSale 3 (some .boolean), Cond.fieldLink RX1 18 "Trumpvault$Cards" "states" "[I", Cond.fieldLink RX1 9 "Trumpvault$Cards" "kinds" "[I", Cond.methodLink RX1 44 yX1_takeSale, Cond.instanceMethod yX1_takeSale, Cond.selects RX1 yX1_takeSale yX1_takeSale, Cond.code yX1_takeSale cX1_takeSale 2 (some .int), Cond.fieldLink RX1 21 "Trumpvault$Cards" "salePrices" "[I", Cond.methodLink RX3 124 yX0_has, Cond.instanceMethod yX0_has, Cond.selects RX0 yX0_has yX0_has, Cond.initialized RX0, Cond.code yX0_has cX0_has 3 (some .boolean), Cond.fieldLink RX0 11 "Trumpvault$Bids" "prices" "[[I", Cond.methodLink RX3 147 yX3_giveBidBack, Cond.instanceMethod yX3_giveBidBack, Cond.selects RX3 yX3_giveBidBack yX3_giveBidBack, Cond.code yX3_giveBidBack cX3_giveBidBack 4 (some .int), Cond.fieldLink RX3 30 "Trumpvault" "purses" "[I"]
def wsX3_ban_r3 : List Cond := [Cond.methodLink RX3 118 yX0_take, Cond.instanceMethod yX0_take, Cond.selects RX0 yX0_take yX0_take, Cond.code yX0_take cX0_take 4 (some .int)]
def wsX3_ban : List Cond := .code yX3_ban cX3_ban 3 (some .int) :: ((wsX3_ban_r1 ++ (wsX3_ban_r2 ++ wsX3_ban_r3)) ++ wsX30 ++ wsX10 ++ wsX00 ++ (vx_atS RX3 154 "java/lang/IllegalArgumentException" ["java/lang/RuntimeException", "java/lang/Exception"]).filter goodWord ++ (vx_atS RX3 201 "java/lang/IndexOutOfBoundsException" ["java/lang/RuntimeException", "java/lang/Exception"]).filter goodWord)
def wsX3_lift : List Cond := .code yX3_lift cX3_lift 3 (some .boolean) :: ([.fieldLink RX3 40 "Trumpvault" "bannedFrom" "[I", .methodLink RX3 57 yX3_needKind, .static yX3_needKind, .initialized RX3, .code yX3_needKind cX3_needKind 1 none, .classLink RX3 197 "java/lang/IndexOutOfBoundsException", .initialized "java/lang/IndexOutOfBoundsException"] ++ wsX30 ++ (vx_atS RX3 201 "java/lang/IndexOutOfBoundsException" ["java/lang/RuntimeException", "java/lang/Exception"]).filter goodWord)
def wsX3_isBanned : List Cond := .code yX3_isBanned cX3_isBanned 2 (some .boolean) :: ([.methodLink RX3 57 yX3_needKind, .static yX3_needKind, .initialized RX3, .code yX3_needKind cX3_needKind 1 none, .classLink RX3 197 "java/lang/IndexOutOfBoundsException", .initialized "java/lang/IndexOutOfBoundsException", .methodLink RX3 101 yX3_bannedToday, .instanceMethod yX3_bannedToday, .selects RX3 yX3_bannedToday yX3_bannedToday, .code yX3_bannedToday cX3_bannedToday 2 (some .boolean), .fieldLink RX3 40 "Trumpvault" "bannedFrom" "[I", .fieldLink RX3 50 "Trumpvault" "today" "I"] ++ wsX30 ++ (vx_atS RX3 201 "java/lang/IndexOutOfBoundsException" ["java/lang/RuntimeException", "java/lang/Exception"]).filter goodWord)
def wsX3_pass_r1 : List Cond := [Cond.classLink RX3 150 "java/lang/IllegalArgumentException", Cond.initialized "java/lang/IllegalArgumentException", Cond.fieldLink RX3 50 "Trumpvault" "today" "I", Cond.fieldLink RX3 10 "Trumpvault" "cards" "LTrumpvault$Cards;", Cond.methodLink RX3 179 yX1_endLoans, Cond.instanceMethod yX1_endLoans, Cond.selects RX1 yX1_endLoans yX1_endLoans, Cond.initialized RX1, Cond.code yX1_endLoans cX1_endLoans 3 none, Cond.fieldLink RX1 36 "Trumpvault$Cards" "count" "I", Cond.fieldLink RX1 18 "Trumpvault$Cards" "states" "[I", Cond.fieldLink RX1 33 "Trumpvault$Cards" "returnDays" "[I", Cond.methodLink RX3 101 yX3_bannedToday, Cond.instanceMethod yX3_bannedToday, Cond.selects RX3 yX3_bannedToday yX3_bannedToday, Cond.initialized RX3, Cond.code yX3_bannedToday cX3_bannedToday 2 (some .boolean), Cond.fieldLink RX3 40 "Trumpvault" "bannedFrom" "[I", Cond.methodLink RX3 174 yX3_clearMarket, Cond.instanceMethod yX3_clearMarket, Cond.selects RX3 yX3_clearMarket yX3_clearMarket, Cond.code yX3_clearMarket cX3_clearMarket 4 (some .int), Cond.fieldLink RX3 19 "Trumpvault" "bids" "LTrumpvault$Bids;", Cond.methodLink RX3 210 yX1_takeSalesOf]
def wsX3_pass_r2 : List Cond := [Cond.instanceMethod yX1_takeSalesOf, Cond.selects RX1 yX1_takeSalesOf yX1_takeSalesOf, Cond.code yX1_takeSalesOf cX1_takeSalesOf 4 (some .int), Cond.methodLink RX1 40 yX1_isOnSale, Cond.instanceMethod yX1_isOnSale, Cond.selects RX1 yX1_isOnSale yX1_isOnSale, Cond.code yX1_isOnSale cX1_isOnSale 3 (some .boolean), Cond.fieldLink RX1 9 "Trumpvault$Cards" "kinds" "[I", Cond.methodLink RX1 44 yX1_takeSale, Cond.instanceMethod yX1_takeSale, Cond.selects RX1 yX1_takeSale yX1_takeSale, Cond.code yX1_takeSale cX1_takeSale 2 (some .int), Cond.fieldLink RX1 21 "Trumpvault$Cards" "salePrices" "[I", Cond.methodLink RX3 124 yX0_has, Cond.instanceMethod yX0_has, Cond.selects RX0 yX0_has yX0_has, Cond.initialized RX0, Cond.code yX0_has cX0_has 3 (some .boolean), Cond.fieldLink RX0 11 "Trumpvault$Bids" "prices" "[[I", Cond.methodLink RX3 147 yX3_giveBidBack, Cond.instanceMethod yX3_giveBidBack, Cond.selects RX3 yX3_giveBidBack yX3_giveBidBack, Cond.code yX3_giveBidBack cX3_giveBidBack 4 (some .int), Cond.fieldLink RX3 30 "Trumpvault" "purses" "[I"]
def wsX3_pass_r3 : List Cond := [Cond.methodLink RX3 118 yX0_take, Cond.instanceMethod yX0_take, Cond.selects RX0 yX0_take yX0_take, Cond.code yX0_take cX0_take 4 (some .int)]
def wsX3_pass : List Cond := .code yX3_pass cX3_pass 3 (some .int) :: ((wsX3_pass_r1 ++ (wsX3_pass_r2 ++ wsX3_pass_r3)) ++ wsX30 ++ wsX10 ++ wsX00 ++ (vx_atS RX3 154 "java/lang/IllegalArgumentException" ["java/lang/RuntimeException", "java/lang/Exception"]).filter goodWord)
def wsJ6_bitCount_0f7a4 : List Cond := .code yJ6_bitCount_0f7a4 cJ6_bitCount_0f7a4 1 (some .int) :: ([.constant RJ6 265 (1431655765), .constant RJ6 266 (858993459), .constant RJ6 267 (252645135)])
def wsX3_toggleDeck_r1 : List Cond := [Cond.fieldLink RX3 43 "Trumpvault" "decks" "[I", Cond.methodLink RX3 53 yX3_needPlayer, Cond.static yX3_needPlayer, Cond.initialized RX3, Cond.code yX3_needPlayer cX3_needPlayer 1 none, Cond.classLink RX3 197 "java/lang/IndexOutOfBoundsException", Cond.initialized "java/lang/IndexOutOfBoundsException", Cond.methodLink RX3 79 yX3_needCard, Cond.instanceMethod yX3_needCard, Cond.selects RX3 yX3_needCard yX3_needCard, Cond.code yX3_needCard cX3_needCard 2 none, Cond.fieldLink RX3 10 "Trumpvault" "cards" "LTrumpvault$Cards;", Cond.methodLink RX3 204 yX1_has, Cond.instanceMethod yX1_has, Cond.selects RX1 yX1_has yX1_has, Cond.initialized RX1, Cond.code yX1_has cX1_has 2 (some .boolean), Cond.fieldLink RX1 36 "Trumpvault$Cards" "count" "I", Cond.methodLink RX3 182 yJ6_bitCount_0f7a4, Cond.static yJ6_bitCount_0f7a4, Cond.initialized RJ6, Cond.code yJ6_bitCount_0f7a4 cJ6_bitCount_0f7a4 1 (some .int), Cond.constant RJ6 265 (1431655765), Cond.constant RJ6 266 (858993459)]
def wsX3_toggleDeck_r2 : List Cond := [Cond.constant RJ6 267 (252645135)]
def wsX3_toggleDeck : List Cond := .code yX3_toggleDeck cX3_toggleDeck 3 (some .int) :: ((wsX3_toggleDeck_r1 ++ wsX3_toggleDeck_r2) ++ wsX30 ++ wsX10 ++ (vx_atS RX3 201 "java/lang/IndexOutOfBoundsException" ["java/lang/RuntimeException", "java/lang/Exception"]).filter goodWord)
def wsX3_inDeck : List Cond := .code yX3_inDeck cX3_inDeck 3 (some .boolean) :: ([.fieldLink RX3 43 "Trumpvault" "decks" "[I"] ++ wsX30)
def wsX3_isPlayable : List Cond := .code yX3_isPlayable cX3_isPlayable 4 (some .boolean) :: ([.fieldLink RX3 10 "Trumpvault" "cards" "LTrumpvault$Cards;", .fieldLink RX3 92 "Trumpvault$Cards" "states" "[I", .fieldLink RX3 98 "Trumpvault$Cards" "kinds" "[I", .methodLink RX3 89 yX1_holderOf, .instanceMethod yX1_holderOf, .selects RX1 yX1_holderOf yX1_holderOf, .initialized RX1, .code yX1_holderOf cX1_holderOf 2 (some .int), .fieldLink RX1 18 "Trumpvault$Cards" "states" "[I", .fieldLink RX1 30 "Trumpvault$Cards" "borrowers" "[I", .fieldLink RX1 15 "Trumpvault$Cards" "owners" "[I", .methodLink RX3 101 yX3_bannedToday, .instanceMethod yX3_bannedToday, .selects RX3 yX3_bannedToday yX3_bannedToday, .initialized RX3, .code yX3_bannedToday cX3_bannedToday 2 (some .boolean), .fieldLink RX3 40 "Trumpvault" "bannedFrom" "[I", .fieldLink RX3 50 "Trumpvault" "today" "I"] ++ wsX30 ++ wsX10)
def wsX3_deckIsRight_r1 : List Cond := [Cond.fieldLink RX3 43 "Trumpvault" "decks" "[I", Cond.fieldLink RX3 10 "Trumpvault" "cards" "LTrumpvault$Cards;", Cond.fieldLink RX3 213 "Trumpvault$Cards" "count" "I", Cond.methodLink RX3 182 yJ6_bitCount_0f7a4, Cond.static yJ6_bitCount_0f7a4, Cond.initialized RJ6, Cond.code yJ6_bitCount_0f7a4 cJ6_bitCount_0f7a4 1 (some .int), Cond.constant RJ6 265 (1431655765), Cond.constant RJ6 266 (858993459), Cond.constant RJ6 267 (252645135), Cond.methodLink RX3 216 yX3_inDeck, Cond.instanceMethod yX3_inDeck, Cond.selects RX3 yX3_inDeck yX3_inDeck, Cond.initialized RX3, Cond.code yX3_inDeck cX3_inDeck 3 (some .boolean), Cond.methodLink RX3 219 yX3_isPlayable, Cond.instanceMethod yX3_isPlayable, Cond.selects RX3 yX3_isPlayable yX3_isPlayable, Cond.code yX3_isPlayable cX3_isPlayable 4 (some .boolean), Cond.fieldLink RX3 92 "Trumpvault$Cards" "states" "[I", Cond.fieldLink RX3 98 "Trumpvault$Cards" "kinds" "[I", Cond.methodLink RX3 89 yX1_holderOf, Cond.instanceMethod yX1_holderOf, Cond.selects RX1 yX1_holderOf yX1_holderOf]
def wsX3_deckIsRight_r2 : List Cond := [Cond.initialized RX1, Cond.code yX1_holderOf cX1_holderOf 2 (some .int), Cond.fieldLink RX1 18 "Trumpvault$Cards" "states" "[I", Cond.fieldLink RX1 30 "Trumpvault$Cards" "borrowers" "[I", Cond.fieldLink RX1 15 "Trumpvault$Cards" "owners" "[I", Cond.methodLink RX3 101 yX3_bannedToday, Cond.instanceMethod yX3_bannedToday, Cond.selects RX3 yX3_bannedToday yX3_bannedToday, Cond.code yX3_bannedToday cX3_bannedToday 2 (some .boolean), Cond.fieldLink RX3 40 "Trumpvault" "bannedFrom" "[I", Cond.fieldLink RX3 50 "Trumpvault" "today" "I"]
def wsX3_deckIsRight : List Cond := .code yX3_deckIsRight cX3_deckIsRight 4 (some .boolean) :: ((wsX3_deckIsRight_r1 ++ wsX3_deckIsRight_r2) ++ wsX30 ++ wsX10)
def wsX3_isRight_r1 : List Cond := [Cond.methodLink RX3 53 yX3_needPlayer, Cond.static yX3_needPlayer, Cond.initialized RX3, Cond.code yX3_needPlayer cX3_needPlayer 1 none, Cond.classLink RX3 197 "java/lang/IndexOutOfBoundsException", Cond.initialized "java/lang/IndexOutOfBoundsException", Cond.methodLink RX3 187 yX3_deckIsRight, Cond.instanceMethod yX3_deckIsRight, Cond.selects RX3 yX3_deckIsRight yX3_deckIsRight, Cond.code yX3_deckIsRight cX3_deckIsRight 4 (some .boolean), Cond.fieldLink RX3 43 "Trumpvault" "decks" "[I", Cond.fieldLink RX3 10 "Trumpvault" "cards" "LTrumpvault$Cards;", Cond.fieldLink RX3 213 "Trumpvault$Cards" "count" "I", Cond.methodLink RX3 182 yJ6_bitCount_0f7a4, Cond.static yJ6_bitCount_0f7a4, Cond.initialized RJ6, Cond.code yJ6_bitCount_0f7a4 cJ6_bitCount_0f7a4 1 (some .int), Cond.constant RJ6 265 (1431655765), Cond.constant RJ6 266 (858993459), Cond.constant RJ6 267 (252645135), Cond.methodLink RX3 216 yX3_inDeck, Cond.instanceMethod yX3_inDeck, Cond.selects RX3 yX3_inDeck yX3_inDeck, Cond.code yX3_inDeck cX3_inDeck 3 (some .boolean)]
def wsX3_isRight_r2 : List Cond := [Cond.methodLink RX3 219 yX3_isPlayable, Cond.instanceMethod yX3_isPlayable, Cond.selects RX3 yX3_isPlayable yX3_isPlayable, Cond.code yX3_isPlayable cX3_isPlayable 4 (some .boolean), Cond.fieldLink RX3 92 "Trumpvault$Cards" "states" "[I", Cond.fieldLink RX3 98 "Trumpvault$Cards" "kinds" "[I", Cond.methodLink RX3 89 yX1_holderOf, Cond.instanceMethod yX1_holderOf, Cond.selects RX1 yX1_holderOf yX1_holderOf, Cond.initialized RX1, Cond.code yX1_holderOf cX1_holderOf 2 (some .int), Cond.fieldLink RX1 18 "Trumpvault$Cards" "states" "[I", Cond.fieldLink RX1 30 "Trumpvault$Cards" "borrowers" "[I", Cond.fieldLink RX1 15 "Trumpvault$Cards" "owners" "[I", Cond.methodLink RX3 101 yX3_bannedToday, Cond.instanceMethod yX3_bannedToday, Cond.selects RX3 yX3_bannedToday yX3_bannedToday, Cond.code yX3_bannedToday cX3_bannedToday 2 (some .boolean), Cond.fieldLink RX3 40 "Trumpvault" "bannedFrom" "[I", Cond.fieldLink RX3 50 "Trumpvault" "today" "I"]
def wsX3_isRight : List Cond := .code yX3_isRight cX3_isRight 2 (some .boolean) :: ((wsX3_isRight_r1 ++ wsX3_isRight_r2) ++ wsX30 ++ wsX10 ++ (vx_atS RX3 201 "java/lang/IndexOutOfBoundsException" ["java/lang/RuntimeException", "java/lang/Exception"]).filter goodWord)
def wsX3_deckStrength : List Cond := .code yX3_deckStrength cX3_deckStrength 4 (some .int) :: ([.fieldLink RX3 10 "Trumpvault" "cards" "LTrumpvault$Cards;", .fieldLink RX3 213 "Trumpvault$Cards" "count" "I", .fieldLink RX3 98 "Trumpvault$Cards" "kinds" "[I", .methodLink RX3 216 yX3_inDeck, .instanceMethod yX3_inDeck, .selects RX3 yX3_inDeck yX3_inDeck, .initialized RX3, .code yX3_inDeck cX3_inDeck 3 (some .boolean), .fieldLink RX3 43 "Trumpvault" "decks" "[I"] ++ wsX30 ++ wsX10)
def wsX3_strength : List Cond := .code yX3_strength cX3_strength 2 (some .int) :: ([.methodLink RX3 53 yX3_needPlayer, .static yX3_needPlayer, .initialized RX3, .code yX3_needPlayer cX3_needPlayer 1 none, .classLink RX3 197 "java/lang/IndexOutOfBoundsException", .initialized "java/lang/IndexOutOfBoundsException", .methodLink RX3 190 yX3_deckStrength, .instanceMethod yX3_deckStrength, .selects RX3 yX3_deckStrength yX3_deckStrength, .code yX3_deckStrength cX3_deckStrength 4 (some .int), .fieldLink RX3 10 "Trumpvault" "cards" "LTrumpvault$Cards;", .fieldLink RX3 213 "Trumpvault$Cards" "count" "I", .fieldLink RX3 98 "Trumpvault$Cards" "kinds" "[I", .methodLink RX3 216 yX3_inDeck, .instanceMethod yX3_inDeck, .selects RX3 yX3_inDeck yX3_inDeck, .code yX3_inDeck cX3_inDeck 3 (some .boolean), .fieldLink RX3 43 "Trumpvault" "decks" "[I"] ++ wsX30 ++ wsX10 ++ (vx_atS RX3 201 "java/lang/IndexOutOfBoundsException" ["java/lang/RuntimeException", "java/lang/Exception"]).filter goodWord)
def wsX3_play_r1 : List Cond := [Cond.classLink RX3 150 "java/lang/IllegalArgumentException", Cond.initialized "java/lang/IllegalArgumentException", Cond.classLink RX3 64 "java/lang/IllegalStateException", Cond.initialized "java/lang/IllegalStateException", Cond.fieldLink RX3 30 "Trumpvault" "purses" "[I", Cond.methodLink RX3 53 yX3_needPlayer, Cond.static yX3_needPlayer, Cond.initialized RX3, Cond.code yX3_needPlayer cX3_needPlayer 1 none, Cond.classLink RX3 197 "java/lang/IndexOutOfBoundsException", Cond.initialized "java/lang/IndexOutOfBoundsException", Cond.methodLink RX3 187 yX3_deckIsRight, Cond.instanceMethod yX3_deckIsRight, Cond.selects RX3 yX3_deckIsRight yX3_deckIsRight, Cond.code yX3_deckIsRight cX3_deckIsRight 4 (some .boolean), Cond.fieldLink RX3 43 "Trumpvault" "decks" "[I", Cond.fieldLink RX3 10 "Trumpvault" "cards" "LTrumpvault$Cards;", Cond.fieldLink RX3 213 "Trumpvault$Cards" "count" "I", Cond.methodLink RX3 182 yJ6_bitCount_0f7a4, Cond.static yJ6_bitCount_0f7a4, Cond.initialized RJ6, Cond.code yJ6_bitCount_0f7a4 cJ6_bitCount_0f7a4 1 (some .int), Cond.constant RJ6 265 (1431655765), Cond.constant RJ6 266 (858993459)]
def wsX3_play_r2 : List Cond := [Cond.constant RJ6 267 (252645135), Cond.methodLink RX3 216 yX3_inDeck, Cond.instanceMethod yX3_inDeck, Cond.selects RX3 yX3_inDeck yX3_inDeck, Cond.code yX3_inDeck cX3_inDeck 3 (some .boolean), Cond.methodLink RX3 219 yX3_isPlayable, Cond.instanceMethod yX3_isPlayable, Cond.selects RX3 yX3_isPlayable yX3_isPlayable, Cond.code yX3_isPlayable cX3_isPlayable 4 (some .boolean), Cond.fieldLink RX3 92 "Trumpvault$Cards" "states" "[I", Cond.fieldLink RX3 98 "Trumpvault$Cards" "kinds" "[I", Cond.methodLink RX3 89 yX1_holderOf, Cond.instanceMethod yX1_holderOf, Cond.selects RX1 yX1_holderOf yX1_holderOf, Cond.initialized RX1, Cond.code yX1_holderOf cX1_holderOf 2 (some .int), Cond.fieldLink RX1 18 "Trumpvault$Cards" "states" "[I", Cond.fieldLink RX1 30 "Trumpvault$Cards" "borrowers" "[I", Cond.fieldLink RX1 15 "Trumpvault$Cards" "owners" "[I", Cond.methodLink RX3 101 yX3_bannedToday, Cond.instanceMethod yX3_bannedToday, Cond.selects RX3 yX3_bannedToday yX3_bannedToday, Cond.code yX3_bannedToday cX3_bannedToday 2 (some .boolean), Cond.fieldLink RX3 40 "Trumpvault" "bannedFrom" "[I"]
def wsX3_play_r3 : List Cond := [Cond.fieldLink RX3 50 "Trumpvault" "today" "I", Cond.methodLink RX3 190 yX3_deckStrength, Cond.instanceMethod yX3_deckStrength, Cond.selects RX3 yX3_deckStrength yX3_deckStrength, Cond.code yX3_deckStrength cX3_deckStrength 4 (some .int)]
def wsX3_play : List Cond := .code yX3_play cX3_play 4 (some .int) :: ((wsX3_play_r1 ++ (wsX3_play_r2 ++ wsX3_play_r3)) ++ wsX30 ++ wsX10 ++ (vx_atS RX3 154 "java/lang/IllegalArgumentException" ["java/lang/RuntimeException", "java/lang/Exception"]).filter goodWord ++ (vx_atS RX3 68 "java/lang/IllegalStateException" ["java/lang/RuntimeException", "java/lang/Exception"]).filter goodWord ++ (vx_atS RX3 201 "java/lang/IndexOutOfBoundsException" ["java/lang/RuntimeException", "java/lang/Exception"]).filter goodWord)
def wsX4_init : List Cond := .code yX4_init cX4_init 2 none :: ([.methodLink RX4 1 objectInit, .instanceMethod objectInit, .code objectInit ⟨#[0xb1]⟩ 1 none, .arrayClass .int, .fieldLink RX4 7 "TrumpvaultModel" "coins" "[I", .fieldLink RX4 13 "TrumpvaultModel" "kindOf" "[I", .fieldLink RX4 16 "TrumpvaultModel" "owner" "[I", .fieldLink RX4 19 "TrumpvaultModel" "state" "[I", .fieldLink RX4 22 "TrumpvaultModel" "price" "[I", .fieldLink RX4 25 "TrumpvaultModel" "number" "[I", .fieldLink RX4 28 "TrumpvaultModel" "swapFor" "[I", .fieldLink RX4 31 "TrumpvaultModel" "holder" "[I", .fieldLink RX4 34 "TrumpvaultModel" "back" "[I", .fieldLink RX4 37 "TrumpvaultModel" "bidPrice" "[I", .fieldLink RX4 40 "TrumpvaultModel" "bidNumber" "[I", .fieldLink RX4 43 "TrumpvaultModel" "banDay" "[I", .fieldLink RX4 46 "TrumpvaultModel" "deck" "[I", .constant RX4 49 (1000000)] ++ wsX40)
def wsX4_thrown : List Cond := .code yX4_thrown cX4_thrown 1 (some .int) :: ([.fieldLink RX4 50 "TrumpvaultModel" "thrown" "I"] ++ wsX40)
def wsX4_in : List Cond := .code yX4_in cX4_in 3 (some .boolean) :: ([])
def wsX4_asked : List Cond := .code yX4_asked cX4_asked 2 (some .boolean) :: ([.fieldLink RX4 50 "TrumpvaultModel" "thrown" "I"] ++ wsX40)
def wsX4_asked_ : List Cond := .code yX4_asked_ cX4_asked_ 3 (some .boolean) :: ([.fieldLink RX4 50 "TrumpvaultModel" "thrown" "I"] ++ wsX40)
def wsX4_asked__ : List Cond := .code yX4_asked__ cX4_asked__ 4 (some .boolean) :: ([.fieldLink RX4 50 "TrumpvaultModel" "thrown" "I"] ++ wsX40)
def wsX4_isPlayer : List Cond := .code yX4_isPlayer cX4_isPlayer 1 (some .boolean) :: ([.methodLink RX4 54 yX4_in, .static yX4_in, .initialized RX4, .code yX4_in cX4_in 3 (some .boolean)])
def wsX4_isKind : List Cond := .code yX4_isKind cX4_isKind 1 (some .boolean) :: ([.methodLink RX4 54 yX4_in, .static yX4_in, .initialized RX4, .code yX4_in cX4_in 3 (some .boolean)])
def wsX4_isCard : List Cond := .code yX4_isCard cX4_isCard 2 (some .boolean) :: ([.fieldLink RX4 58 "TrumpvaultModel" "cards" "I", .methodLink RX4 54 yX4_in, .static yX4_in, .initialized RX4, .code yX4_in cX4_in 3 (some .boolean)] ++ wsX40)
def wsX4_banned : List Cond := .code yX4_banned cX4_banned 2 (some .boolean) :: ([.fieldLink RX4 43 "TrumpvaultModel" "banDay" "[I", .fieldLink RX4 61 "TrumpvaultModel" "today" "I"] ++ wsX40)
def wsX4_mint : List Cond := .code yX4_mint cX4_mint 3 (some .int) :: ([.fieldLink RX4 58 "TrumpvaultModel" "cards" "I", .fieldLink RX4 13 "TrumpvaultModel" "kindOf" "[I", .fieldLink RX4 16 "TrumpvaultModel" "owner" "[I", .fieldLink RX4 19 "TrumpvaultModel" "state" "[I", .methodLink RX4 64 yX4_isPlayer, .static yX4_isPlayer, .initialized RX4, .code yX4_isPlayer cX4_isPlayer 1 (some .boolean), .methodLink RX4 54 yX4_in, .static yX4_in, .code yX4_in cX4_in 3 (some .boolean), .methodLink RX4 68 yX4_isKind, .static yX4_isKind, .code yX4_isKind cX4_isKind 1 (some .boolean), .methodLink RX4 71 yX4_asked_, .instanceMethod yX4_asked_, .selects RX4 yX4_asked_ yX4_asked_, .code yX4_asked_ cX4_asked_ 3 (some .boolean), .fieldLink RX4 50 "TrumpvaultModel" "thrown" "I"] ++ wsX40)
def wsX4_owner : List Cond := .code yX4_owner cX4_owner 2 (some .int) :: ([.fieldLink RX4 16 "TrumpvaultModel" "owner" "[I", .methodLink RX4 75 yX4_isCard, .instanceMethod yX4_isCard, .selects RX4 yX4_isCard yX4_isCard, .initialized RX4, .code yX4_isCard cX4_isCard 2 (some .boolean), .fieldLink RX4 58 "TrumpvaultModel" "cards" "I", .methodLink RX4 54 yX4_in, .static yX4_in, .code yX4_in cX4_in 3 (some .boolean), .methodLink RX4 78 yX4_asked, .instanceMethod yX4_asked, .selects RX4 yX4_asked yX4_asked, .code yX4_asked cX4_asked 2 (some .boolean), .fieldLink RX4 50 "TrumpvaultModel" "thrown" "I"] ++ wsX40)
def wsX4_ownerByHistory : List Cond := .code yX4_ownerByHistory cX4_ownerByHistory 2 (some .int) :: ([.methodLink RX4 81 yX4_owner, .instanceMethod yX4_owner, .selects RX4 yX4_owner yX4_owner, .initialized RX4, .code yX4_owner cX4_owner 2 (some .int), .fieldLink RX4 16 "TrumpvaultModel" "owner" "[I", .methodLink RX4 75 yX4_isCard, .instanceMethod yX4_isCard, .selects RX4 yX4_isCard yX4_isCard, .code yX4_isCard cX4_isCard 2 (some .boolean), .fieldLink RX4 58 "TrumpvaultModel" "cards" "I", .methodLink RX4 54 yX4_in, .static yX4_in, .code yX4_in cX4_in 3 (some .boolean), .methodLink RX4 78 yX4_asked, .instanceMethod yX4_asked, .selects RX4 yX4_asked yX4_asked, .code yX4_asked cX4_asked 2 (some .boolean), .fieldLink RX4 50 "TrumpvaultModel" "thrown" "I"] ++ wsX40)
def wsX4_holds : List Cond := .code yX4_holds cX4_holds 2 (some .int) :: ([.fieldLink RX4 19 "TrumpvaultModel" "state" "[I", .fieldLink RX4 31 "TrumpvaultModel" "holder" "[I", .fieldLink RX4 16 "TrumpvaultModel" "owner" "[I"] ++ wsX40)
def wsX4_holder : List Cond := .code yX4_holder cX4_holder 2 (some .int) :: ([.methodLink RX4 75 yX4_isCard, .instanceMethod yX4_isCard, .selects RX4 yX4_isCard yX4_isCard, .initialized RX4, .code yX4_isCard cX4_isCard 2 (some .boolean), .fieldLink RX4 58 "TrumpvaultModel" "cards" "I", .methodLink RX4 54 yX4_in, .static yX4_in, .code yX4_in cX4_in 3 (some .boolean), .methodLink RX4 78 yX4_asked, .instanceMethod yX4_asked, .selects RX4 yX4_asked yX4_asked, .code yX4_asked cX4_asked 2 (some .boolean), .fieldLink RX4 50 "TrumpvaultModel" "thrown" "I", .methodLink RX4 84 yX4_holds, .instanceMethod yX4_holds, .selects RX4 yX4_holds yX4_holds, .code yX4_holds cX4_holds 2 (some .int), .fieldLink RX4 19 "TrumpvaultModel" "state" "[I", .fieldLink RX4 31 "TrumpvaultModel" "holder" "[I", .fieldLink RX4 16 "TrumpvaultModel" "owner" "[I"] ++ wsX40)
def wsX4_stateOf : List Cond := .code yX4_stateOf cX4_stateOf 2 (some .int) :: ([.fieldLink RX4 19 "TrumpvaultModel" "state" "[I", .methodLink RX4 75 yX4_isCard, .instanceMethod yX4_isCard, .selects RX4 yX4_isCard yX4_isCard, .initialized RX4, .code yX4_isCard cX4_isCard 2 (some .boolean), .fieldLink RX4 58 "TrumpvaultModel" "cards" "I", .methodLink RX4 54 yX4_in, .static yX4_in, .code yX4_in cX4_in 3 (some .boolean), .methodLink RX4 78 yX4_asked, .instanceMethod yX4_asked, .selects RX4 yX4_asked yX4_asked, .code yX4_asked cX4_asked 2 (some .boolean), .fieldLink RX4 50 "TrumpvaultModel" "thrown" "I"] ++ wsX40)
def wsX4_coins : List Cond := .code yX4_coins cX4_coins 2 (some .int) :: ([.fieldLink RX4 7 "TrumpvaultModel" "coins" "[I", .methodLink RX4 64 yX4_isPlayer, .static yX4_isPlayer, .initialized RX4, .code yX4_isPlayer cX4_isPlayer 1 (some .boolean), .methodLink RX4 54 yX4_in, .static yX4_in, .code yX4_in cX4_in 3 (some .boolean), .methodLink RX4 78 yX4_asked, .instanceMethod yX4_asked, .selects RX4 yX4_asked yX4_asked, .code yX4_asked cX4_asked 2 (some .boolean), .fieldLink RX4 50 "TrumpvaultModel" "thrown" "I"] ++ wsX40)
def wsX4_bidder : List Cond := .code yX4_bidder cX4_bidder 7 (some .int) :: ([.fieldLink RX4 37 "TrumpvaultModel" "bidPrice" "[I", .fieldLink RX4 40 "TrumpvaultModel" "bidNumber" "[I"] ++ wsX40)
def wsX4_offer : List Cond := .code yX4_offer cX4_offer 6 (some .int) :: ([.fieldLink RX4 58 "TrumpvaultModel" "cards" "I", .fieldLink RX4 19 "TrumpvaultModel" "state" "[I", .fieldLink RX4 13 "TrumpvaultModel" "kindOf" "[I", .fieldLink RX4 16 "TrumpvaultModel" "owner" "[I", .fieldLink RX4 22 "TrumpvaultModel" "price" "[I", .fieldLink RX4 25 "TrumpvaultModel" "number" "[I"] ++ wsX40)
def wsX4_sell_r1 : List Cond := [Cond.fieldLink RX4 19 "TrumpvaultModel" "state" "[I", Cond.fieldLink RX4 13 "TrumpvaultModel" "kindOf" "[I", Cond.fieldLink RX4 93 "TrumpvaultModel" "made" "I", Cond.fieldLink RX4 16 "TrumpvaultModel" "owner" "[I", Cond.fieldLink RX4 37 "TrumpvaultModel" "bidPrice" "[I", Cond.fieldLink RX4 7 "TrumpvaultModel" "coins" "[I", Cond.fieldLink RX4 22 "TrumpvaultModel" "price" "[I", Cond.fieldLink RX4 25 "TrumpvaultModel" "number" "[I", Cond.methodLink RX4 75 yX4_isCard, Cond.instanceMethod yX4_isCard, Cond.selects RX4 yX4_isCard yX4_isCard, Cond.initialized RX4, Cond.code yX4_isCard cX4_isCard 2 (some .boolean), Cond.fieldLink RX4 58 "TrumpvaultModel" "cards" "I", Cond.methodLink RX4 54 yX4_in, Cond.static yX4_in, Cond.code yX4_in cX4_in 3 (some .boolean), Cond.methodLink RX4 87 yX4_banned, Cond.instanceMethod yX4_banned, Cond.selects RX4 yX4_banned yX4_banned, Cond.code yX4_banned cX4_banned 2 (some .boolean), Cond.fieldLink RX4 43 "TrumpvaultModel" "banDay" "[I", Cond.fieldLink RX4 61 "TrumpvaultModel" "today" "I", Cond.methodLink RX4 90 yX4_asked__]
def wsX4_sell_r2 : List Cond := [Cond.instanceMethod yX4_asked__, Cond.selects RX4 yX4_asked__ yX4_asked__, Cond.code yX4_asked__ cX4_asked__ 4 (some .boolean), Cond.fieldLink RX4 50 "TrumpvaultModel" "thrown" "I", Cond.methodLink RX4 96 yX4_bidder, Cond.instanceMethod yX4_bidder, Cond.selects RX4 yX4_bidder yX4_bidder, Cond.code yX4_bidder cX4_bidder 7 (some .int), Cond.fieldLink RX4 40 "TrumpvaultModel" "bidNumber" "[I"]
def wsX4_sell : List Cond := .code yX4_sell cX4_sell 7 (some .int) :: ((wsX4_sell_r1 ++ wsX4_sell_r2) ++ wsX40)
def wsX4_bid_r1 : List Cond := [Cond.fieldLink RX4 7 "TrumpvaultModel" "coins" "[I", Cond.fieldLink RX4 37 "TrumpvaultModel" "bidPrice" "[I", Cond.fieldLink RX4 93 "TrumpvaultModel" "made" "I", Cond.fieldLink RX4 22 "TrumpvaultModel" "price" "[I", Cond.fieldLink RX4 16 "TrumpvaultModel" "owner" "[I", Cond.fieldLink RX4 19 "TrumpvaultModel" "state" "[I", Cond.fieldLink RX4 40 "TrumpvaultModel" "bidNumber" "[I", Cond.methodLink RX4 64 yX4_isPlayer, Cond.static yX4_isPlayer, Cond.initialized RX4, Cond.code yX4_isPlayer cX4_isPlayer 1 (some .boolean), Cond.methodLink RX4 54 yX4_in, Cond.static yX4_in, Cond.code yX4_in cX4_in 3 (some .boolean), Cond.methodLink RX4 68 yX4_isKind, Cond.static yX4_isKind, Cond.code yX4_isKind cX4_isKind 1 (some .boolean), Cond.methodLink RX4 87 yX4_banned, Cond.instanceMethod yX4_banned, Cond.selects RX4 yX4_banned yX4_banned, Cond.code yX4_banned cX4_banned 2 (some .boolean), Cond.fieldLink RX4 43 "TrumpvaultModel" "banDay" "[I", Cond.fieldLink RX4 61 "TrumpvaultModel" "today" "I", Cond.methodLink RX4 90 yX4_asked__]
def wsX4_bid_r2 : List Cond := [Cond.instanceMethod yX4_asked__, Cond.selects RX4 yX4_asked__ yX4_asked__, Cond.code yX4_asked__ cX4_asked__ 4 (some .boolean), Cond.fieldLink RX4 50 "TrumpvaultModel" "thrown" "I", Cond.methodLink RX4 100 yX4_offer, Cond.instanceMethod yX4_offer, Cond.selects RX4 yX4_offer yX4_offer, Cond.code yX4_offer cX4_offer 6 (some .int), Cond.fieldLink RX4 58 "TrumpvaultModel" "cards" "I", Cond.fieldLink RX4 13 "TrumpvaultModel" "kindOf" "[I", Cond.fieldLink RX4 25 "TrumpvaultModel" "number" "[I"]
def wsX4_bid : List Cond := .code yX4_bid cX4_bid 6 (some .int) :: ((wsX4_bid_r1 ++ wsX4_bid_r2) ++ wsX40)
def wsX4_cancelSale : List Cond := .code yX4_cancelSale cX4_cancelSale 3 (some .int) :: ([.fieldLink RX4 19 "TrumpvaultModel" "state" "[I", .fieldLink RX4 22 "TrumpvaultModel" "price" "[I", .methodLink RX4 75 yX4_isCard, .instanceMethod yX4_isCard, .selects RX4 yX4_isCard yX4_isCard, .initialized RX4, .code yX4_isCard cX4_isCard 2 (some .boolean), .fieldLink RX4 58 "TrumpvaultModel" "cards" "I", .methodLink RX4 54 yX4_in, .static yX4_in, .code yX4_in cX4_in 3 (some .boolean), .methodLink RX4 71 yX4_asked_, .instanceMethod yX4_asked_, .selects RX4 yX4_asked_ yX4_asked_, .code yX4_asked_ cX4_asked_ 3 (some .boolean), .fieldLink RX4 50 "TrumpvaultModel" "thrown" "I"] ++ wsX40)
def wsX4_cancelBid : List Cond := .code yX4_cancelBid cX4_cancelBid 5 (some .int) :: ([.fieldLink RX4 37 "TrumpvaultModel" "bidPrice" "[I", .fieldLink RX4 7 "TrumpvaultModel" "coins" "[I", .methodLink RX4 64 yX4_isPlayer, .static yX4_isPlayer, .initialized RX4, .code yX4_isPlayer cX4_isPlayer 1 (some .boolean), .methodLink RX4 54 yX4_in, .static yX4_in, .code yX4_in cX4_in 3 (some .boolean), .methodLink RX4 68 yX4_isKind, .static yX4_isKind, .code yX4_isKind cX4_isKind 1 (some .boolean), .methodLink RX4 71 yX4_asked_, .instanceMethod yX4_asked_, .selects RX4 yX4_asked_ yX4_asked_, .code yX4_asked_ cX4_asked_ 3 (some .boolean), .fieldLink RX4 50 "TrumpvaultModel" "thrown" "I"] ++ wsX40)
def wsX4_leastSale : List Cond := .code yX4_leastSale cX4_leastSale 3 (some .int) :: ([.fieldLink RX4 22 "TrumpvaultModel" "price" "[I", .methodLink RX4 68 yX4_isKind, .static yX4_isKind, .initialized RX4, .code yX4_isKind cX4_isKind 1 (some .boolean), .methodLink RX4 54 yX4_in, .static yX4_in, .code yX4_in cX4_in 3 (some .boolean), .methodLink RX4 78 yX4_asked, .instanceMethod yX4_asked, .selects RX4 yX4_asked yX4_asked, .code yX4_asked cX4_asked 2 (some .boolean), .fieldLink RX4 50 "TrumpvaultModel" "thrown" "I", .methodLink RX4 100 yX4_offer, .instanceMethod yX4_offer, .selects RX4 yX4_offer yX4_offer, .code yX4_offer cX4_offer 6 (some .int), .fieldLink RX4 58 "TrumpvaultModel" "cards" "I", .fieldLink RX4 19 "TrumpvaultModel" "state" "[I", .fieldLink RX4 13 "TrumpvaultModel" "kindOf" "[I", .fieldLink RX4 16 "TrumpvaultModel" "owner" "[I", .fieldLink RX4 25 "TrumpvaultModel" "number" "[I"] ++ wsX40)
def wsX4_greatestBid : List Cond := .code yX4_greatestBid cX4_greatestBid 3 (some .int) :: ([.fieldLink RX4 37 "TrumpvaultModel" "bidPrice" "[I", .methodLink RX4 68 yX4_isKind, .static yX4_isKind, .initialized RX4, .code yX4_isKind cX4_isKind 1 (some .boolean), .methodLink RX4 54 yX4_in, .static yX4_in, .code yX4_in cX4_in 3 (some .boolean), .methodLink RX4 78 yX4_asked, .instanceMethod yX4_asked, .selects RX4 yX4_asked yX4_asked, .code yX4_asked cX4_asked 2 (some .boolean), .fieldLink RX4 50 "TrumpvaultModel" "thrown" "I", .methodLink RX4 96 yX4_bidder, .instanceMethod yX4_bidder, .selects RX4 yX4_bidder yX4_bidder, .code yX4_bidder cX4_bidder 7 (some .int), .fieldLink RX4 40 "TrumpvaultModel" "bidNumber" "[I"] ++ wsX40)
def wsX4_swap : List Cond := .code yX4_swap cX4_swap 4 none :: ([.fieldLink RX4 16 "TrumpvaultModel" "owner" "[I", .fieldLink RX4 19 "TrumpvaultModel" "state" "[I", .fieldLink RX4 28 "TrumpvaultModel" "swapFor" "[I", .methodLink RX4 75 yX4_isCard, .instanceMethod yX4_isCard, .selects RX4 yX4_isCard yX4_isCard, .initialized RX4, .code yX4_isCard cX4_isCard 2 (some .boolean), .fieldLink RX4 58 "TrumpvaultModel" "cards" "I", .methodLink RX4 54 yX4_in, .static yX4_in, .code yX4_in cX4_in 3 (some .boolean), .methodLink RX4 90 yX4_asked__, .instanceMethod yX4_asked__, .selects RX4 yX4_asked__ yX4_asked__, .code yX4_asked__ cX4_asked__ 4 (some .boolean), .fieldLink RX4 50 "TrumpvaultModel" "thrown" "I"] ++ wsX40)
def wsX4_agree : List Cond := .code yX4_agree cX4_agree 6 (some .int) :: ([.fieldLink RX4 19 "TrumpvaultModel" "state" "[I", .fieldLink RX4 28 "TrumpvaultModel" "swapFor" "[I", .fieldLink RX4 16 "TrumpvaultModel" "owner" "[I", .methodLink RX4 75 yX4_isCard, .instanceMethod yX4_isCard, .selects RX4 yX4_isCard yX4_isCard, .initialized RX4, .code yX4_isCard cX4_isCard 2 (some .boolean), .fieldLink RX4 58 "TrumpvaultModel" "cards" "I", .methodLink RX4 54 yX4_in, .static yX4_in, .code yX4_in cX4_in 3 (some .boolean), .methodLink RX4 71 yX4_asked_, .instanceMethod yX4_asked_, .selects RX4 yX4_asked_ yX4_asked_, .code yX4_asked_ cX4_asked_ 3 (some .boolean), .fieldLink RX4 50 "TrumpvaultModel" "thrown" "I"] ++ wsX40)
def wsX4_cancelSwap : List Cond := .code yX4_cancelSwap cX4_cancelSwap 3 none :: ([.fieldLink RX4 19 "TrumpvaultModel" "state" "[I", .methodLink RX4 75 yX4_isCard, .instanceMethod yX4_isCard, .selects RX4 yX4_isCard yX4_isCard, .initialized RX4, .code yX4_isCard cX4_isCard 2 (some .boolean), .fieldLink RX4 58 "TrumpvaultModel" "cards" "I", .methodLink RX4 54 yX4_in, .static yX4_in, .code yX4_in cX4_in 3 (some .boolean), .methodLink RX4 71 yX4_asked_, .instanceMethod yX4_asked_, .selects RX4 yX4_asked_ yX4_asked_, .code yX4_asked_ cX4_asked_ 3 (some .boolean), .fieldLink RX4 50 "TrumpvaultModel" "thrown" "I"] ++ wsX40)
def wsX4_lend : List Cond := .code yX4_lend cX4_lend 5 (some .int) :: ([.fieldLink RX4 16 "TrumpvaultModel" "owner" "[I", .fieldLink RX4 19 "TrumpvaultModel" "state" "[I", .fieldLink RX4 31 "TrumpvaultModel" "holder" "[I", .fieldLink RX4 34 "TrumpvaultModel" "back" "[I", .fieldLink RX4 61 "TrumpvaultModel" "today" "I", .methodLink RX4 75 yX4_isCard, .instanceMethod yX4_isCard, .selects RX4 yX4_isCard yX4_isCard, .initialized RX4, .code yX4_isCard cX4_isCard 2 (some .boolean), .fieldLink RX4 58 "TrumpvaultModel" "cards" "I", .methodLink RX4 54 yX4_in, .static yX4_in, .code yX4_in cX4_in 3 (some .boolean), .methodLink RX4 64 yX4_isPlayer, .static yX4_isPlayer, .code yX4_isPlayer cX4_isPlayer 1 (some .boolean), .methodLink RX4 90 yX4_asked__, .instanceMethod yX4_asked__, .selects RX4 yX4_asked__ yX4_asked__, .code yX4_asked__ cX4_asked__ 4 (some .boolean), .fieldLink RX4 50 "TrumpvaultModel" "thrown" "I"] ++ wsX40)
def wsX4_clears : List Cond := .code yX4_clears cX4_clears 5 (some .int) :: ([.fieldLink RX4 58 "TrumpvaultModel" "cards" "I", .fieldLink RX4 19 "TrumpvaultModel" "state" "[I", .fieldLink RX4 13 "TrumpvaultModel" "kindOf" "[I", .fieldLink RX4 37 "TrumpvaultModel" "bidPrice" "[I", .fieldLink RX4 7 "TrumpvaultModel" "coins" "[I"] ++ wsX40)
def wsX4_ban_r1 : List Cond := [Cond.fieldLink RX4 61 "TrumpvaultModel" "today" "I", Cond.fieldLink RX4 43 "TrumpvaultModel" "banDay" "[I", Cond.methodLink RX4 68 yX4_isKind, Cond.static yX4_isKind, Cond.initialized RX4, Cond.code yX4_isKind cX4_isKind 1 (some .boolean), Cond.methodLink RX4 54 yX4_in, Cond.static yX4_in, Cond.code yX4_in cX4_in 3 (some .boolean), Cond.methodLink RX4 71 yX4_asked_, Cond.instanceMethod yX4_asked_, Cond.selects RX4 yX4_asked_ yX4_asked_, Cond.code yX4_asked_ cX4_asked_ 3 (some .boolean), Cond.fieldLink RX4 50 "TrumpvaultModel" "thrown" "I", Cond.methodLink RX4 87 yX4_banned, Cond.instanceMethod yX4_banned, Cond.selects RX4 yX4_banned yX4_banned, Cond.code yX4_banned cX4_banned 2 (some .boolean), Cond.methodLink RX4 103 yX4_clears, Cond.instanceMethod yX4_clears, Cond.selects RX4 yX4_clears yX4_clears, Cond.code yX4_clears cX4_clears 5 (some .int), Cond.fieldLink RX4 58 "TrumpvaultModel" "cards" "I", Cond.fieldLink RX4 19 "TrumpvaultModel" "state" "[I"]
def wsX4_ban_r2 : List Cond := [Cond.fieldLink RX4 13 "TrumpvaultModel" "kindOf" "[I", Cond.fieldLink RX4 37 "TrumpvaultModel" "bidPrice" "[I", Cond.fieldLink RX4 7 "TrumpvaultModel" "coins" "[I"]
def wsX4_ban : List Cond := .code yX4_ban cX4_ban 3 (some .int) :: ((wsX4_ban_r1 ++ wsX4_ban_r2) ++ wsX40)
def wsX4_lift : List Cond := .code yX4_lift cX4_lift 3 (some .boolean) :: ([.fieldLink RX4 43 "TrumpvaultModel" "banDay" "[I", .constant RX4 49 (1000000), .methodLink RX4 68 yX4_isKind, .static yX4_isKind, .initialized RX4, .code yX4_isKind cX4_isKind 1 (some .boolean), .methodLink RX4 54 yX4_in, .static yX4_in, .code yX4_in cX4_in 3 (some .boolean), .methodLink RX4 78 yX4_asked, .instanceMethod yX4_asked, .selects RX4 yX4_asked yX4_asked, .code yX4_asked cX4_asked 2 (some .boolean), .fieldLink RX4 50 "TrumpvaultModel" "thrown" "I"] ++ wsX40)
def wsX4_isBanned : List Cond := .code yX4_isBanned cX4_isBanned 2 (some .boolean) :: ([.methodLink RX4 68 yX4_isKind, .static yX4_isKind, .initialized RX4, .code yX4_isKind cX4_isKind 1 (some .boolean), .methodLink RX4 54 yX4_in, .static yX4_in, .code yX4_in cX4_in 3 (some .boolean), .methodLink RX4 78 yX4_asked, .instanceMethod yX4_asked, .selects RX4 yX4_asked yX4_asked, .code yX4_asked cX4_asked 2 (some .boolean), .fieldLink RX4 50 "TrumpvaultModel" "thrown" "I", .methodLink RX4 87 yX4_banned, .instanceMethod yX4_banned, .selects RX4 yX4_banned yX4_banned, .code yX4_banned cX4_banned 2 (some .boolean), .fieldLink RX4 43 "TrumpvaultModel" "banDay" "[I", .fieldLink RX4 61 "TrumpvaultModel" "today" "I"] ++ wsX40)
def wsX4_pass_r1 : List Cond := [Cond.fieldLink RX4 61 "TrumpvaultModel" "today" "I", Cond.fieldLink RX4 58 "TrumpvaultModel" "cards" "I", Cond.fieldLink RX4 19 "TrumpvaultModel" "state" "[I", Cond.fieldLink RX4 34 "TrumpvaultModel" "back" "[I", Cond.methodLink RX4 54 yX4_in, Cond.static yX4_in, Cond.initialized RX4, Cond.code yX4_in cX4_in 3 (some .boolean), Cond.methodLink RX4 78 yX4_asked, Cond.instanceMethod yX4_asked, Cond.selects RX4 yX4_asked yX4_asked, Cond.code yX4_asked cX4_asked 2 (some .boolean), Cond.fieldLink RX4 50 "TrumpvaultModel" "thrown" "I", Cond.methodLink RX4 87 yX4_banned, Cond.instanceMethod yX4_banned, Cond.selects RX4 yX4_banned yX4_banned, Cond.code yX4_banned cX4_banned 2 (some .boolean), Cond.fieldLink RX4 43 "TrumpvaultModel" "banDay" "[I", Cond.methodLink RX4 103 yX4_clears, Cond.instanceMethod yX4_clears, Cond.selects RX4 yX4_clears yX4_clears, Cond.code yX4_clears cX4_clears 5 (some .int), Cond.fieldLink RX4 13 "TrumpvaultModel" "kindOf" "[I", Cond.fieldLink RX4 37 "TrumpvaultModel" "bidPrice" "[I"]
def wsX4_pass_r2 : List Cond := [Cond.fieldLink RX4 7 "TrumpvaultModel" "coins" "[I"]
def wsX4_pass : List Cond := .code yX4_pass cX4_pass 3 (some .int) :: ((wsX4_pass_r1 ++ wsX4_pass_r2) ++ wsX40)
def wsX4_size : List Cond := .code yX4_size cX4_size 4 (some .int) :: ([.fieldLink RX4 58 "TrumpvaultModel" "cards" "I", .fieldLink RX4 46 "TrumpvaultModel" "deck" "[I"] ++ wsX40)
def wsX4_toggleDeck : List Cond := .code yX4_toggleDeck cX4_toggleDeck 3 (some .int) :: ([.fieldLink RX4 46 "TrumpvaultModel" "deck" "[I", .methodLink RX4 64 yX4_isPlayer, .static yX4_isPlayer, .initialized RX4, .code yX4_isPlayer cX4_isPlayer 1 (some .boolean), .methodLink RX4 54 yX4_in, .static yX4_in, .code yX4_in cX4_in 3 (some .boolean), .methodLink RX4 75 yX4_isCard, .instanceMethod yX4_isCard, .selects RX4 yX4_isCard yX4_isCard, .code yX4_isCard cX4_isCard 2 (some .boolean), .fieldLink RX4 58 "TrumpvaultModel" "cards" "I", .methodLink RX4 78 yX4_asked, .instanceMethod yX4_asked, .selects RX4 yX4_asked yX4_asked, .code yX4_asked cX4_asked 2 (some .boolean), .fieldLink RX4 50 "TrumpvaultModel" "thrown" "I", .methodLink RX4 106 yX4_size, .instanceMethod yX4_size, .selects RX4 yX4_size yX4_size, .code yX4_size cX4_size 4 (some .int)] ++ wsX40)
def wsX4_right : List Cond := .code yX4_right cX4_right 5 (some .boolean) :: ([.fieldLink RX4 58 "TrumpvaultModel" "cards" "I", .fieldLink RX4 46 "TrumpvaultModel" "deck" "[I", .fieldLink RX4 19 "TrumpvaultModel" "state" "[I", .fieldLink RX4 13 "TrumpvaultModel" "kindOf" "[I", .methodLink RX4 106 yX4_size, .instanceMethod yX4_size, .selects RX4 yX4_size yX4_size, .initialized RX4, .code yX4_size cX4_size 4 (some .int), .methodLink RX4 54 yX4_in, .static yX4_in, .code yX4_in cX4_in 3 (some .boolean), .methodLink RX4 84 yX4_holds, .instanceMethod yX4_holds, .selects RX4 yX4_holds yX4_holds, .code yX4_holds cX4_holds 2 (some .int), .fieldLink RX4 31 "TrumpvaultModel" "holder" "[I", .fieldLink RX4 16 "TrumpvaultModel" "owner" "[I", .methodLink RX4 87 yX4_banned, .instanceMethod yX4_banned, .selects RX4 yX4_banned yX4_banned, .code yX4_banned cX4_banned 2 (some .boolean), .fieldLink RX4 43 "TrumpvaultModel" "banDay" "[I", .fieldLink RX4 61 "TrumpvaultModel" "today" "I"] ++ wsX40)
def wsX4_strengthOf : List Cond := .code yX4_strengthOf cX4_strengthOf 4 (some .int) :: ([.fieldLink RX4 58 "TrumpvaultModel" "cards" "I", .fieldLink RX4 46 "TrumpvaultModel" "deck" "[I", .fieldLink RX4 13 "TrumpvaultModel" "kindOf" "[I"] ++ wsX40)
def wsX4_isRight_r1 : List Cond := [Cond.methodLink RX4 64 yX4_isPlayer, Cond.static yX4_isPlayer, Cond.initialized RX4, Cond.code yX4_isPlayer cX4_isPlayer 1 (some .boolean), Cond.methodLink RX4 54 yX4_in, Cond.static yX4_in, Cond.code yX4_in cX4_in 3 (some .boolean), Cond.methodLink RX4 78 yX4_asked, Cond.instanceMethod yX4_asked, Cond.selects RX4 yX4_asked yX4_asked, Cond.code yX4_asked cX4_asked 2 (some .boolean), Cond.fieldLink RX4 50 "TrumpvaultModel" "thrown" "I", Cond.methodLink RX4 109 yX4_right, Cond.instanceMethod yX4_right, Cond.selects RX4 yX4_right yX4_right, Cond.code yX4_right cX4_right 5 (some .boolean), Cond.fieldLink RX4 58 "TrumpvaultModel" "cards" "I", Cond.fieldLink RX4 46 "TrumpvaultModel" "deck" "[I", Cond.fieldLink RX4 19 "TrumpvaultModel" "state" "[I", Cond.fieldLink RX4 13 "TrumpvaultModel" "kindOf" "[I", Cond.methodLink RX4 106 yX4_size, Cond.instanceMethod yX4_size, Cond.selects RX4 yX4_size yX4_size, Cond.code yX4_size cX4_size 4 (some .int)]
def wsX4_isRight_r2 : List Cond := [Cond.methodLink RX4 84 yX4_holds, Cond.instanceMethod yX4_holds, Cond.selects RX4 yX4_holds yX4_holds, Cond.code yX4_holds cX4_holds 2 (some .int), Cond.fieldLink RX4 31 "TrumpvaultModel" "holder" "[I", Cond.fieldLink RX4 16 "TrumpvaultModel" "owner" "[I", Cond.methodLink RX4 87 yX4_banned, Cond.instanceMethod yX4_banned, Cond.selects RX4 yX4_banned yX4_banned, Cond.code yX4_banned cX4_banned 2 (some .boolean), Cond.fieldLink RX4 43 "TrumpvaultModel" "banDay" "[I", Cond.fieldLink RX4 61 "TrumpvaultModel" "today" "I"]
def wsX4_isRight : List Cond := .code yX4_isRight cX4_isRight 2 (some .boolean) :: ((wsX4_isRight_r1 ++ wsX4_isRight_r2) ++ wsX40)
def wsX4_strength : List Cond := .code yX4_strength cX4_strength 2 (some .int) :: ([.methodLink RX4 64 yX4_isPlayer, .static yX4_isPlayer, .initialized RX4, .code yX4_isPlayer cX4_isPlayer 1 (some .boolean), .methodLink RX4 54 yX4_in, .static yX4_in, .code yX4_in cX4_in 3 (some .boolean), .methodLink RX4 78 yX4_asked, .instanceMethod yX4_asked, .selects RX4 yX4_asked yX4_asked, .code yX4_asked cX4_asked 2 (some .boolean), .fieldLink RX4 50 "TrumpvaultModel" "thrown" "I", .methodLink RX4 112 yX4_strengthOf, .instanceMethod yX4_strengthOf, .selects RX4 yX4_strengthOf yX4_strengthOf, .code yX4_strengthOf cX4_strengthOf 4 (some .int), .fieldLink RX4 58 "TrumpvaultModel" "cards" "I", .fieldLink RX4 46 "TrumpvaultModel" "deck" "[I", .fieldLink RX4 13 "TrumpvaultModel" "kindOf" "[I"] ++ wsX40)
def wsX4_play_r1 : List Cond := [Cond.fieldLink RX4 7 "TrumpvaultModel" "coins" "[I", Cond.methodLink RX4 64 yX4_isPlayer, Cond.static yX4_isPlayer, Cond.initialized RX4, Cond.code yX4_isPlayer cX4_isPlayer 1 (some .boolean), Cond.methodLink RX4 54 yX4_in, Cond.static yX4_in, Cond.code yX4_in cX4_in 3 (some .boolean), Cond.methodLink RX4 109 yX4_right, Cond.instanceMethod yX4_right, Cond.selects RX4 yX4_right yX4_right, Cond.code yX4_right cX4_right 5 (some .boolean), Cond.fieldLink RX4 58 "TrumpvaultModel" "cards" "I", Cond.fieldLink RX4 46 "TrumpvaultModel" "deck" "[I", Cond.fieldLink RX4 19 "TrumpvaultModel" "state" "[I", Cond.fieldLink RX4 13 "TrumpvaultModel" "kindOf" "[I", Cond.methodLink RX4 106 yX4_size, Cond.instanceMethod yX4_size, Cond.selects RX4 yX4_size yX4_size, Cond.code yX4_size cX4_size 4 (some .int), Cond.methodLink RX4 84 yX4_holds, Cond.instanceMethod yX4_holds, Cond.selects RX4 yX4_holds yX4_holds, Cond.code yX4_holds cX4_holds 2 (some .int)]
def wsX4_play_r2 : List Cond := [Cond.fieldLink RX4 31 "TrumpvaultModel" "holder" "[I", Cond.fieldLink RX4 16 "TrumpvaultModel" "owner" "[I", Cond.methodLink RX4 87 yX4_banned, Cond.instanceMethod yX4_banned, Cond.selects RX4 yX4_banned yX4_banned, Cond.code yX4_banned cX4_banned 2 (some .boolean), Cond.fieldLink RX4 43 "TrumpvaultModel" "banDay" "[I", Cond.fieldLink RX4 61 "TrumpvaultModel" "today" "I", Cond.methodLink RX4 90 yX4_asked__, Cond.instanceMethod yX4_asked__, Cond.selects RX4 yX4_asked__ yX4_asked__, Cond.code yX4_asked__ cX4_asked__ 4 (some .boolean), Cond.fieldLink RX4 50 "TrumpvaultModel" "thrown" "I", Cond.methodLink RX4 112 yX4_strengthOf, Cond.instanceMethod yX4_strengthOf, Cond.selects RX4 yX4_strengthOf yX4_strengthOf, Cond.code yX4_strengthOf cX4_strengthOf 4 (some .int)]
def wsX4_play : List Cond := .code yX4_play cX4_play 5 (some .int) :: ((wsX4_play_r1 ++ wsX4_play_r2) ++ wsX40)
def wsL_mint_r1 : List Cond := [Cond.classLink RL 13 "java/lang/IndexOutOfBoundsException", Cond.classLink RL 15 "java/lang/IllegalStateException", Cond.methodLink RL 7 yX3_mint, Cond.instanceMethod yX3_mint, Cond.selects RX3 yX3_mint yX3_mint, Cond.initialized RX3, Cond.code yX3_mint cX3_mint 4 (some .int), Cond.classLink RX3 64 "java/lang/IllegalStateException", Cond.initialized "java/lang/IllegalStateException", Cond.fieldLink RX3 10 "Trumpvault" "cards" "LTrumpvault$Cards;", Cond.fieldLink RX3 26 "Trumpvault" "history" "LTrumpvault$History;", Cond.methodLink RX3 53 yX3_needPlayer, Cond.static yX3_needPlayer, Cond.code yX3_needPlayer cX3_needPlayer 1 none, Cond.classLink RX3 197 "java/lang/IndexOutOfBoundsException", Cond.initialized "java/lang/IndexOutOfBoundsException", Cond.methodLink RX3 57 yX3_needKind, Cond.static yX3_needKind, Cond.code yX3_needKind cX3_needKind 1 none, Cond.methodLink RX3 60 yX1_isFull, Cond.instanceMethod yX1_isFull, Cond.selects RX1 yX1_isFull yX1_isFull, Cond.initialized RX1, Cond.code yX1_isFull cX1_isFull 1 (some .boolean)]
def wsL_mint_r2 : List Cond := [Cond.fieldLink RX1 36 "Trumpvault$Cards" "count" "I", Cond.methodLink RX3 71 yX1_add, Cond.instanceMethod yX1_add, Cond.selects RX1 yX1_add yX1_add, Cond.code yX1_add cX1_add 4 (some .int), Cond.fieldLink RX1 9 "Trumpvault$Cards" "kinds" "[I", Cond.fieldLink RX1 15 "Trumpvault$Cards" "owners" "[I", Cond.fieldLink RX1 18 "Trumpvault$Cards" "states" "[I", Cond.methodLink RX3 75 yX2_record, Cond.instanceMethod yX2_record, Cond.selects RX2 yX2_record yX2_record, Cond.initialized RX2, Cond.code yX2_record cX2_record 3 none, Cond.fieldLink RX2 18 "Trumpvault$History" "count" "I", Cond.fieldLink RX2 9 "Trumpvault$History" "movedCards" "[I", Cond.fieldLink RX2 15 "Trumpvault$History" "newOwners" "[I"]
def wsL_mint : List Cond := .codeWith yL_mint cL_mint 5 (some .int) [(0, 10, 13, 13), (0, 10, 17, 15)] :: ((wsL_mint_r1 ++ wsL_mint_r2) ++ wsX30 ++ wsX10 ++ wsX20 ++ (vx_atS RX3 68 "java/lang/IllegalStateException" ["java/lang/RuntimeException", "java/lang/Exception"]).filter goodWord ++ (vx_atS RX3 201 "java/lang/IndexOutOfBoundsException" ["java/lang/RuntimeException", "java/lang/Exception"]).filter goodWord)
def wsL_owner : List Cond := .codeWith yL_owner cL_owner 4 (some .int) [(0, 9, 12, 13)] :: ([.classLink RL 13 "java/lang/IndexOutOfBoundsException", .methodLink RL 17 yX3_owner, .instanceMethod yX3_owner, .selects RX3 yX3_owner yX3_owner, .initialized RX3, .code yX3_owner cX3_owner 2 (some .int), .fieldLink RX3 10 "Trumpvault" "cards" "LTrumpvault$Cards;", .fieldLink RX3 82 "Trumpvault$Cards" "owners" "[I", .methodLink RX3 79 yX3_needCard, .instanceMethod yX3_needCard, .selects RX3 yX3_needCard yX3_needCard, .code yX3_needCard cX3_needCard 2 none, .classLink RX3 197 "java/lang/IndexOutOfBoundsException", .initialized "java/lang/IndexOutOfBoundsException", .methodLink RX3 204 yX1_has, .instanceMethod yX1_has, .selects RX1 yX1_has yX1_has, .initialized RX1, .code yX1_has cX1_has 2 (some .boolean), .fieldLink RX1 36 "Trumpvault$Cards" "count" "I"] ++ wsX30 ++ wsX10 ++ (vx_atS RX3 201 "java/lang/IndexOutOfBoundsException" ["java/lang/RuntimeException", "java/lang/Exception"]).filter goodWord)
def wsL_ownerByHistory_r1 : List Cond := [Cond.classLink RL 13 "java/lang/IndexOutOfBoundsException", Cond.methodLink RL 21 yX3_ownerByHistory, Cond.instanceMethod yX3_ownerByHistory, Cond.selects RX3 yX3_ownerByHistory yX3_ownerByHistory, Cond.initialized RX3, Cond.code yX3_ownerByHistory cX3_ownerByHistory 2 (some .int), Cond.fieldLink RX3 26 "Trumpvault" "history" "LTrumpvault$History;", Cond.methodLink RX3 79 yX3_needCard, Cond.instanceMethod yX3_needCard, Cond.selects RX3 yX3_needCard yX3_needCard, Cond.code yX3_needCard cX3_needCard 2 none, Cond.classLink RX3 197 "java/lang/IndexOutOfBoundsException", Cond.initialized "java/lang/IndexOutOfBoundsException", Cond.fieldLink RX3 10 "Trumpvault" "cards" "LTrumpvault$Cards;", Cond.methodLink RX3 204 yX1_has, Cond.instanceMethod yX1_has, Cond.selects RX1 yX1_has yX1_has, Cond.initialized RX1, Cond.code yX1_has cX1_has 2 (some .boolean), Cond.fieldLink RX1 36 "Trumpvault$Cards" "count" "I", Cond.methodLink RX3 85 yX2_lastOwner, Cond.instanceMethod yX2_lastOwner, Cond.selects RX2 yX2_lastOwner yX2_lastOwner, Cond.initialized RX2]
def wsL_ownerByHistory_r2 : List Cond := [Cond.code yX2_lastOwner cX2_lastOwner 4 (some .int), Cond.fieldLink RX2 18 "Trumpvault$History" "count" "I", Cond.fieldLink RX2 9 "Trumpvault$History" "movedCards" "[I", Cond.fieldLink RX2 15 "Trumpvault$History" "newOwners" "[I"]
def wsL_ownerByHistory : List Cond := .codeWith yL_ownerByHistory cL_ownerByHistory 4 (some .int) [(0, 9, 12, 13)] :: ((wsL_ownerByHistory_r1 ++ wsL_ownerByHistory_r2) ++ wsX30 ++ wsX10 ++ wsX20 ++ (vx_atS RX3 201 "java/lang/IndexOutOfBoundsException" ["java/lang/RuntimeException", "java/lang/Exception"]).filter goodWord)
def wsL_holder_r1 : List Cond := [Cond.classLink RL 13 "java/lang/IndexOutOfBoundsException", Cond.methodLink RL 24 yX3_holder, Cond.instanceMethod yX3_holder, Cond.selects RX3 yX3_holder yX3_holder, Cond.initialized RX3, Cond.code yX3_holder cX3_holder 2 (some .int), Cond.fieldLink RX3 10 "Trumpvault" "cards" "LTrumpvault$Cards;", Cond.methodLink RX3 79 yX3_needCard, Cond.instanceMethod yX3_needCard, Cond.selects RX3 yX3_needCard yX3_needCard, Cond.code yX3_needCard cX3_needCard 2 none, Cond.classLink RX3 197 "java/lang/IndexOutOfBoundsException", Cond.initialized "java/lang/IndexOutOfBoundsException", Cond.methodLink RX3 204 yX1_has, Cond.instanceMethod yX1_has, Cond.selects RX1 yX1_has yX1_has, Cond.initialized RX1, Cond.code yX1_has cX1_has 2 (some .boolean), Cond.fieldLink RX1 36 "Trumpvault$Cards" "count" "I", Cond.methodLink RX3 89 yX1_holderOf, Cond.instanceMethod yX1_holderOf, Cond.selects RX1 yX1_holderOf yX1_holderOf, Cond.code yX1_holderOf cX1_holderOf 2 (some .int), Cond.fieldLink RX1 18 "Trumpvault$Cards" "states" "[I"]
def wsL_holder_r2 : List Cond := [Cond.fieldLink RX1 30 "Trumpvault$Cards" "borrowers" "[I", Cond.fieldLink RX1 15 "Trumpvault$Cards" "owners" "[I"]
def wsL_holder : List Cond := .codeWith yL_holder cL_holder 4 (some .int) [(0, 9, 12, 13)] :: ((wsL_holder_r1 ++ wsL_holder_r2) ++ wsX30 ++ wsX10 ++ (vx_atS RX3 201 "java/lang/IndexOutOfBoundsException" ["java/lang/RuntimeException", "java/lang/Exception"]).filter goodWord)
def wsL_stateOf : List Cond := .codeWith yL_stateOf cL_stateOf 4 (some .int) [(0, 9, 12, 13)] :: ([.classLink RL 13 "java/lang/IndexOutOfBoundsException", .methodLink RL 27 yX3_stateOf, .instanceMethod yX3_stateOf, .selects RX3 yX3_stateOf yX3_stateOf, .initialized RX3, .code yX3_stateOf cX3_stateOf 2 (some .int), .fieldLink RX3 10 "Trumpvault" "cards" "LTrumpvault$Cards;", .fieldLink RX3 92 "Trumpvault$Cards" "states" "[I", .methodLink RX3 79 yX3_needCard, .instanceMethod yX3_needCard, .selects RX3 yX3_needCard yX3_needCard, .code yX3_needCard cX3_needCard 2 none, .classLink RX3 197 "java/lang/IndexOutOfBoundsException", .initialized "java/lang/IndexOutOfBoundsException", .methodLink RX3 204 yX1_has, .instanceMethod yX1_has, .selects RX1 yX1_has yX1_has, .initialized RX1, .code yX1_has cX1_has 2 (some .boolean), .fieldLink RX1 36 "Trumpvault$Cards" "count" "I"] ++ wsX30 ++ wsX10 ++ (vx_atS RX3 201 "java/lang/IndexOutOfBoundsException" ["java/lang/RuntimeException", "java/lang/Exception"]).filter goodWord)
def wsL_coins : List Cond := .codeWith yL_coins cL_coins 4 (some .int) [(0, 9, 12, 13)] :: ([.classLink RL 13 "java/lang/IndexOutOfBoundsException", .methodLink RL 30 yX3_coins, .instanceMethod yX3_coins, .selects RX3 yX3_coins yX3_coins, .initialized RX3, .code yX3_coins cX3_coins 2 (some .int), .fieldLink RX3 30 "Trumpvault" "purses" "[I", .methodLink RX3 53 yX3_needPlayer, .static yX3_needPlayer, .code yX3_needPlayer cX3_needPlayer 1 none, .classLink RX3 197 "java/lang/IndexOutOfBoundsException", .initialized "java/lang/IndexOutOfBoundsException"] ++ wsX30 ++ (vx_atS RX3 201 "java/lang/IndexOutOfBoundsException" ["java/lang/RuntimeException", "java/lang/Exception"]).filter goodWord)
def wsL_sell_r1 : List Cond := [Cond.classLink RL 13 "java/lang/IndexOutOfBoundsException", Cond.classLink RL 36 "java/lang/IllegalArgumentException", Cond.classLink RL 15 "java/lang/IllegalStateException", Cond.methodLink RL 33 yX3_sell, Cond.instanceMethod yX3_sell, Cond.selects RX3 yX3_sell yX3_sell, Cond.initialized RX3, Cond.code yX3_sell cX3_sell 6 (some .int), Cond.classLink RX3 64 "java/lang/IllegalStateException", Cond.initialized "java/lang/IllegalStateException", Cond.fieldLink RX3 10 "Trumpvault" "cards" "LTrumpvault$Cards;", Cond.fieldLink RX3 98 "Trumpvault$Cards" "kinds" "[I", Cond.fieldLink RX3 92 "Trumpvault$Cards" "states" "[I", Cond.fieldLink RX3 19 "Trumpvault" "bids" "LTrumpvault$Bids;", Cond.fieldLink RX3 82 "Trumpvault$Cards" "owners" "[I", Cond.fieldLink RX3 110 "Trumpvault$Bids" "prices" "[[I", Cond.fieldLink RX3 46 "Trumpvault" "nextNumber" "I", Cond.fieldLink RX3 30 "Trumpvault" "purses" "[I", Cond.methodLink RX3 79 yX3_needCard, Cond.instanceMethod yX3_needCard, Cond.selects RX3 yX3_needCard yX3_needCard, Cond.code yX3_needCard cX3_needCard 2 none, Cond.classLink RX3 197 "java/lang/IndexOutOfBoundsException", Cond.initialized "java/lang/IndexOutOfBoundsException"]
def wsL_sell_r2 : List Cond := [Cond.methodLink RX3 204 yX1_has, Cond.instanceMethod yX1_has, Cond.selects RX1 yX1_has yX1_has, Cond.initialized RX1, Cond.code yX1_has cX1_has 2 (some .boolean), Cond.fieldLink RX1 36 "Trumpvault$Cards" "count" "I", Cond.methodLink RX3 95 yX3_needPrice, Cond.static yX3_needPrice, Cond.code yX3_needPrice cX3_needPrice 1 none, Cond.classLink RX3 150 "java/lang/IllegalArgumentException", Cond.initialized "java/lang/IllegalArgumentException", Cond.methodLink RX3 101 yX3_bannedToday, Cond.instanceMethod yX3_bannedToday, Cond.selects RX3 yX3_bannedToday yX3_bannedToday, Cond.code yX3_bannedToday cX3_bannedToday 2 (some .boolean), Cond.fieldLink RX3 40 "Trumpvault" "bannedFrom" "[I", Cond.fieldLink RX3 50 "Trumpvault" "today" "I", Cond.methodLink RX3 107 yX0_bestBidder, Cond.instanceMethod yX0_bestBidder, Cond.selects RX0 yX0_bestBidder yX0_bestBidder, Cond.initialized RX0, Cond.code yX0_bestBidder cX0_bestBidder 5 (some .int), Cond.methodLink RX0 19 yX0_has, Cond.instanceMethod yX0_has]
def wsL_sell_r3 : List Cond := [Cond.selects RX0 yX0_has yX0_has, Cond.code yX0_has cX0_has 3 (some .boolean), Cond.fieldLink RX0 11 "Trumpvault$Bids" "prices" "[[I", Cond.methodLink RX0 23 yX0_isBefore, Cond.instanceMethod yX0_isBefore, Cond.selects RX0 yX0_isBefore yX0_isBefore, Cond.code yX0_isBefore cX0_isBefore 6 (some .boolean), Cond.fieldLink RX0 16 "Trumpvault$Bids" "numbers" "[[I", Cond.methodLink RX3 114 yX1_putSale, Cond.instanceMethod yX1_putSale, Cond.selects RX1 yX1_putSale yX1_putSale, Cond.code yX1_putSale cX1_putSale 4 none, Cond.fieldLink RX1 18 "Trumpvault$Cards" "states" "[I", Cond.fieldLink RX1 21 "Trumpvault$Cards" "salePrices" "[I", Cond.fieldLink RX1 24 "Trumpvault$Cards" "saleNumbers" "[I", Cond.methodLink RX3 118 yX0_take, Cond.instanceMethod yX0_take, Cond.selects RX0 yX0_take yX0_take, Cond.code yX0_take cX0_take 4 (some .int), Cond.methodLink RX3 121 yX3_giveTo, Cond.instanceMethod yX3_giveTo, Cond.selects RX3 yX3_giveTo yX3_giveTo, Cond.code yX3_giveTo cX3_giveTo 3 none, Cond.fieldLink RX3 26 "Trumpvault" "history" "LTrumpvault$History;"]
def wsL_sell_r4 : List Cond := [Cond.methodLink RX3 75 yX2_record, Cond.instanceMethod yX2_record, Cond.selects RX2 yX2_record yX2_record, Cond.initialized RX2, Cond.code yX2_record cX2_record 3 none, Cond.fieldLink RX2 18 "Trumpvault$History" "count" "I", Cond.fieldLink RX2 9 "Trumpvault$History" "movedCards" "[I", Cond.fieldLink RX2 15 "Trumpvault$History" "newOwners" "[I"]
def wsL_sell : List Cond := .codeWith yL_sell cL_sell 5 (some .int) [(0, 10, 13, 13), (0, 10, 17, 36), (0, 10, 21, 15)] :: ((wsL_sell_r1 ++ (wsL_sell_r2 ++ (wsL_sell_r3 ++ wsL_sell_r4))) ++ wsX30 ++ wsX10 ++ wsX00 ++ wsX20 ++ (vx_atS RX3 68 "java/lang/IllegalStateException" ["java/lang/RuntimeException", "java/lang/Exception"]).filter goodWord ++ (vx_atS RX3 201 "java/lang/IndexOutOfBoundsException" ["java/lang/RuntimeException", "java/lang/Exception"]).filter goodWord ++ (vx_atS RX3 154 "java/lang/IllegalArgumentException" ["java/lang/RuntimeException", "java/lang/Exception"]).filter goodWord)
def wsL_bid_r1 : List Cond := [Cond.classLink RL 13 "java/lang/IndexOutOfBoundsException", Cond.classLink RL 36 "java/lang/IllegalArgumentException", Cond.classLink RL 15 "java/lang/IllegalStateException", Cond.methodLink RL 38 yX3_bid, Cond.instanceMethod yX3_bid, Cond.selects RX3 yX3_bid yX3_bid, Cond.initialized RX3, Cond.code yX3_bid cX3_bid 6 (some .int), Cond.classLink RX3 64 "java/lang/IllegalStateException", Cond.initialized "java/lang/IllegalStateException", Cond.fieldLink RX3 30 "Trumpvault" "purses" "[I", Cond.fieldLink RX3 19 "Trumpvault" "bids" "LTrumpvault$Bids;", Cond.fieldLink RX3 10 "Trumpvault" "cards" "LTrumpvault$Cards;", Cond.fieldLink RX3 133 "Trumpvault$Cards" "salePrices" "[I", Cond.fieldLink RX3 46 "Trumpvault" "nextNumber" "I", Cond.fieldLink RX3 82 "Trumpvault$Cards" "owners" "[I", Cond.methodLink RX3 53 yX3_needPlayer, Cond.static yX3_needPlayer, Cond.code yX3_needPlayer cX3_needPlayer 1 none, Cond.classLink RX3 197 "java/lang/IndexOutOfBoundsException", Cond.initialized "java/lang/IndexOutOfBoundsException", Cond.methodLink RX3 57 yX3_needKind, Cond.static yX3_needKind, Cond.code yX3_needKind cX3_needKind 1 none]
def wsL_bid_r2 : List Cond := [Cond.methodLink RX3 95 yX3_needPrice, Cond.static yX3_needPrice, Cond.code yX3_needPrice cX3_needPrice 1 none, Cond.classLink RX3 150 "java/lang/IllegalArgumentException", Cond.initialized "java/lang/IllegalArgumentException", Cond.methodLink RX3 124 yX0_has, Cond.instanceMethod yX0_has, Cond.selects RX0 yX0_has yX0_has, Cond.initialized RX0, Cond.code yX0_has cX0_has 3 (some .boolean), Cond.fieldLink RX0 11 "Trumpvault$Bids" "prices" "[[I", Cond.methodLink RX3 101 yX3_bannedToday, Cond.instanceMethod yX3_bannedToday, Cond.selects RX3 yX3_bannedToday yX3_bannedToday, Cond.code yX3_bannedToday cX3_bannedToday 2 (some .boolean), Cond.fieldLink RX3 40 "Trumpvault" "bannedFrom" "[I", Cond.fieldLink RX3 50 "Trumpvault" "today" "I", Cond.methodLink RX3 130 yX1_bestSale, Cond.instanceMethod yX1_bestSale, Cond.selects RX1 yX1_bestSale yX1_bestSale, Cond.initialized RX1, Cond.code yX1_bestSale cX1_bestSale 5 (some .int), Cond.fieldLink RX1 36 "Trumpvault$Cards" "count" "I", Cond.fieldLink RX1 15 "Trumpvault$Cards" "owners" "[I"]
def wsL_bid_r3 : List Cond := [Cond.methodLink RX1 40 yX1_isOnSale, Cond.instanceMethod yX1_isOnSale, Cond.selects RX1 yX1_isOnSale yX1_isOnSale, Cond.code yX1_isOnSale cX1_isOnSale 3 (some .boolean), Cond.fieldLink RX1 18 "Trumpvault$Cards" "states" "[I", Cond.fieldLink RX1 9 "Trumpvault$Cards" "kinds" "[I", Cond.methodLink RX1 48 yX1_saleIsBefore, Cond.instanceMethod yX1_saleIsBefore, Cond.selects RX1 yX1_saleIsBefore yX1_saleIsBefore, Cond.code yX1_saleIsBefore cX1_saleIsBefore 3 (some .boolean), Cond.fieldLink RX1 21 "Trumpvault$Cards" "salePrices" "[I", Cond.fieldLink RX1 24 "Trumpvault$Cards" "saleNumbers" "[I", Cond.methodLink RX3 136 yX0_put, Cond.instanceMethod yX0_put, Cond.selects RX0 yX0_put yX0_put, Cond.code yX0_put cX0_put 5 none, Cond.fieldLink RX0 16 "Trumpvault$Bids" "numbers" "[[I", Cond.methodLink RX3 140 yX1_takeSale, Cond.instanceMethod yX1_takeSale, Cond.selects RX1 yX1_takeSale yX1_takeSale, Cond.code yX1_takeSale cX1_takeSale 2 (some .int), Cond.methodLink RX3 121 yX3_giveTo, Cond.instanceMethod yX3_giveTo, Cond.selects RX3 yX3_giveTo yX3_giveTo]
def wsL_bid_r4 : List Cond := [Cond.code yX3_giveTo cX3_giveTo 3 none, Cond.fieldLink RX3 92 "Trumpvault$Cards" "states" "[I", Cond.fieldLink RX3 26 "Trumpvault" "history" "LTrumpvault$History;", Cond.methodLink RX3 75 yX2_record, Cond.instanceMethod yX2_record, Cond.selects RX2 yX2_record yX2_record, Cond.initialized RX2, Cond.code yX2_record cX2_record 3 none, Cond.fieldLink RX2 18 "Trumpvault$History" "count" "I", Cond.fieldLink RX2 9 "Trumpvault$History" "movedCards" "[I", Cond.fieldLink RX2 15 "Trumpvault$History" "newOwners" "[I"]
def wsL_bid : List Cond := .codeWith yL_bid cL_bid 6 (some .int) [(0, 12, 15, 13), (0, 12, 19, 36), (0, 12, 23, 15)] :: ((wsL_bid_r1 ++ (wsL_bid_r2 ++ (wsL_bid_r3 ++ wsL_bid_r4))) ++ wsX30 ++ wsX10 ++ wsX00 ++ wsX20 ++ (vx_atS RX3 68 "java/lang/IllegalStateException" ["java/lang/RuntimeException", "java/lang/Exception"]).filter goodWord ++ (vx_atS RX3 201 "java/lang/IndexOutOfBoundsException" ["java/lang/RuntimeException", "java/lang/Exception"]).filter goodWord ++ (vx_atS RX3 154 "java/lang/IllegalArgumentException" ["java/lang/RuntimeException", "java/lang/Exception"]).filter goodWord)
def wsL_cancelSale_r1 : List Cond := [Cond.classLink RL 13 "java/lang/IndexOutOfBoundsException", Cond.classLink RL 15 "java/lang/IllegalStateException", Cond.methodLink RL 42 yX3_cancelSale, Cond.instanceMethod yX3_cancelSale, Cond.selects RX3 yX3_cancelSale yX3_cancelSale, Cond.initialized RX3, Cond.code yX3_cancelSale cX3_cancelSale 2 (some .int), Cond.classLink RX3 64 "java/lang/IllegalStateException", Cond.initialized "java/lang/IllegalStateException", Cond.fieldLink RX3 10 "Trumpvault" "cards" "LTrumpvault$Cards;", Cond.fieldLink RX3 92 "Trumpvault$Cards" "states" "[I", Cond.methodLink RX3 79 yX3_needCard, Cond.instanceMethod yX3_needCard, Cond.selects RX3 yX3_needCard yX3_needCard, Cond.code yX3_needCard cX3_needCard 2 none, Cond.classLink RX3 197 "java/lang/IndexOutOfBoundsException", Cond.initialized "java/lang/IndexOutOfBoundsException", Cond.methodLink RX3 204 yX1_has, Cond.instanceMethod yX1_has, Cond.selects RX1 yX1_has yX1_has, Cond.initialized RX1, Cond.code yX1_has cX1_has 2 (some .boolean), Cond.fieldLink RX1 36 "Trumpvault$Cards" "count" "I", Cond.methodLink RX3 140 yX1_takeSale]
def wsL_cancelSale_r2 : List Cond := [Cond.instanceMethod yX1_takeSale, Cond.selects RX1 yX1_takeSale yX1_takeSale, Cond.code yX1_takeSale cX1_takeSale 2 (some .int), Cond.fieldLink RX1 18 "Trumpvault$Cards" "states" "[I", Cond.fieldLink RX1 21 "Trumpvault$Cards" "salePrices" "[I"]
def wsL_cancelSale : List Cond := .codeWith yL_cancelSale cL_cancelSale 4 (some .int) [(0, 9, 12, 13), (0, 9, 15, 15)] :: ((wsL_cancelSale_r1 ++ wsL_cancelSale_r2) ++ wsX30 ++ wsX10 ++ (vx_atS RX3 68 "java/lang/IllegalStateException" ["java/lang/RuntimeException", "java/lang/Exception"]).filter goodWord ++ (vx_atS RX3 201 "java/lang/IndexOutOfBoundsException" ["java/lang/RuntimeException", "java/lang/Exception"]).filter goodWord)
def wsL_cancelBid_r1 : List Cond := [Cond.classLink RL 13 "java/lang/IndexOutOfBoundsException", Cond.classLink RL 15 "java/lang/IllegalStateException", Cond.methodLink RL 45 yX3_cancelBid, Cond.instanceMethod yX3_cancelBid, Cond.selects RX3 yX3_cancelBid yX3_cancelBid, Cond.initialized RX3, Cond.code yX3_cancelBid cX3_cancelBid 3 (some .int), Cond.classLink RX3 64 "java/lang/IllegalStateException", Cond.initialized "java/lang/IllegalStateException", Cond.fieldLink RX3 19 "Trumpvault" "bids" "LTrumpvault$Bids;", Cond.methodLink RX3 53 yX3_needPlayer, Cond.static yX3_needPlayer, Cond.code yX3_needPlayer cX3_needPlayer 1 none, Cond.classLink RX3 197 "java/lang/IndexOutOfBoundsException", Cond.initialized "java/lang/IndexOutOfBoundsException", Cond.methodLink RX3 57 yX3_needKind, Cond.static yX3_needKind, Cond.code yX3_needKind cX3_needKind 1 none, Cond.methodLink RX3 124 yX0_has, Cond.instanceMethod yX0_has, Cond.selects RX0 yX0_has yX0_has, Cond.initialized RX0, Cond.code yX0_has cX0_has 3 (some .boolean), Cond.fieldLink RX0 11 "Trumpvault$Bids" "prices" "[[I"]
def wsL_cancelBid_r2 : List Cond := [Cond.methodLink RX3 147 yX3_giveBidBack, Cond.instanceMethod yX3_giveBidBack, Cond.selects RX3 yX3_giveBidBack yX3_giveBidBack, Cond.code yX3_giveBidBack cX3_giveBidBack 4 (some .int), Cond.fieldLink RX3 30 "Trumpvault" "purses" "[I", Cond.methodLink RX3 118 yX0_take, Cond.instanceMethod yX0_take, Cond.selects RX0 yX0_take yX0_take, Cond.code yX0_take cX0_take 4 (some .int)]
def wsL_cancelBid : List Cond := .codeWith yL_cancelBid cL_cancelBid 5 (some .int) [(0, 10, 13, 13), (0, 10, 17, 15)] :: ((wsL_cancelBid_r1 ++ wsL_cancelBid_r2) ++ wsX30 ++ wsX00 ++ (vx_atS RX3 68 "java/lang/IllegalStateException" ["java/lang/RuntimeException", "java/lang/Exception"]).filter goodWord ++ (vx_atS RX3 201 "java/lang/IndexOutOfBoundsException" ["java/lang/RuntimeException", "java/lang/Exception"]).filter goodWord)
def wsL_leastSale_r1 : List Cond := [Cond.classLink RL 13 "java/lang/IndexOutOfBoundsException", Cond.methodLink RL 48 yX3_leastSale, Cond.instanceMethod yX3_leastSale, Cond.selects RX3 yX3_leastSale yX3_leastSale, Cond.initialized RX3, Cond.code yX3_leastSale cX3_leastSale 3 (some .int), Cond.fieldLink RX3 10 "Trumpvault" "cards" "LTrumpvault$Cards;", Cond.fieldLink RX3 133 "Trumpvault$Cards" "salePrices" "[I", Cond.methodLink RX3 57 yX3_needKind, Cond.static yX3_needKind, Cond.code yX3_needKind cX3_needKind 1 none, Cond.classLink RX3 197 "java/lang/IndexOutOfBoundsException", Cond.initialized "java/lang/IndexOutOfBoundsException", Cond.methodLink RX3 130 yX1_bestSale, Cond.instanceMethod yX1_bestSale, Cond.selects RX1 yX1_bestSale yX1_bestSale, Cond.initialized RX1, Cond.code yX1_bestSale cX1_bestSale 5 (some .int), Cond.fieldLink RX1 36 "Trumpvault$Cards" "count" "I", Cond.fieldLink RX1 15 "Trumpvault$Cards" "owners" "[I", Cond.methodLink RX1 40 yX1_isOnSale, Cond.instanceMethod yX1_isOnSale, Cond.selects RX1 yX1_isOnSale yX1_isOnSale, Cond.code yX1_isOnSale cX1_isOnSale 3 (some .boolean)]
def wsL_leastSale_r2 : List Cond := [Cond.fieldLink RX1 18 "Trumpvault$Cards" "states" "[I", Cond.fieldLink RX1 9 "Trumpvault$Cards" "kinds" "[I", Cond.methodLink RX1 48 yX1_saleIsBefore, Cond.instanceMethod yX1_saleIsBefore, Cond.selects RX1 yX1_saleIsBefore yX1_saleIsBefore, Cond.code yX1_saleIsBefore cX1_saleIsBefore 3 (some .boolean), Cond.fieldLink RX1 21 "Trumpvault$Cards" "salePrices" "[I", Cond.fieldLink RX1 24 "Trumpvault$Cards" "saleNumbers" "[I"]
def wsL_leastSale : List Cond := .codeWith yL_leastSale cL_leastSale 4 (some .int) [(0, 9, 12, 13)] :: ((wsL_leastSale_r1 ++ wsL_leastSale_r2) ++ wsX30 ++ wsX10 ++ (vx_atS RX3 201 "java/lang/IndexOutOfBoundsException" ["java/lang/RuntimeException", "java/lang/Exception"]).filter goodWord)
def wsL_greatestBid_r1 : List Cond := [Cond.classLink RL 13 "java/lang/IndexOutOfBoundsException", Cond.methodLink RL 51 yX3_greatestBid, Cond.instanceMethod yX3_greatestBid, Cond.selects RX3 yX3_greatestBid yX3_greatestBid, Cond.initialized RX3, Cond.code yX3_greatestBid cX3_greatestBid 3 (some .int), Cond.fieldLink RX3 19 "Trumpvault" "bids" "LTrumpvault$Bids;", Cond.fieldLink RX3 110 "Trumpvault$Bids" "prices" "[[I", Cond.methodLink RX3 57 yX3_needKind, Cond.static yX3_needKind, Cond.code yX3_needKind cX3_needKind 1 none, Cond.classLink RX3 197 "java/lang/IndexOutOfBoundsException", Cond.initialized "java/lang/IndexOutOfBoundsException", Cond.methodLink RX3 107 yX0_bestBidder, Cond.instanceMethod yX0_bestBidder, Cond.selects RX0 yX0_bestBidder yX0_bestBidder, Cond.initialized RX0, Cond.code yX0_bestBidder cX0_bestBidder 5 (some .int), Cond.methodLink RX0 19 yX0_has, Cond.instanceMethod yX0_has, Cond.selects RX0 yX0_has yX0_has, Cond.code yX0_has cX0_has 3 (some .boolean), Cond.fieldLink RX0 11 "Trumpvault$Bids" "prices" "[[I", Cond.methodLink RX0 23 yX0_isBefore]
def wsL_greatestBid_r2 : List Cond := [Cond.instanceMethod yX0_isBefore, Cond.selects RX0 yX0_isBefore yX0_isBefore, Cond.code yX0_isBefore cX0_isBefore 6 (some .boolean), Cond.fieldLink RX0 16 "Trumpvault$Bids" "numbers" "[[I"]
def wsL_greatestBid : List Cond := .codeWith yL_greatestBid cL_greatestBid 4 (some .int) [(0, 9, 12, 13)] :: ((wsL_greatestBid_r1 ++ wsL_greatestBid_r2) ++ wsX30 ++ wsX00 ++ (vx_atS RX3 201 "java/lang/IndexOutOfBoundsException" ["java/lang/RuntimeException", "java/lang/Exception"]).filter goodWord)
def wsL_swap_r1 : List Cond := [Cond.classLink RL 13 "java/lang/IndexOutOfBoundsException", Cond.classLink RL 36 "java/lang/IllegalArgumentException", Cond.classLink RL 15 "java/lang/IllegalStateException", Cond.methodLink RL 54 yX3_swap, Cond.instanceMethod yX3_swap, Cond.selects RX3 yX3_swap yX3_swap, Cond.initialized RX3, Cond.code yX3_swap cX3_swap 3 none, Cond.classLink RX3 150 "java/lang/IllegalArgumentException", Cond.initialized "java/lang/IllegalArgumentException", Cond.classLink RX3 64 "java/lang/IllegalStateException", Cond.initialized "java/lang/IllegalStateException", Cond.fieldLink RX3 10 "Trumpvault" "cards" "LTrumpvault$Cards;", Cond.fieldLink RX3 82 "Trumpvault$Cards" "owners" "[I", Cond.fieldLink RX3 92 "Trumpvault$Cards" "states" "[I", Cond.fieldLink RX3 157 "Trumpvault$Cards" "swapOthers" "[I", Cond.methodLink RX3 79 yX3_needCard, Cond.instanceMethod yX3_needCard, Cond.selects RX3 yX3_needCard yX3_needCard, Cond.code yX3_needCard cX3_needCard 2 none, Cond.classLink RX3 197 "java/lang/IndexOutOfBoundsException", Cond.initialized "java/lang/IndexOutOfBoundsException", Cond.methodLink RX3 204 yX1_has, Cond.instanceMethod yX1_has]
def wsL_swap_r2 : List Cond := [Cond.selects RX1 yX1_has yX1_has, Cond.initialized RX1, Cond.code yX1_has cX1_has 2 (some .boolean), Cond.fieldLink RX1 36 "Trumpvault$Cards" "count" "I"]
def wsL_swap : List Cond := .codeWith yL_swap cL_swap 4 (some .int) [(0, 6, 9, 13), (0, 6, 12, 36), (0, 6, 15, 15)] :: ((wsL_swap_r1 ++ wsL_swap_r2) ++ wsX30 ++ wsX10 ++ (vx_atS RX3 154 "java/lang/IllegalArgumentException" ["java/lang/RuntimeException", "java/lang/Exception"]).filter goodWord ++ (vx_atS RX3 68 "java/lang/IllegalStateException" ["java/lang/RuntimeException", "java/lang/Exception"]).filter goodWord ++ (vx_atS RX3 201 "java/lang/IndexOutOfBoundsException" ["java/lang/RuntimeException", "java/lang/Exception"]).filter goodWord)
def wsL_agree_r1 : List Cond := [Cond.classLink RL 13 "java/lang/IndexOutOfBoundsException", Cond.classLink RL 15 "java/lang/IllegalStateException", Cond.methodLink RL 58 yX3_agree, Cond.instanceMethod yX3_agree, Cond.selects RX3 yX3_agree yX3_agree, Cond.initialized RX3, Cond.code yX3_agree cX3_agree 4 (some .int), Cond.classLink RX3 64 "java/lang/IllegalStateException", Cond.initialized "java/lang/IllegalStateException", Cond.fieldLink RX3 10 "Trumpvault" "cards" "LTrumpvault$Cards;", Cond.fieldLink RX3 157 "Trumpvault$Cards" "swapOthers" "[I", Cond.fieldLink RX3 82 "Trumpvault$Cards" "owners" "[I", Cond.methodLink RX3 79 yX3_needCard, Cond.instanceMethod yX3_needCard, Cond.selects RX3 yX3_needCard yX3_needCard, Cond.code yX3_needCard cX3_needCard 2 none, Cond.classLink RX3 197 "java/lang/IndexOutOfBoundsException", Cond.initialized "java/lang/IndexOutOfBoundsException", Cond.methodLink RX3 204 yX1_has, Cond.instanceMethod yX1_has, Cond.selects RX1 yX1_has yX1_has, Cond.initialized RX1, Cond.code yX1_has cX1_has 2 (some .boolean), Cond.fieldLink RX1 36 "Trumpvault$Cards" "count" "I"]
def wsL_agree_r2 : List Cond := [Cond.methodLink RX3 160 yX1_canBeSwapped, Cond.instanceMethod yX1_canBeSwapped, Cond.selects RX1 yX1_canBeSwapped yX1_canBeSwapped, Cond.code yX1_canBeSwapped cX1_canBeSwapped 3 (some .boolean), Cond.fieldLink RX1 27 "Trumpvault$Cards" "swapOthers" "[I", Cond.fieldLink RX1 18 "Trumpvault$Cards" "states" "[I", Cond.fieldLink RX1 15 "Trumpvault$Cards" "owners" "[I", Cond.methodLink RX1 51 yX1_has, Cond.methodLink RX3 121 yX3_giveTo, Cond.instanceMethod yX3_giveTo, Cond.selects RX3 yX3_giveTo yX3_giveTo, Cond.code yX3_giveTo cX3_giveTo 3 none, Cond.fieldLink RX3 92 "Trumpvault$Cards" "states" "[I", Cond.fieldLink RX3 26 "Trumpvault" "history" "LTrumpvault$History;", Cond.methodLink RX3 75 yX2_record, Cond.instanceMethod yX2_record, Cond.selects RX2 yX2_record yX2_record, Cond.initialized RX2, Cond.code yX2_record cX2_record 3 none, Cond.fieldLink RX2 18 "Trumpvault$History" "count" "I", Cond.fieldLink RX2 9 "Trumpvault$History" "movedCards" "[I", Cond.fieldLink RX2 15 "Trumpvault$History" "newOwners" "[I"]
def wsL_agree : List Cond := .codeWith yL_agree cL_agree 4 (some .int) [(0, 9, 12, 13), (0, 9, 15, 15)] :: ((wsL_agree_r1 ++ wsL_agree_r2) ++ wsX30 ++ wsX10 ++ wsX20 ++ (vx_atS RX3 68 "java/lang/IllegalStateException" ["java/lang/RuntimeException", "java/lang/Exception"]).filter goodWord ++ (vx_atS RX3 201 "java/lang/IndexOutOfBoundsException" ["java/lang/RuntimeException", "java/lang/Exception"]).filter goodWord)
def wsL_cancelSwap : List Cond := .codeWith yL_cancelSwap cL_cancelSwap 3 (some .int) [(0, 5, 8, 13), (0, 5, 11, 15)] :: ([.classLink RL 13 "java/lang/IndexOutOfBoundsException", .classLink RL 15 "java/lang/IllegalStateException", .methodLink RL 61 yX3_cancelSwap, .instanceMethod yX3_cancelSwap, .selects RX3 yX3_cancelSwap yX3_cancelSwap, .initialized RX3, .code yX3_cancelSwap cX3_cancelSwap 2 none, .classLink RX3 64 "java/lang/IllegalStateException", .initialized "java/lang/IllegalStateException", .fieldLink RX3 10 "Trumpvault" "cards" "LTrumpvault$Cards;", .fieldLink RX3 92 "Trumpvault$Cards" "states" "[I", .methodLink RX3 79 yX3_needCard, .instanceMethod yX3_needCard, .selects RX3 yX3_needCard yX3_needCard, .code yX3_needCard cX3_needCard 2 none, .classLink RX3 197 "java/lang/IndexOutOfBoundsException", .initialized "java/lang/IndexOutOfBoundsException", .methodLink RX3 204 yX1_has, .instanceMethod yX1_has, .selects RX1 yX1_has yX1_has, .initialized RX1, .code yX1_has cX1_has 2 (some .boolean), .fieldLink RX1 36 "Trumpvault$Cards" "count" "I"] ++ wsX30 ++ wsX10 ++ (vx_atS RX3 68 "java/lang/IllegalStateException" ["java/lang/RuntimeException", "java/lang/Exception"]).filter goodWord ++ (vx_atS RX3 201 "java/lang/IndexOutOfBoundsException" ["java/lang/RuntimeException", "java/lang/Exception"]).filter goodWord)
def wsL_lend_r1 : List Cond := [Cond.classLink RL 13 "java/lang/IndexOutOfBoundsException", Cond.classLink RL 36 "java/lang/IllegalArgumentException", Cond.classLink RL 15 "java/lang/IllegalStateException", Cond.methodLink RL 65 yX3_lend, Cond.instanceMethod yX3_lend, Cond.selects RX3 yX3_lend yX3_lend, Cond.initialized RX3, Cond.code yX3_lend cX3_lend 5 (some .int), Cond.classLink RX3 150 "java/lang/IllegalArgumentException", Cond.initialized "java/lang/IllegalArgumentException", Cond.classLink RX3 64 "java/lang/IllegalStateException", Cond.initialized "java/lang/IllegalStateException", Cond.fieldLink RX3 10 "Trumpvault" "cards" "LTrumpvault$Cards;", Cond.fieldLink RX3 82 "Trumpvault$Cards" "owners" "[I", Cond.fieldLink RX3 92 "Trumpvault$Cards" "states" "[I", Cond.fieldLink RX3 50 "Trumpvault" "today" "I", Cond.methodLink RX3 79 yX3_needCard, Cond.instanceMethod yX3_needCard, Cond.selects RX3 yX3_needCard yX3_needCard, Cond.code yX3_needCard cX3_needCard 2 none, Cond.classLink RX3 197 "java/lang/IndexOutOfBoundsException", Cond.initialized "java/lang/IndexOutOfBoundsException", Cond.methodLink RX3 204 yX1_has, Cond.instanceMethod yX1_has]
def wsL_lend_r2 : List Cond := [Cond.selects RX1 yX1_has yX1_has, Cond.initialized RX1, Cond.code yX1_has cX1_has 2 (some .boolean), Cond.fieldLink RX1 36 "Trumpvault$Cards" "count" "I", Cond.methodLink RX3 53 yX3_needPlayer, Cond.static yX3_needPlayer, Cond.code yX3_needPlayer cX3_needPlayer 1 none, Cond.methodLink RX3 169 yX1_lendTo, Cond.instanceMethod yX1_lendTo, Cond.selects RX1 yX1_lendTo yX1_lendTo, Cond.code yX1_lendTo cX1_lendTo 4 none, Cond.fieldLink RX1 18 "Trumpvault$Cards" "states" "[I", Cond.fieldLink RX1 30 "Trumpvault$Cards" "borrowers" "[I", Cond.fieldLink RX1 33 "Trumpvault$Cards" "returnDays" "[I"]
def wsL_lend : List Cond := .codeWith yL_lend cL_lend 6 (some .int) [(0, 12, 15, 13), (0, 12, 19, 36), (0, 12, 23, 15)] :: ((wsL_lend_r1 ++ wsL_lend_r2) ++ wsX30 ++ wsX10 ++ (vx_atS RX3 154 "java/lang/IllegalArgumentException" ["java/lang/RuntimeException", "java/lang/Exception"]).filter goodWord ++ (vx_atS RX3 68 "java/lang/IllegalStateException" ["java/lang/RuntimeException", "java/lang/Exception"]).filter goodWord ++ (vx_atS RX3 201 "java/lang/IndexOutOfBoundsException" ["java/lang/RuntimeException", "java/lang/Exception"]).filter goodWord)
def wsL_ban_r1 : List Cond := [Cond.classLink RL 13 "java/lang/IndexOutOfBoundsException", Cond.classLink RL 36 "java/lang/IllegalArgumentException", Cond.methodLink RL 68 yX3_ban, Cond.instanceMethod yX3_ban, Cond.selects RX3 yX3_ban yX3_ban, Cond.initialized RX3, Cond.code yX3_ban cX3_ban 3 (some .int), Cond.classLink RX3 150 "java/lang/IllegalArgumentException", Cond.initialized "java/lang/IllegalArgumentException", Cond.fieldLink RX3 50 "Trumpvault" "today" "I", Cond.fieldLink RX3 40 "Trumpvault" "bannedFrom" "[I", Cond.methodLink RX3 57 yX3_needKind, Cond.static yX3_needKind, Cond.code yX3_needKind cX3_needKind 1 none, Cond.classLink RX3 197 "java/lang/IndexOutOfBoundsException", Cond.initialized "java/lang/IndexOutOfBoundsException", Cond.methodLink RX3 101 yX3_bannedToday, Cond.instanceMethod yX3_bannedToday, Cond.selects RX3 yX3_bannedToday yX3_bannedToday, Cond.code yX3_bannedToday cX3_bannedToday 2 (some .boolean), Cond.methodLink RX3 174 yX3_clearMarket, Cond.instanceMethod yX3_clearMarket, Cond.selects RX3 yX3_clearMarket yX3_clearMarket, Cond.code yX3_clearMarket cX3_clearMarket 4 (some .int)]
def wsL_ban_r2 : List Cond := [Cond.fieldLink RX3 10 "Trumpvault" "cards" "LTrumpvault$Cards;", Cond.fieldLink RX3 19 "Trumpvault" "bids" "LTrumpvault$Bids;", Cond.methodLink RX3 210 yX1_takeSalesOf, Cond.instanceMethod yX1_takeSalesOf, Cond.selects RX1 yX1_takeSalesOf yX1_takeSalesOf, Cond.initialized RX1, Cond.code yX1_takeSalesOf cX1_takeSalesOf 4 (some .int), Cond.fieldLink RX1 36 "Trumpvault$Cards" "count" "I", Cond.methodLink RX1 40 yX1_isOnSale, Cond.instanceMethod yX1_isOnSale, Cond.selects RX1 yX1_isOnSale yX1_isOnSale, Cond.code yX1_isOnSale cX1_isOnSale 3 (some .boolean), Cond.fieldLink RX1 18 "Trumpvault$Cards" "states" "[I", Cond.fieldLink RX1 9 "Trumpvault$Cards" "kinds" "[I", Cond.methodLink RX1 44 yX1_takeSale, Cond.instanceMethod yX1_takeSale, Cond.selects RX1 yX1_takeSale yX1_takeSale, Cond.code yX1_takeSale cX1_takeSale 2 (some .int), Cond.fieldLink RX1 21 "Trumpvault$Cards" "salePrices" "[I", Cond.methodLink RX3 124 yX0_has, Cond.instanceMethod yX0_has, Cond.selects RX0 yX0_has yX0_has, Cond.initialized RX0, Cond.code yX0_has cX0_has 3 (some .boolean)]
def wsL_ban_r3 : List Cond := [Cond.fieldLink RX0 11 "Trumpvault$Bids" "prices" "[[I", Cond.methodLink RX3 147 yX3_giveBidBack, Cond.instanceMethod yX3_giveBidBack, Cond.selects RX3 yX3_giveBidBack yX3_giveBidBack, Cond.code yX3_giveBidBack cX3_giveBidBack 4 (some .int), Cond.fieldLink RX3 30 "Trumpvault" "purses" "[I", Cond.methodLink RX3 118 yX0_take, Cond.instanceMethod yX0_take, Cond.selects RX0 yX0_take yX0_take, Cond.code yX0_take cX0_take 4 (some .int)]
def wsL_ban : List Cond := .codeWith yL_ban cL_ban 5 (some .int) [(0, 10, 13, 13), (0, 10, 17, 36)] :: ((wsL_ban_r1 ++ (wsL_ban_r2 ++ wsL_ban_r3)) ++ wsX30 ++ wsX10 ++ wsX00 ++ (vx_atS RX3 154 "java/lang/IllegalArgumentException" ["java/lang/RuntimeException", "java/lang/Exception"]).filter goodWord ++ (vx_atS RX3 201 "java/lang/IndexOutOfBoundsException" ["java/lang/RuntimeException", "java/lang/Exception"]).filter goodWord)
def wsL_lift : List Cond := .codeWith yL_lift cL_lift 4 (some .int) [(0, 16, 19, 13)] :: ([.classLink RL 13 "java/lang/IndexOutOfBoundsException", .methodLink RL 71 yX3_lift, .instanceMethod yX3_lift, .selects RX3 yX3_lift yX3_lift, .initialized RX3, .code yX3_lift cX3_lift 3 (some .boolean), .fieldLink RX3 40 "Trumpvault" "bannedFrom" "[I", .methodLink RX3 57 yX3_needKind, .static yX3_needKind, .code yX3_needKind cX3_needKind 1 none, .classLink RX3 197 "java/lang/IndexOutOfBoundsException", .initialized "java/lang/IndexOutOfBoundsException"] ++ wsX30 ++ (vx_atS RX3 201 "java/lang/IndexOutOfBoundsException" ["java/lang/RuntimeException", "java/lang/Exception"]).filter goodWord)
def wsL_isBanned : List Cond := .codeWith yL_isBanned cL_isBanned 4 (some .int) [(0, 16, 19, 13)] :: ([.classLink RL 13 "java/lang/IndexOutOfBoundsException", .methodLink RL 75 yX3_isBanned, .instanceMethod yX3_isBanned, .selects RX3 yX3_isBanned yX3_isBanned, .initialized RX3, .code yX3_isBanned cX3_isBanned 2 (some .boolean), .methodLink RX3 57 yX3_needKind, .static yX3_needKind, .code yX3_needKind cX3_needKind 1 none, .classLink RX3 197 "java/lang/IndexOutOfBoundsException", .initialized "java/lang/IndexOutOfBoundsException", .methodLink RX3 101 yX3_bannedToday, .instanceMethod yX3_bannedToday, .selects RX3 yX3_bannedToday yX3_bannedToday, .code yX3_bannedToday cX3_bannedToday 2 (some .boolean), .fieldLink RX3 40 "Trumpvault" "bannedFrom" "[I", .fieldLink RX3 50 "Trumpvault" "today" "I"] ++ wsX30 ++ (vx_atS RX3 201 "java/lang/IndexOutOfBoundsException" ["java/lang/RuntimeException", "java/lang/Exception"]).filter goodWord)
def wsL_pass_r1 : List Cond := [Cond.classLink RL 36 "java/lang/IllegalArgumentException", Cond.methodLink RL 78 yX3_pass, Cond.instanceMethod yX3_pass, Cond.selects RX3 yX3_pass yX3_pass, Cond.initialized RX3, Cond.code yX3_pass cX3_pass 3 (some .int), Cond.classLink RX3 150 "java/lang/IllegalArgumentException", Cond.initialized "java/lang/IllegalArgumentException", Cond.fieldLink RX3 50 "Trumpvault" "today" "I", Cond.fieldLink RX3 10 "Trumpvault" "cards" "LTrumpvault$Cards;", Cond.methodLink RX3 179 yX1_endLoans, Cond.instanceMethod yX1_endLoans, Cond.selects RX1 yX1_endLoans yX1_endLoans, Cond.initialized RX1, Cond.code yX1_endLoans cX1_endLoans 3 none, Cond.fieldLink RX1 36 "Trumpvault$Cards" "count" "I", Cond.fieldLink RX1 18 "Trumpvault$Cards" "states" "[I", Cond.fieldLink RX1 33 "Trumpvault$Cards" "returnDays" "[I", Cond.methodLink RX3 101 yX3_bannedToday, Cond.instanceMethod yX3_bannedToday, Cond.selects RX3 yX3_bannedToday yX3_bannedToday, Cond.code yX3_bannedToday cX3_bannedToday 2 (some .boolean), Cond.fieldLink RX3 40 "Trumpvault" "bannedFrom" "[I", Cond.methodLink RX3 174 yX3_clearMarket]
def wsL_pass_r2 : List Cond := [Cond.instanceMethod yX3_clearMarket, Cond.selects RX3 yX3_clearMarket yX3_clearMarket, Cond.code yX3_clearMarket cX3_clearMarket 4 (some .int), Cond.fieldLink RX3 19 "Trumpvault" "bids" "LTrumpvault$Bids;", Cond.methodLink RX3 210 yX1_takeSalesOf, Cond.instanceMethod yX1_takeSalesOf, Cond.selects RX1 yX1_takeSalesOf yX1_takeSalesOf, Cond.code yX1_takeSalesOf cX1_takeSalesOf 4 (some .int), Cond.methodLink RX1 40 yX1_isOnSale, Cond.instanceMethod yX1_isOnSale, Cond.selects RX1 yX1_isOnSale yX1_isOnSale, Cond.code yX1_isOnSale cX1_isOnSale 3 (some .boolean), Cond.fieldLink RX1 9 "Trumpvault$Cards" "kinds" "[I", Cond.methodLink RX1 44 yX1_takeSale, Cond.instanceMethod yX1_takeSale, Cond.selects RX1 yX1_takeSale yX1_takeSale, Cond.code yX1_takeSale cX1_takeSale 2 (some .int), Cond.fieldLink RX1 21 "Trumpvault$Cards" "salePrices" "[I", Cond.methodLink RX3 124 yX0_has, Cond.instanceMethod yX0_has, Cond.selects RX0 yX0_has yX0_has, Cond.initialized RX0, Cond.code yX0_has cX0_has 3 (some .boolean), Cond.fieldLink RX0 11 "Trumpvault$Bids" "prices" "[[I"]
def wsL_pass_r3 : List Cond := [Cond.methodLink RX3 147 yX3_giveBidBack, Cond.instanceMethod yX3_giveBidBack, Cond.selects RX3 yX3_giveBidBack yX3_giveBidBack, Cond.code yX3_giveBidBack cX3_giveBidBack 4 (some .int), Cond.fieldLink RX3 30 "Trumpvault" "purses" "[I", Cond.methodLink RX3 118 yX0_take, Cond.instanceMethod yX0_take, Cond.selects RX0 yX0_take yX0_take, Cond.code yX0_take cX0_take 4 (some .int)]
def wsL_pass : List Cond := .codeWith yL_pass cL_pass 4 (some .int) [(0, 9, 12, 36)] :: ((wsL_pass_r1 ++ (wsL_pass_r2 ++ wsL_pass_r3)) ++ wsX30 ++ wsX10 ++ wsX00 ++ (vx_atS RX3 154 "java/lang/IllegalArgumentException" ["java/lang/RuntimeException", "java/lang/Exception"]).filter goodWord)
def wsL_toggleDeck_r1 : List Cond := [Cond.classLink RL 13 "java/lang/IndexOutOfBoundsException", Cond.methodLink RL 81 yX3_toggleDeck, Cond.instanceMethod yX3_toggleDeck, Cond.selects RX3 yX3_toggleDeck yX3_toggleDeck, Cond.initialized RX3, Cond.code yX3_toggleDeck cX3_toggleDeck 3 (some .int), Cond.fieldLink RX3 43 "Trumpvault" "decks" "[I", Cond.methodLink RX3 53 yX3_needPlayer, Cond.static yX3_needPlayer, Cond.code yX3_needPlayer cX3_needPlayer 1 none, Cond.classLink RX3 197 "java/lang/IndexOutOfBoundsException", Cond.initialized "java/lang/IndexOutOfBoundsException", Cond.methodLink RX3 79 yX3_needCard, Cond.instanceMethod yX3_needCard, Cond.selects RX3 yX3_needCard yX3_needCard, Cond.code yX3_needCard cX3_needCard 2 none, Cond.fieldLink RX3 10 "Trumpvault" "cards" "LTrumpvault$Cards;", Cond.methodLink RX3 204 yX1_has, Cond.instanceMethod yX1_has, Cond.selects RX1 yX1_has yX1_has, Cond.initialized RX1, Cond.code yX1_has cX1_has 2 (some .boolean), Cond.fieldLink RX1 36 "Trumpvault$Cards" "count" "I", Cond.methodLink RX3 182 yJ6_bitCount_0f7a4]
def wsL_toggleDeck_r2 : List Cond := [Cond.static yJ6_bitCount_0f7a4, Cond.initialized RJ6, Cond.code yJ6_bitCount_0f7a4 cJ6_bitCount_0f7a4 1 (some .int), Cond.constant RJ6 265 (1431655765), Cond.constant RJ6 266 (858993459), Cond.constant RJ6 267 (252645135)]
def wsL_toggleDeck : List Cond := .codeWith yL_toggleDeck cL_toggleDeck 5 (some .int) [(0, 10, 13, 13)] :: ((wsL_toggleDeck_r1 ++ wsL_toggleDeck_r2) ++ wsX30 ++ wsX10 ++ (vx_atS RX3 201 "java/lang/IndexOutOfBoundsException" ["java/lang/RuntimeException", "java/lang/Exception"]).filter goodWord)
def wsL_isRight_r1 : List Cond := [Cond.classLink RL 13 "java/lang/IndexOutOfBoundsException", Cond.methodLink RL 84 yX3_isRight, Cond.instanceMethod yX3_isRight, Cond.selects RX3 yX3_isRight yX3_isRight, Cond.initialized RX3, Cond.code yX3_isRight cX3_isRight 2 (some .boolean), Cond.methodLink RX3 53 yX3_needPlayer, Cond.static yX3_needPlayer, Cond.code yX3_needPlayer cX3_needPlayer 1 none, Cond.classLink RX3 197 "java/lang/IndexOutOfBoundsException", Cond.initialized "java/lang/IndexOutOfBoundsException", Cond.methodLink RX3 187 yX3_deckIsRight, Cond.instanceMethod yX3_deckIsRight, Cond.selects RX3 yX3_deckIsRight yX3_deckIsRight, Cond.code yX3_deckIsRight cX3_deckIsRight 4 (some .boolean), Cond.fieldLink RX3 43 "Trumpvault" "decks" "[I", Cond.fieldLink RX3 10 "Trumpvault" "cards" "LTrumpvault$Cards;", Cond.fieldLink RX3 213 "Trumpvault$Cards" "count" "I", Cond.methodLink RX3 182 yJ6_bitCount_0f7a4, Cond.static yJ6_bitCount_0f7a4, Cond.initialized RJ6, Cond.code yJ6_bitCount_0f7a4 cJ6_bitCount_0f7a4 1 (some .int), Cond.constant RJ6 265 (1431655765), Cond.constant RJ6 266 (858993459)]
def wsL_isRight_r2 : List Cond := [Cond.constant RJ6 267 (252645135), Cond.methodLink RX3 216 yX3_inDeck, Cond.instanceMethod yX3_inDeck, Cond.selects RX3 yX3_inDeck yX3_inDeck, Cond.code yX3_inDeck cX3_inDeck 3 (some .boolean), Cond.methodLink RX3 219 yX3_isPlayable, Cond.instanceMethod yX3_isPlayable, Cond.selects RX3 yX3_isPlayable yX3_isPlayable, Cond.code yX3_isPlayable cX3_isPlayable 4 (some .boolean), Cond.fieldLink RX3 92 "Trumpvault$Cards" "states" "[I", Cond.fieldLink RX3 98 "Trumpvault$Cards" "kinds" "[I", Cond.methodLink RX3 89 yX1_holderOf, Cond.instanceMethod yX1_holderOf, Cond.selects RX1 yX1_holderOf yX1_holderOf, Cond.initialized RX1, Cond.code yX1_holderOf cX1_holderOf 2 (some .int), Cond.fieldLink RX1 18 "Trumpvault$Cards" "states" "[I", Cond.fieldLink RX1 30 "Trumpvault$Cards" "borrowers" "[I", Cond.fieldLink RX1 15 "Trumpvault$Cards" "owners" "[I", Cond.methodLink RX3 101 yX3_bannedToday, Cond.instanceMethod yX3_bannedToday, Cond.selects RX3 yX3_bannedToday yX3_bannedToday, Cond.code yX3_bannedToday cX3_bannedToday 2 (some .boolean), Cond.fieldLink RX3 40 "Trumpvault" "bannedFrom" "[I"]
def wsL_isRight_r3 : List Cond := [Cond.fieldLink RX3 50 "Trumpvault" "today" "I"]
def wsL_isRight : List Cond := .codeWith yL_isRight cL_isRight 4 (some .int) [(0, 16, 19, 13)] :: ((wsL_isRight_r1 ++ (wsL_isRight_r2 ++ wsL_isRight_r3)) ++ wsX30 ++ wsX10 ++ (vx_atS RX3 201 "java/lang/IndexOutOfBoundsException" ["java/lang/RuntimeException", "java/lang/Exception"]).filter goodWord)
def wsL_strength : List Cond := .codeWith yL_strength cL_strength 4 (some .int) [(0, 9, 12, 13)] :: ([.classLink RL 13 "java/lang/IndexOutOfBoundsException", .methodLink RL 87 yX3_strength, .instanceMethod yX3_strength, .selects RX3 yX3_strength yX3_strength, .initialized RX3, .code yX3_strength cX3_strength 2 (some .int), .methodLink RX3 53 yX3_needPlayer, .static yX3_needPlayer, .code yX3_needPlayer cX3_needPlayer 1 none, .classLink RX3 197 "java/lang/IndexOutOfBoundsException", .initialized "java/lang/IndexOutOfBoundsException", .methodLink RX3 190 yX3_deckStrength, .instanceMethod yX3_deckStrength, .selects RX3 yX3_deckStrength yX3_deckStrength, .code yX3_deckStrength cX3_deckStrength 4 (some .int), .fieldLink RX3 10 "Trumpvault" "cards" "LTrumpvault$Cards;", .fieldLink RX3 213 "Trumpvault$Cards" "count" "I", .fieldLink RX3 98 "Trumpvault$Cards" "kinds" "[I", .methodLink RX3 216 yX3_inDeck, .instanceMethod yX3_inDeck, .selects RX3 yX3_inDeck yX3_inDeck, .code yX3_inDeck cX3_inDeck 3 (some .boolean), .fieldLink RX3 43 "Trumpvault" "decks" "[I"] ++ wsX30 ++ wsX10 ++ (vx_atS RX3 201 "java/lang/IndexOutOfBoundsException" ["java/lang/RuntimeException", "java/lang/Exception"]).filter goodWord)
def wsL_play_r1 : List Cond := [Cond.classLink RL 13 "java/lang/IndexOutOfBoundsException", Cond.classLink RL 36 "java/lang/IllegalArgumentException", Cond.classLink RL 15 "java/lang/IllegalStateException", Cond.methodLink RL 90 yX3_play, Cond.instanceMethod yX3_play, Cond.selects RX3 yX3_play yX3_play, Cond.initialized RX3, Cond.code yX3_play cX3_play 4 (some .int), Cond.classLink RX3 150 "java/lang/IllegalArgumentException", Cond.initialized "java/lang/IllegalArgumentException", Cond.classLink RX3 64 "java/lang/IllegalStateException", Cond.initialized "java/lang/IllegalStateException", Cond.fieldLink RX3 30 "Trumpvault" "purses" "[I", Cond.methodLink RX3 53 yX3_needPlayer, Cond.static yX3_needPlayer, Cond.code yX3_needPlayer cX3_needPlayer 1 none, Cond.classLink RX3 197 "java/lang/IndexOutOfBoundsException", Cond.initialized "java/lang/IndexOutOfBoundsException", Cond.methodLink RX3 187 yX3_deckIsRight, Cond.instanceMethod yX3_deckIsRight, Cond.selects RX3 yX3_deckIsRight yX3_deckIsRight, Cond.code yX3_deckIsRight cX3_deckIsRight 4 (some .boolean), Cond.fieldLink RX3 43 "Trumpvault" "decks" "[I", Cond.fieldLink RX3 10 "Trumpvault" "cards" "LTrumpvault$Cards;"]
def wsL_play_r2 : List Cond := [Cond.fieldLink RX3 213 "Trumpvault$Cards" "count" "I", Cond.methodLink RX3 182 yJ6_bitCount_0f7a4, Cond.static yJ6_bitCount_0f7a4, Cond.initialized RJ6, Cond.code yJ6_bitCount_0f7a4 cJ6_bitCount_0f7a4 1 (some .int), Cond.constant RJ6 265 (1431655765), Cond.constant RJ6 266 (858993459), Cond.constant RJ6 267 (252645135), Cond.methodLink RX3 216 yX3_inDeck, Cond.instanceMethod yX3_inDeck, Cond.selects RX3 yX3_inDeck yX3_inDeck, Cond.code yX3_inDeck cX3_inDeck 3 (some .boolean), Cond.methodLink RX3 219 yX3_isPlayable, Cond.instanceMethod yX3_isPlayable, Cond.selects RX3 yX3_isPlayable yX3_isPlayable, Cond.code yX3_isPlayable cX3_isPlayable 4 (some .boolean), Cond.fieldLink RX3 92 "Trumpvault$Cards" "states" "[I", Cond.fieldLink RX3 98 "Trumpvault$Cards" "kinds" "[I", Cond.methodLink RX3 89 yX1_holderOf, Cond.instanceMethod yX1_holderOf, Cond.selects RX1 yX1_holderOf yX1_holderOf, Cond.initialized RX1, Cond.code yX1_holderOf cX1_holderOf 2 (some .int), Cond.fieldLink RX1 18 "Trumpvault$Cards" "states" "[I"]
def wsL_play_r3 : List Cond := [Cond.fieldLink RX1 30 "Trumpvault$Cards" "borrowers" "[I", Cond.fieldLink RX1 15 "Trumpvault$Cards" "owners" "[I", Cond.methodLink RX3 101 yX3_bannedToday, Cond.instanceMethod yX3_bannedToday, Cond.selects RX3 yX3_bannedToday yX3_bannedToday, Cond.code yX3_bannedToday cX3_bannedToday 2 (some .boolean), Cond.fieldLink RX3 40 "Trumpvault" "bannedFrom" "[I", Cond.fieldLink RX3 50 "Trumpvault" "today" "I", Cond.methodLink RX3 190 yX3_deckStrength, Cond.instanceMethod yX3_deckStrength, Cond.selects RX3 yX3_deckStrength yX3_deckStrength, Cond.code yX3_deckStrength cX3_deckStrength 4 (some .int)]
def wsL_play : List Cond := .codeWith yL_play cL_play 5 (some .int) [(0, 10, 13, 13), (0, 10, 17, 36), (0, 10, 21, 15)] :: ((wsL_play_r1 ++ (wsL_play_r2 ++ wsL_play_r3)) ++ wsX30 ++ wsX10 ++ (vx_atS RX3 154 "java/lang/IllegalArgumentException" ["java/lang/RuntimeException", "java/lang/Exception"]).filter goodWord ++ (vx_atS RX3 68 "java/lang/IllegalStateException" ["java/lang/RuntimeException", "java/lang/Exception"]).filter goodWord ++ (vx_atS RX3 201 "java/lang/IndexOutOfBoundsException" ["java/lang/RuntimeException", "java/lang/Exception"]).filter goodWord)
def wsL_law0_r1 : List Cond := [Cond.classLink RL 8 RX3, Cond.instantiable RX3 8, Cond.initialized RX3, Cond.classLink RL 94 RX4, Cond.instantiable RX4 17, Cond.initialized RX4, Cond.arrayClass .long, Cond.methodLink RL 93 yX3_init, Cond.instanceMethod yX3_init, Cond.code yX3_init cX3_init 1 none, Cond.methodLink RX3 1 objectInit, Cond.instanceMethod objectInit, Cond.code objectInit ⟨#[0xb1]⟩ 1 none, Cond.classLink RX3 7 RX1, Cond.instantiable RX1 9, Cond.initialized RX1, Cond.fieldLink RX3 10 "Trumpvault" "cards" "LTrumpvault$Cards;", Cond.classLink RX3 16 RX0, Cond.instantiable RX0 2, Cond.initialized RX0, Cond.fieldLink RX3 19 "Trumpvault" "bids" "LTrumpvault$Bids;", Cond.classLink RX3 23 RX2, Cond.instantiable RX2 3, Cond.initialized RX2]
def wsL_law0_r2 : List Cond := [Cond.fieldLink RX3 26 "Trumpvault" "history" "LTrumpvault$History;", Cond.arrayClass .int, Cond.fieldLink RX3 30 "Trumpvault" "purses" "[I", Cond.fieldLink RX3 40 "Trumpvault" "bannedFrom" "[I", Cond.fieldLink RX3 43 "Trumpvault" "decks" "[I", Cond.fieldLink RX3 46 "Trumpvault" "nextNumber" "I", Cond.fieldLink RX3 50 "Trumpvault" "today" "I", Cond.instanceMethod yX1_init, Cond.code yX1_init cX1_init 1 none, Cond.methodLink RX1 3 objectInit, Cond.fieldLink RX1 9 "Trumpvault$Cards" "kinds" "[I", Cond.fieldLink RX1 15 "Trumpvault$Cards" "owners" "[I", Cond.fieldLink RX1 18 "Trumpvault$Cards" "states" "[I", Cond.fieldLink RX1 21 "Trumpvault$Cards" "salePrices" "[I", Cond.fieldLink RX1 24 "Trumpvault$Cards" "saleNumbers" "[I", Cond.fieldLink RX1 27 "Trumpvault$Cards" "swapOthers" "[I", Cond.fieldLink RX1 30 "Trumpvault$Cards" "borrowers" "[I", Cond.fieldLink RX1 33 "Trumpvault$Cards" "returnDays" "[I", Cond.fieldLink RX1 36 "Trumpvault$Cards" "count" "I", Cond.instanceMethod yX0_init, Cond.code yX0_init cX0_init 1 none, Cond.methodLink RX0 3 objectInit, Cond.classLink RX0 9 "[[I", Cond.fieldLink RX0 11 "Trumpvault$Bids" "prices" "[[I"]
def wsL_law0_r3 : List Cond := [Cond.fieldLink RX0 16 "Trumpvault$Bids" "numbers" "[[I", Cond.instanceMethod yX2_init, Cond.code yX2_init cX2_init 1 none, Cond.methodLink RX2 3 objectInit, Cond.fieldLink RX2 9 "Trumpvault$History" "movedCards" "[I", Cond.fieldLink RX2 15 "Trumpvault$History" "newOwners" "[I", Cond.fieldLink RX2 18 "Trumpvault$History" "count" "I", Cond.methodLink RX3 34 yJ7_fill_53178, Cond.static yJ7_fill_53178, Cond.initialized RJ7, Cond.code yJ7_fill_53178 cJ7_fill_53178 4 none, Cond.methodLink RL 96 yX4_init, Cond.instanceMethod yX4_init, Cond.code yX4_init cX4_init 2 none, Cond.methodLink RX4 1 objectInit, Cond.fieldLink RX4 7 "TrumpvaultModel" "coins" "[I", Cond.fieldLink RX4 13 "TrumpvaultModel" "kindOf" "[I", Cond.fieldLink RX4 16 "TrumpvaultModel" "owner" "[I", Cond.fieldLink RX4 19 "TrumpvaultModel" "state" "[I", Cond.fieldLink RX4 22 "TrumpvaultModel" "price" "[I", Cond.fieldLink RX4 25 "TrumpvaultModel" "number" "[I", Cond.fieldLink RX4 28 "TrumpvaultModel" "swapFor" "[I", Cond.fieldLink RX4 31 "TrumpvaultModel" "holder" "[I", Cond.fieldLink RX4 34 "TrumpvaultModel" "back" "[I"]
def wsL_law0_r4 : List Cond := [Cond.fieldLink RX4 37 "TrumpvaultModel" "bidPrice" "[I", Cond.fieldLink RX4 40 "TrumpvaultModel" "bidNumber" "[I", Cond.fieldLink RX4 43 "TrumpvaultModel" "banDay" "[I", Cond.fieldLink RX4 46 "TrumpvaultModel" "deck" "[I", Cond.constant RX4 49 (1000000), Cond.methodLink RL 97 yL_mint, Cond.static yL_mint, Cond.initialized RL, Cond.codeWith yL_mint cL_mint 5 (some .int) [(0, 10, 13, 13), (0, 10, 17, 15)], Cond.classLink RL 13 "java/lang/IndexOutOfBoundsException", Cond.classLink RL 15 "java/lang/IllegalStateException", Cond.methodLink RL 7 yX3_mint, Cond.instanceMethod yX3_mint, Cond.selects RX3 yX3_mint yX3_mint, Cond.code yX3_mint cX3_mint 4 (some .int), Cond.classLink RX3 64 "java/lang/IllegalStateException", Cond.initialized "java/lang/IllegalStateException", Cond.methodLink RX3 53 yX3_needPlayer, Cond.static yX3_needPlayer, Cond.code yX3_needPlayer cX3_needPlayer 1 none, Cond.classLink RX3 197 "java/lang/IndexOutOfBoundsException", Cond.initialized "java/lang/IndexOutOfBoundsException", Cond.methodLink RX3 57 yX3_needKind, Cond.static yX3_needKind]
def wsL_law0_r5 : List Cond := [Cond.code yX3_needKind cX3_needKind 1 none, Cond.methodLink RX3 60 yX1_isFull, Cond.instanceMethod yX1_isFull, Cond.selects RX1 yX1_isFull yX1_isFull, Cond.code yX1_isFull cX1_isFull 1 (some .boolean), Cond.methodLink RX3 71 yX1_add, Cond.instanceMethod yX1_add, Cond.selects RX1 yX1_add yX1_add, Cond.code yX1_add cX1_add 4 (some .int), Cond.methodLink RX3 75 yX2_record, Cond.instanceMethod yX2_record, Cond.selects RX2 yX2_record yX2_record, Cond.code yX2_record cX2_record 3 none, Cond.methodLink RL 102 yX4_mint, Cond.instanceMethod yX4_mint, Cond.selects RX4 yX4_mint yX4_mint, Cond.code yX4_mint cX4_mint 3 (some .int), Cond.fieldLink RX4 58 "TrumpvaultModel" "cards" "I", Cond.methodLink RX4 64 yX4_isPlayer, Cond.static yX4_isPlayer, Cond.code yX4_isPlayer cX4_isPlayer 1 (some .boolean), Cond.methodLink RX4 54 yX4_in, Cond.static yX4_in, Cond.code yX4_in cX4_in 3 (some .boolean)]
def wsL_law0_r6 : List Cond := [Cond.methodLink RX4 68 yX4_isKind, Cond.static yX4_isKind, Cond.code yX4_isKind cX4_isKind 1 (some .boolean), Cond.methodLink RX4 71 yX4_asked_, Cond.instanceMethod yX4_asked_, Cond.selects RX4 yX4_asked_ yX4_asked_, Cond.code yX4_asked_ cX4_asked_ 3 (some .boolean), Cond.fieldLink RX4 50 "TrumpvaultModel" "thrown" "I", Cond.methodLink RL 103 yX4_thrown, Cond.instanceMethod yX4_thrown, Cond.selects RX4 yX4_thrown yX4_thrown, Cond.code yX4_thrown cX4_thrown 1 (some .int), Cond.methodLink RL 107 yL_owner, Cond.static yL_owner, Cond.codeWith yL_owner cL_owner 4 (some .int) [(0, 9, 12, 13)], Cond.methodLink RL 17 yX3_owner, Cond.instanceMethod yX3_owner, Cond.selects RX3 yX3_owner yX3_owner, Cond.code yX3_owner cX3_owner 2 (some .int), Cond.fieldLink RX3 82 "Trumpvault$Cards" "owners" "[I", Cond.methodLink RX3 79 yX3_needCard, Cond.instanceMethod yX3_needCard, Cond.selects RX3 yX3_needCard yX3_needCard, Cond.code yX3_needCard cX3_needCard 2 none]
def wsL_law0_r7 : List Cond := [Cond.methodLink RX3 204 yX1_has, Cond.instanceMethod yX1_has, Cond.selects RX1 yX1_has yX1_has, Cond.code yX1_has cX1_has 2 (some .boolean), Cond.methodLink RL 110 yX4_owner, Cond.instanceMethod yX4_owner, Cond.selects RX4 yX4_owner yX4_owner, Cond.code yX4_owner cX4_owner 2 (some .int), Cond.methodLink RX4 75 yX4_isCard, Cond.instanceMethod yX4_isCard, Cond.selects RX4 yX4_isCard yX4_isCard, Cond.code yX4_isCard cX4_isCard 2 (some .boolean), Cond.methodLink RX4 78 yX4_asked, Cond.instanceMethod yX4_asked, Cond.selects RX4 yX4_asked yX4_asked, Cond.code yX4_asked cX4_asked 2 (some .boolean), Cond.methodLink RL 111 yL_ownerByHistory, Cond.static yL_ownerByHistory, Cond.codeWith yL_ownerByHistory cL_ownerByHistory 4 (some .int) [(0, 9, 12, 13)], Cond.methodLink RL 21 yX3_ownerByHistory, Cond.instanceMethod yX3_ownerByHistory, Cond.selects RX3 yX3_ownerByHistory yX3_ownerByHistory, Cond.code yX3_ownerByHistory cX3_ownerByHistory 2 (some .int), Cond.methodLink RX3 85 yX2_lastOwner]
def wsL_law0_r8 : List Cond := [Cond.instanceMethod yX2_lastOwner, Cond.selects RX2 yX2_lastOwner yX2_lastOwner, Cond.code yX2_lastOwner cX2_lastOwner 4 (some .int), Cond.methodLink RL 113 yX4_ownerByHistory, Cond.instanceMethod yX4_ownerByHistory, Cond.selects RX4 yX4_ownerByHistory yX4_ownerByHistory, Cond.code yX4_ownerByHistory cX4_ownerByHistory 2 (some .int), Cond.methodLink RX4 81 yX4_owner, Cond.methodLink RL 114 yL_holder, Cond.static yL_holder, Cond.codeWith yL_holder cL_holder 4 (some .int) [(0, 9, 12, 13)], Cond.methodLink RL 24 yX3_holder, Cond.instanceMethod yX3_holder, Cond.selects RX3 yX3_holder yX3_holder, Cond.code yX3_holder cX3_holder 2 (some .int), Cond.methodLink RX3 89 yX1_holderOf, Cond.instanceMethod yX1_holderOf, Cond.selects RX1 yX1_holderOf yX1_holderOf, Cond.code yX1_holderOf cX1_holderOf 2 (some .int), Cond.methodLink RL 116 yX4_holder, Cond.instanceMethod yX4_holder, Cond.selects RX4 yX4_holder yX4_holder, Cond.code yX4_holder cX4_holder 2 (some .int), Cond.methodLink RX4 84 yX4_holds]
def wsL_law0_r9 : List Cond := [Cond.instanceMethod yX4_holds, Cond.selects RX4 yX4_holds yX4_holds, Cond.code yX4_holds cX4_holds 2 (some .int), Cond.methodLink RL 117 yL_stateOf, Cond.static yL_stateOf, Cond.codeWith yL_stateOf cL_stateOf 4 (some .int) [(0, 9, 12, 13)], Cond.methodLink RL 27 yX3_stateOf, Cond.instanceMethod yX3_stateOf, Cond.selects RX3 yX3_stateOf yX3_stateOf, Cond.code yX3_stateOf cX3_stateOf 2 (some .int), Cond.fieldLink RX3 92 "Trumpvault$Cards" "states" "[I", Cond.methodLink RL 119 yX4_stateOf, Cond.instanceMethod yX4_stateOf, Cond.selects RX4 yX4_stateOf yX4_stateOf, Cond.code yX4_stateOf cX4_stateOf 2 (some .int), Cond.methodLink RL 120 yL_coins, Cond.static yL_coins, Cond.codeWith yL_coins cL_coins 4 (some .int) [(0, 9, 12, 13)], Cond.methodLink RL 30 yX3_coins, Cond.instanceMethod yX3_coins, Cond.selects RX3 yX3_coins yX3_coins, Cond.code yX3_coins cX3_coins 2 (some .int), Cond.methodLink RL 122 yX4_coins, Cond.instanceMethod yX4_coins]
def wsL_law0_r10 : List Cond := [Cond.selects RX4 yX4_coins yX4_coins, Cond.code yX4_coins cX4_coins 2 (some .int), Cond.methodLink RL 123 yL_sell, Cond.static yL_sell, Cond.codeWith yL_sell cL_sell 5 (some .int) [(0, 10, 13, 13), (0, 10, 17, 36), (0, 10, 21, 15)], Cond.classLink RL 36 "java/lang/IllegalArgumentException", Cond.methodLink RL 33 yX3_sell, Cond.instanceMethod yX3_sell, Cond.selects RX3 yX3_sell yX3_sell, Cond.code yX3_sell cX3_sell 6 (some .int), Cond.fieldLink RX3 98 "Trumpvault$Cards" "kinds" "[I", Cond.fieldLink RX3 110 "Trumpvault$Bids" "prices" "[[I", Cond.methodLink RX3 95 yX3_needPrice, Cond.static yX3_needPrice, Cond.code yX3_needPrice cX3_needPrice 1 none, Cond.classLink RX3 150 "java/lang/IllegalArgumentException", Cond.initialized "java/lang/IllegalArgumentException", Cond.methodLink RX3 101 yX3_bannedToday, Cond.instanceMethod yX3_bannedToday, Cond.selects RX3 yX3_bannedToday yX3_bannedToday, Cond.code yX3_bannedToday cX3_bannedToday 2 (some .boolean), Cond.methodLink RX3 107 yX0_bestBidder, Cond.instanceMethod yX0_bestBidder, Cond.selects RX0 yX0_bestBidder yX0_bestBidder]
def wsL_law0_r11 : List Cond := [Cond.code yX0_bestBidder cX0_bestBidder 5 (some .int), Cond.methodLink RX0 19 yX0_has, Cond.instanceMethod yX0_has, Cond.selects RX0 yX0_has yX0_has, Cond.code yX0_has cX0_has 3 (some .boolean), Cond.methodLink RX0 23 yX0_isBefore, Cond.instanceMethod yX0_isBefore, Cond.selects RX0 yX0_isBefore yX0_isBefore, Cond.code yX0_isBefore cX0_isBefore 6 (some .boolean), Cond.methodLink RX3 114 yX1_putSale, Cond.instanceMethod yX1_putSale, Cond.selects RX1 yX1_putSale yX1_putSale, Cond.code yX1_putSale cX1_putSale 4 none, Cond.methodLink RX3 118 yX0_take, Cond.instanceMethod yX0_take, Cond.selects RX0 yX0_take yX0_take, Cond.code yX0_take cX0_take 4 (some .int), Cond.methodLink RX3 121 yX3_giveTo, Cond.instanceMethod yX3_giveTo, Cond.selects RX3 yX3_giveTo yX3_giveTo, Cond.code yX3_giveTo cX3_giveTo 3 none, Cond.methodLink RL 125 yX4_sell, Cond.instanceMethod yX4_sell, Cond.selects RX4 yX4_sell yX4_sell]
def wsL_law0_r12 : List Cond := [Cond.code yX4_sell cX4_sell 7 (some .int), Cond.fieldLink RX4 93 "TrumpvaultModel" "made" "I", Cond.methodLink RX4 87 yX4_banned, Cond.instanceMethod yX4_banned, Cond.selects RX4 yX4_banned yX4_banned, Cond.code yX4_banned cX4_banned 2 (some .boolean), Cond.fieldLink RX4 61 "TrumpvaultModel" "today" "I", Cond.methodLink RX4 90 yX4_asked__, Cond.instanceMethod yX4_asked__, Cond.selects RX4 yX4_asked__ yX4_asked__, Cond.code yX4_asked__ cX4_asked__ 4 (some .boolean), Cond.methodLink RX4 96 yX4_bidder, Cond.instanceMethod yX4_bidder, Cond.selects RX4 yX4_bidder yX4_bidder, Cond.code yX4_bidder cX4_bidder 7 (some .int), Cond.methodLink RL 126 yL_bid, Cond.static yL_bid, Cond.codeWith yL_bid cL_bid 6 (some .int) [(0, 12, 15, 13), (0, 12, 19, 36), (0, 12, 23, 15)], Cond.methodLink RL 38 yX3_bid, Cond.instanceMethod yX3_bid, Cond.selects RX3 yX3_bid yX3_bid, Cond.code yX3_bid cX3_bid 6 (some .int), Cond.fieldLink RX3 133 "Trumpvault$Cards" "salePrices" "[I", Cond.methodLink RX3 124 yX0_has]
def wsL_law0_r13 : List Cond := [Cond.methodLink RX3 130 yX1_bestSale, Cond.instanceMethod yX1_bestSale, Cond.selects RX1 yX1_bestSale yX1_bestSale, Cond.code yX1_bestSale cX1_bestSale 5 (some .int), Cond.methodLink RX1 40 yX1_isOnSale, Cond.instanceMethod yX1_isOnSale, Cond.selects RX1 yX1_isOnSale yX1_isOnSale, Cond.code yX1_isOnSale cX1_isOnSale 3 (some .boolean), Cond.methodLink RX1 48 yX1_saleIsBefore, Cond.instanceMethod yX1_saleIsBefore, Cond.selects RX1 yX1_saleIsBefore yX1_saleIsBefore, Cond.code yX1_saleIsBefore cX1_saleIsBefore 3 (some .boolean), Cond.methodLink RX3 136 yX0_put, Cond.instanceMethod yX0_put, Cond.selects RX0 yX0_put yX0_put, Cond.code yX0_put cX0_put 5 none, Cond.methodLink RX3 140 yX1_takeSale, Cond.instanceMethod yX1_takeSale, Cond.selects RX1 yX1_takeSale yX1_takeSale, Cond.code yX1_takeSale cX1_takeSale 2 (some .int), Cond.methodLink RL 129 yX4_bid, Cond.instanceMethod yX4_bid, Cond.selects RX4 yX4_bid yX4_bid, Cond.code yX4_bid cX4_bid 6 (some .int)]
def wsL_law0_r14 : List Cond := [Cond.methodLink RX4 100 yX4_offer, Cond.instanceMethod yX4_offer, Cond.selects RX4 yX4_offer yX4_offer, Cond.code yX4_offer cX4_offer 6 (some .int), Cond.methodLink RL 130 yL_cancelSale, Cond.static yL_cancelSale, Cond.codeWith yL_cancelSale cL_cancelSale 4 (some .int) [(0, 9, 12, 13), (0, 9, 15, 15)], Cond.methodLink RL 42 yX3_cancelSale, Cond.instanceMethod yX3_cancelSale, Cond.selects RX3 yX3_cancelSale yX3_cancelSale, Cond.code yX3_cancelSale cX3_cancelSale 2 (some .int), Cond.methodLink RL 132 yX4_cancelSale, Cond.instanceMethod yX4_cancelSale, Cond.selects RX4 yX4_cancelSale yX4_cancelSale, Cond.code yX4_cancelSale cX4_cancelSale 3 (some .int), Cond.methodLink RL 133 yL_cancelBid, Cond.static yL_cancelBid, Cond.codeWith yL_cancelBid cL_cancelBid 5 (some .int) [(0, 10, 13, 13), (0, 10, 17, 15)], Cond.methodLink RL 45 yX3_cancelBid, Cond.instanceMethod yX3_cancelBid, Cond.selects RX3 yX3_cancelBid yX3_cancelBid, Cond.code yX3_cancelBid cX3_cancelBid 3 (some .int), Cond.methodLink RX3 147 yX3_giveBidBack, Cond.instanceMethod yX3_giveBidBack]
def wsL_law0_r15 : List Cond := [Cond.selects RX3 yX3_giveBidBack yX3_giveBidBack, Cond.code yX3_giveBidBack cX3_giveBidBack 4 (some .int), Cond.methodLink RL 135 yX4_cancelBid, Cond.instanceMethod yX4_cancelBid, Cond.selects RX4 yX4_cancelBid yX4_cancelBid, Cond.code yX4_cancelBid cX4_cancelBid 5 (some .int), Cond.methodLink RL 136 yL_leastSale, Cond.static yL_leastSale, Cond.codeWith yL_leastSale cL_leastSale 4 (some .int) [(0, 9, 12, 13)], Cond.methodLink RL 48 yX3_leastSale, Cond.instanceMethod yX3_leastSale, Cond.selects RX3 yX3_leastSale yX3_leastSale, Cond.code yX3_leastSale cX3_leastSale 3 (some .int), Cond.methodLink RL 138 yX4_leastSale, Cond.instanceMethod yX4_leastSale, Cond.selects RX4 yX4_leastSale yX4_leastSale, Cond.code yX4_leastSale cX4_leastSale 3 (some .int), Cond.methodLink RL 139 yL_greatestBid, Cond.static yL_greatestBid, Cond.codeWith yL_greatestBid cL_greatestBid 4 (some .int) [(0, 9, 12, 13)], Cond.methodLink RL 51 yX3_greatestBid, Cond.instanceMethod yX3_greatestBid, Cond.selects RX3 yX3_greatestBid yX3_greatestBid, Cond.code yX3_greatestBid cX3_greatestBid 3 (some .int)]
def wsL_law0_r16 : List Cond := [Cond.methodLink RL 141 yX4_greatestBid, Cond.instanceMethod yX4_greatestBid, Cond.selects RX4 yX4_greatestBid yX4_greatestBid, Cond.code yX4_greatestBid cX4_greatestBid 3 (some .int), Cond.methodLink RL 142 yL_swap, Cond.static yL_swap, Cond.codeWith yL_swap cL_swap 4 (some .int) [(0, 6, 9, 13), (0, 6, 12, 36), (0, 6, 15, 15)], Cond.methodLink RL 54 yX3_swap, Cond.instanceMethod yX3_swap, Cond.selects RX3 yX3_swap yX3_swap, Cond.code yX3_swap cX3_swap 3 none, Cond.fieldLink RX3 157 "Trumpvault$Cards" "swapOthers" "[I", Cond.methodLink RL 145 yX4_swap, Cond.instanceMethod yX4_swap, Cond.selects RX4 yX4_swap yX4_swap, Cond.code yX4_swap cX4_swap 4 none, Cond.methodLink RL 146 yL_agree, Cond.static yL_agree, Cond.codeWith yL_agree cL_agree 4 (some .int) [(0, 9, 12, 13), (0, 9, 15, 15)], Cond.methodLink RL 58 yX3_agree, Cond.instanceMethod yX3_agree, Cond.selects RX3 yX3_agree yX3_agree, Cond.code yX3_agree cX3_agree 4 (some .int), Cond.methodLink RX3 160 yX1_canBeSwapped]
def wsL_law0_r17 : List Cond := [Cond.instanceMethod yX1_canBeSwapped, Cond.selects RX1 yX1_canBeSwapped yX1_canBeSwapped, Cond.code yX1_canBeSwapped cX1_canBeSwapped 3 (some .boolean), Cond.methodLink RX1 51 yX1_has, Cond.methodLink RL 148 yX4_agree, Cond.instanceMethod yX4_agree, Cond.selects RX4 yX4_agree yX4_agree, Cond.code yX4_agree cX4_agree 6 (some .int), Cond.methodLink RL 149 yL_cancelSwap, Cond.static yL_cancelSwap, Cond.codeWith yL_cancelSwap cL_cancelSwap 3 (some .int) [(0, 5, 8, 13), (0, 5, 11, 15)], Cond.methodLink RL 61 yX3_cancelSwap, Cond.instanceMethod yX3_cancelSwap, Cond.selects RX3 yX3_cancelSwap yX3_cancelSwap, Cond.code yX3_cancelSwap cX3_cancelSwap 2 none, Cond.methodLink RL 152 yX4_cancelSwap, Cond.instanceMethod yX4_cancelSwap, Cond.selects RX4 yX4_cancelSwap yX4_cancelSwap, Cond.code yX4_cancelSwap cX4_cancelSwap 3 none, Cond.methodLink RL 153 yL_lend, Cond.static yL_lend, Cond.codeWith yL_lend cL_lend 6 (some .int) [(0, 12, 15, 13), (0, 12, 19, 36), (0, 12, 23, 15)], Cond.methodLink RL 65 yX3_lend, Cond.instanceMethod yX3_lend]
def wsL_law0_r18 : List Cond := [Cond.selects RX3 yX3_lend yX3_lend, Cond.code yX3_lend cX3_lend 5 (some .int), Cond.methodLink RX3 169 yX1_lendTo, Cond.instanceMethod yX1_lendTo, Cond.selects RX1 yX1_lendTo yX1_lendTo, Cond.code yX1_lendTo cX1_lendTo 4 none, Cond.methodLink RL 155 yX4_lend, Cond.instanceMethod yX4_lend, Cond.selects RX4 yX4_lend yX4_lend, Cond.code yX4_lend cX4_lend 5 (some .int), Cond.methodLink RL 156 yL_ban, Cond.static yL_ban, Cond.codeWith yL_ban cL_ban 5 (some .int) [(0, 10, 13, 13), (0, 10, 17, 36)], Cond.methodLink RL 68 yX3_ban, Cond.instanceMethod yX3_ban, Cond.selects RX3 yX3_ban yX3_ban, Cond.code yX3_ban cX3_ban 3 (some .int), Cond.methodLink RX3 174 yX3_clearMarket, Cond.instanceMethod yX3_clearMarket, Cond.selects RX3 yX3_clearMarket yX3_clearMarket, Cond.code yX3_clearMarket cX3_clearMarket 4 (some .int), Cond.methodLink RX3 210 yX1_takeSalesOf, Cond.instanceMethod yX1_takeSalesOf, Cond.selects RX1 yX1_takeSalesOf yX1_takeSalesOf]
def wsL_law0_r19 : List Cond := [Cond.code yX1_takeSalesOf cX1_takeSalesOf 4 (some .int), Cond.methodLink RX1 44 yX1_takeSale, Cond.methodLink RL 158 yX4_ban, Cond.instanceMethod yX4_ban, Cond.selects RX4 yX4_ban yX4_ban, Cond.code yX4_ban cX4_ban 3 (some .int), Cond.methodLink RX4 103 yX4_clears, Cond.instanceMethod yX4_clears, Cond.selects RX4 yX4_clears yX4_clears, Cond.code yX4_clears cX4_clears 5 (some .int), Cond.methodLink RL 159 yL_lift, Cond.static yL_lift, Cond.codeWith yL_lift cL_lift 4 (some .int) [(0, 16, 19, 13)], Cond.methodLink RL 71 yX3_lift, Cond.instanceMethod yX3_lift, Cond.selects RX3 yX3_lift yX3_lift, Cond.code yX3_lift cX3_lift 3 (some .boolean), Cond.methodLink RL 161 yX4_lift, Cond.instanceMethod yX4_lift, Cond.selects RX4 yX4_lift yX4_lift, Cond.code yX4_lift cX4_lift 3 (some .boolean), Cond.methodLink RL 162 yL_isBanned, Cond.static yL_isBanned, Cond.codeWith yL_isBanned cL_isBanned 4 (some .int) [(0, 16, 19, 13)]]
def wsL_law0_r20 : List Cond := [Cond.methodLink RL 75 yX3_isBanned, Cond.instanceMethod yX3_isBanned, Cond.selects RX3 yX3_isBanned yX3_isBanned, Cond.code yX3_isBanned cX3_isBanned 2 (some .boolean), Cond.methodLink RL 164 yX4_isBanned, Cond.instanceMethod yX4_isBanned, Cond.selects RX4 yX4_isBanned yX4_isBanned, Cond.code yX4_isBanned cX4_isBanned 2 (some .boolean), Cond.methodLink RL 165 yL_pass, Cond.static yL_pass, Cond.codeWith yL_pass cL_pass 4 (some .int) [(0, 9, 12, 36)], Cond.methodLink RL 78 yX3_pass, Cond.instanceMethod yX3_pass, Cond.selects RX3 yX3_pass yX3_pass, Cond.code yX3_pass cX3_pass 3 (some .int), Cond.methodLink RX3 179 yX1_endLoans, Cond.instanceMethod yX1_endLoans, Cond.selects RX1 yX1_endLoans yX1_endLoans, Cond.code yX1_endLoans cX1_endLoans 3 none, Cond.methodLink RL 167 yX4_pass, Cond.instanceMethod yX4_pass, Cond.selects RX4 yX4_pass yX4_pass, Cond.code yX4_pass cX4_pass 3 (some .int), Cond.methodLink RL 168 yL_toggleDeck]
def wsL_law0_r21 : List Cond := [Cond.static yL_toggleDeck, Cond.codeWith yL_toggleDeck cL_toggleDeck 5 (some .int) [(0, 10, 13, 13)], Cond.methodLink RL 81 yX3_toggleDeck, Cond.instanceMethod yX3_toggleDeck, Cond.selects RX3 yX3_toggleDeck yX3_toggleDeck, Cond.code yX3_toggleDeck cX3_toggleDeck 3 (some .int), Cond.methodLink RX3 182 yJ6_bitCount_0f7a4, Cond.static yJ6_bitCount_0f7a4, Cond.initialized RJ6, Cond.code yJ6_bitCount_0f7a4 cJ6_bitCount_0f7a4 1 (some .int), Cond.constant RJ6 265 (1431655765), Cond.constant RJ6 266 (858993459), Cond.constant RJ6 267 (252645135), Cond.methodLink RL 170 yX4_toggleDeck, Cond.instanceMethod yX4_toggleDeck, Cond.selects RX4 yX4_toggleDeck yX4_toggleDeck, Cond.code yX4_toggleDeck cX4_toggleDeck 3 (some .int), Cond.methodLink RX4 106 yX4_size, Cond.instanceMethod yX4_size, Cond.selects RX4 yX4_size yX4_size, Cond.code yX4_size cX4_size 4 (some .int), Cond.methodLink RL 171 yL_isRight, Cond.static yL_isRight, Cond.codeWith yL_isRight cL_isRight 4 (some .int) [(0, 16, 19, 13)]]
def wsL_law0_r22 : List Cond := [Cond.methodLink RL 84 yX3_isRight, Cond.instanceMethod yX3_isRight, Cond.selects RX3 yX3_isRight yX3_isRight, Cond.code yX3_isRight cX3_isRight 2 (some .boolean), Cond.methodLink RX3 187 yX3_deckIsRight, Cond.instanceMethod yX3_deckIsRight, Cond.selects RX3 yX3_deckIsRight yX3_deckIsRight, Cond.code yX3_deckIsRight cX3_deckIsRight 4 (some .boolean), Cond.fieldLink RX3 213 "Trumpvault$Cards" "count" "I", Cond.methodLink RX3 216 yX3_inDeck, Cond.instanceMethod yX3_inDeck, Cond.selects RX3 yX3_inDeck yX3_inDeck, Cond.code yX3_inDeck cX3_inDeck 3 (some .boolean), Cond.methodLink RX3 219 yX3_isPlayable, Cond.instanceMethod yX3_isPlayable, Cond.selects RX3 yX3_isPlayable yX3_isPlayable, Cond.code yX3_isPlayable cX3_isPlayable 4 (some .boolean), Cond.methodLink RL 173 yX4_isRight, Cond.instanceMethod yX4_isRight, Cond.selects RX4 yX4_isRight yX4_isRight, Cond.code yX4_isRight cX4_isRight 2 (some .boolean), Cond.methodLink RX4 109 yX4_right, Cond.instanceMethod yX4_right, Cond.selects RX4 yX4_right yX4_right]
def wsL_law0_r23 : List Cond := [Cond.code yX4_right cX4_right 5 (some .boolean), Cond.methodLink RL 174 yL_strength, Cond.static yL_strength, Cond.codeWith yL_strength cL_strength 4 (some .int) [(0, 9, 12, 13)], Cond.methodLink RL 87 yX3_strength, Cond.instanceMethod yX3_strength, Cond.selects RX3 yX3_strength yX3_strength, Cond.code yX3_strength cX3_strength 2 (some .int), Cond.methodLink RX3 190 yX3_deckStrength, Cond.instanceMethod yX3_deckStrength, Cond.selects RX3 yX3_deckStrength yX3_deckStrength, Cond.code yX3_deckStrength cX3_deckStrength 4 (some .int), Cond.methodLink RL 176 yX4_strength, Cond.instanceMethod yX4_strength, Cond.selects RX4 yX4_strength yX4_strength, Cond.code yX4_strength cX4_strength 2 (some .int), Cond.methodLink RX4 112 yX4_strengthOf, Cond.instanceMethod yX4_strengthOf, Cond.selects RX4 yX4_strengthOf yX4_strengthOf, Cond.code yX4_strengthOf cX4_strengthOf 4 (some .int), Cond.methodLink RL 177 yL_play, Cond.static yL_play, Cond.codeWith yL_play cL_play 5 (some .int) [(0, 10, 13, 13), (0, 10, 17, 36), (0, 10, 21, 15)], Cond.methodLink RL 90 yX3_play]
def wsL_law0_r24 : List Cond := [Cond.instanceMethod yX3_play, Cond.selects RX3 yX3_play yX3_play, Cond.code yX3_play cX3_play 4 (some .int), Cond.methodLink RL 179 yX4_play, Cond.instanceMethod yX4_play, Cond.selects RX4 yX4_play yX4_play, Cond.code yX4_play cX4_play 5 (some .int)]
def wsL_law0 : List Cond := (wsL_law0_r1 ++ (wsL_law0_r2 ++ (wsL_law0_r3 ++ (wsL_law0_r4 ++ (wsL_law0_r5 ++ (wsL_law0_r6 ++ (wsL_law0_r7 ++ (wsL_law0_r8 ++ (wsL_law0_r9 ++ (wsL_law0_r10 ++ (wsL_law0_r11 ++ (wsL_law0_r12 ++ (wsL_law0_r13 ++ (wsL_law0_r14 ++ (wsL_law0_r15 ++ (wsL_law0_r16 ++ (wsL_law0_r17 ++ (wsL_law0_r18 ++ (wsL_law0_r19 ++ (wsL_law0_r20 ++ (wsL_law0_r21 ++ (wsL_law0_r22 ++ (wsL_law0_r23 ++ wsL_law0_r24))))))))))))))))))))))) ++ wsX30 ++ wsX40 ++ wsX10 ++ wsX00 ++ wsX20 ++ ([] : List Cond)
def wsL_law : List Cond := wsL_law0 ++ (vx_atS RX3 68 "java/lang/IllegalStateException" ["java/lang/RuntimeException", "java/lang/Exception"]).filter goodWord ++ (vx_atS RX3 201 "java/lang/IndexOutOfBoundsException" ["java/lang/RuntimeException", "java/lang/Exception"]).filter goodWord ++ (vx_atS RX3 154 "java/lang/IllegalArgumentException" ["java/lang/RuntimeException", "java/lang/Exception"]).filter goodWord
abbrev vwCl : List vw_C := [(RX0, TX0, 2), (RX1, TX1, 9), (RX2, TX2, 3), (RX3, TX3, 8), (RX4, TX4, 17)]
end
section
theorem dX0_init_0 : decode cX0_init 0 = .ok (.aload_n 0, 1) := by decide +kernel
theorem dX0_init_1 : decode cX0_init 1 = .ok (.invokespecial 3, 3) := by decide +kernel
theorem dX0_init_4 : decode cX0_init 4 = .ok (.aload_n 0, 1) := by decide +kernel
theorem dX0_init_5 : decode cX0_init 5 = .ok (.iconst 5, 1) := by decide +kernel
theorem dX0_init_6 : decode cX0_init 6 = .ok (.bipush 8, 2) := by decide +kernel
theorem dX0_init_8 : decode cX0_init 8 = .ok (.multianewarray 9 2, 4) := by decide +kernel
theorem dX0_init_12 : decode cX0_init 12 = .ok (.putfield 11, 3) := by decide +kernel
theorem dX0_init_15 : decode cX0_init 15 = .ok (.aload_n 0, 1) := by decide +kernel
theorem dX0_init_16 : decode cX0_init 16 = .ok (.iconst 5, 1) := by decide +kernel
theorem dX0_init_17 : decode cX0_init 17 = .ok (.bipush 8, 2) := by decide +kernel
theorem dX0_init_19 : decode cX0_init 19 = .ok (.multianewarray 9 2, 4) := by decide +kernel
theorem dX0_init_23 : decode cX0_init 23 = .ok (.putfield 16, 3) := by decide +kernel
theorem dX0_init_26 : decode cX0_init 26 = .ok (.return_, 1) := by decide +kernel
theorem dX0_has_0 : decode cX0_has 0 = .ok (.aload_n 0, 1) := by decide +kernel
theorem dX0_has_1 : decode cX0_has 1 = .ok (.getfield 11, 3) := by decide +kernel
theorem dX0_has_4 : decode cX0_has 4 = .ok (.iload_n 1, 1) := by decide +kernel
theorem dX0_has_5 : decode cX0_has 5 = .ok (.aaload, 1) := by decide +kernel
theorem dX0_has_6 : decode cX0_has 6 = .ok (.iload_n 2, 1) := by decide +kernel
theorem dX0_has_7 : decode cX0_has 7 = .ok (.iaload, 1) := by decide +kernel
theorem dX0_has_8 : decode cX0_has 8 = .ok (.ifCond .eq 7, 3) := by decide +kernel
theorem dX0_has_11 : decode cX0_has 11 = .ok (.iconst 1, 1) := by decide +kernel
theorem dX0_has_12 : decode cX0_has 12 = .ok (.goto 4, 3) := by decide +kernel
theorem dX0_has_15 : decode cX0_has 15 = .ok (.iconst 0, 1) := by decide +kernel
theorem dX0_has_16 : decode cX0_has 16 = .ok (.ireturn, 1) := by decide +kernel
theorem dX0_put_0 : decode cX0_put 0 = .ok (.aload_n 0, 1) := by decide +kernel
theorem dX0_put_1 : decode cX0_put 1 = .ok (.getfield 11, 3) := by decide +kernel
theorem dX0_put_4 : decode cX0_put 4 = .ok (.iload_n 1, 1) := by decide +kernel
theorem dX0_put_5 : decode cX0_put 5 = .ok (.aaload, 1) := by decide +kernel
theorem dX0_put_6 : decode cX0_put 6 = .ok (.iload_n 2, 1) := by decide +kernel
theorem dX0_put_7 : decode cX0_put 7 = .ok (.iload_n 3, 1) := by decide +kernel
theorem dX0_put_8 : decode cX0_put 8 = .ok (.iastore, 1) := by decide +kernel
theorem dX0_put_9 : decode cX0_put 9 = .ok (.aload_n 0, 1) := by decide +kernel
theorem dX0_put_10 : decode cX0_put 10 = .ok (.getfield 16, 3) := by decide +kernel
theorem dX0_put_13 : decode cX0_put 13 = .ok (.iload_n 1, 1) := by decide +kernel
theorem dX0_put_14 : decode cX0_put 14 = .ok (.aaload, 1) := by decide +kernel
theorem dX0_put_15 : decode cX0_put 15 = .ok (.iload_n 2, 1) := by decide +kernel
theorem dX0_put_16 : decode cX0_put 16 = .ok (.iload 4, 2) := by decide +kernel
theorem dX0_put_18 : decode cX0_put 18 = .ok (.iastore, 1) := by decide +kernel
theorem dX0_put_19 : decode cX0_put 19 = .ok (.return_, 1) := by decide +kernel
theorem dX0_take_0 : decode cX0_take 0 = .ok (.aload_n 0, 1) := by decide +kernel
theorem dX0_take_1 : decode cX0_take 1 = .ok (.getfield 11, 3) := by decide +kernel
theorem dX0_take_4 : decode cX0_take 4 = .ok (.iload_n 1, 1) := by decide +kernel
theorem dX0_take_5 : decode cX0_take 5 = .ok (.aaload, 1) := by decide +kernel
theorem dX0_take_6 : decode cX0_take 6 = .ok (.iload_n 2, 1) := by decide +kernel
theorem dX0_take_7 : decode cX0_take 7 = .ok (.iaload, 1) := by decide +kernel
theorem dX0_take_8 : decode cX0_take 8 = .ok (.istore_n 3, 1) := by decide +kernel
theorem dX0_take_9 : decode cX0_take 9 = .ok (.aload_n 0, 1) := by decide +kernel
theorem dX0_take_10 : decode cX0_take 10 = .ok (.getfield 11, 3) := by decide +kernel
theorem dX0_take_13 : decode cX0_take 13 = .ok (.iload_n 1, 1) := by decide +kernel
theorem dX0_take_14 : decode cX0_take 14 = .ok (.aaload, 1) := by decide +kernel
theorem dX0_take_15 : decode cX0_take 15 = .ok (.iload_n 2, 1) := by decide +kernel
theorem dX0_take_16 : decode cX0_take 16 = .ok (.iconst 0, 1) := by decide +kernel
theorem dX0_take_17 : decode cX0_take 17 = .ok (.iastore, 1) := by decide +kernel
theorem dX0_take_18 : decode cX0_take 18 = .ok (.iload_n 3, 1) := by decide +kernel
theorem dX0_take_19 : decode cX0_take 19 = .ok (.ireturn, 1) := by decide +kernel
theorem dX0_bestBidder_0 : decode cX0_bestBidder 0 = .ok (.iconst (-1), 1) := by decide +kernel
theorem dX0_bestBidder_1 : decode cX0_bestBidder 1 = .ok (.istore_n 3, 1) := by decide +kernel
theorem dX0_bestBidder_2 : decode cX0_bestBidder 2 = .ok (.iconst 0, 1) := by decide +kernel
theorem dX0_bestBidder_3 : decode cX0_bestBidder 3 = .ok (.istore 4, 2) := by decide +kernel
theorem dX0_bestBidder_5 : decode cX0_bestBidder 5 = .ok (.iload 4, 2) := by decide +kernel
theorem dX0_bestBidder_7 : decode cX0_bestBidder 7 = .ok (.iconst 5, 1) := by decide +kernel
theorem dX0_bestBidder_8 : decode cX0_bestBidder 8 = .ok (.if_icmp .ge 44, 3) := by decide +kernel
theorem dX0_bestBidder_11 : decode cX0_bestBidder 11 = .ok (.aload_n 0, 1) := by decide +kernel
theorem dX0_bestBidder_12 : decode cX0_bestBidder 12 = .ok (.iload 4, 2) := by decide +kernel
theorem dX0_bestBidder_14 : decode cX0_bestBidder 14 = .ok (.iload_n 1, 1) := by decide +kernel
theorem dX0_bestBidder_15 : decode cX0_bestBidder 15 = .ok (.invokevirtual 19, 3) := by decide +kernel
theorem dX0_bestBidder_18 : decode cX0_bestBidder 18 = .ok (.ifCond .eq 28, 3) := by decide +kernel
theorem dX0_bestBidder_21 : decode cX0_bestBidder 21 = .ok (.iload 4, 2) := by decide +kernel
theorem dX0_bestBidder_23 : decode cX0_bestBidder 23 = .ok (.iload_n 2, 1) := by decide +kernel
theorem dX0_bestBidder_24 : decode cX0_bestBidder 24 = .ok (.if_icmp .eq 22, 3) := by decide +kernel
theorem dX0_bestBidder_27 : decode cX0_bestBidder 27 = .ok (.iload_n 3, 1) := by decide +kernel
theorem dX0_bestBidder_28 : decode cX0_bestBidder 28 = .ok (.iconst (-1), 1) := by decide +kernel
theorem dX0_bestBidder_29 : decode cX0_bestBidder 29 = .ok (.if_icmp .eq 14, 3) := by decide +kernel
theorem dX0_bestBidder_32 : decode cX0_bestBidder 32 = .ok (.aload_n 0, 1) := by decide +kernel
theorem dX0_bestBidder_33 : decode cX0_bestBidder 33 = .ok (.iload 4, 2) := by decide +kernel
theorem dX0_bestBidder_35 : decode cX0_bestBidder 35 = .ok (.iload_n 3, 1) := by decide +kernel
theorem dX0_bestBidder_36 : decode cX0_bestBidder 36 = .ok (.iload_n 1, 1) := by decide +kernel
theorem dX0_bestBidder_37 : decode cX0_bestBidder 37 = .ok (.invokevirtual 23, 3) := by decide +kernel
theorem dX0_bestBidder_40 : decode cX0_bestBidder 40 = .ok (.ifCond .eq 6, 3) := by decide +kernel
theorem dX0_bestBidder_43 : decode cX0_bestBidder 43 = .ok (.iload 4, 2) := by decide +kernel
theorem dX0_bestBidder_45 : decode cX0_bestBidder 45 = .ok (.istore_n 3, 1) := by decide +kernel
theorem dX0_bestBidder_46 : decode cX0_bestBidder 46 = .ok (.iinc 4 1, 3) := by decide +kernel
theorem dX0_bestBidder_49 : decode cX0_bestBidder 49 = .ok (.goto (-44), 3) := by decide +kernel
theorem dX0_bestBidder_52 : decode cX0_bestBidder 52 = .ok (.iload_n 3, 1) := by decide +kernel
theorem dX0_bestBidder_53 : decode cX0_bestBidder 53 = .ok (.ireturn, 1) := by decide +kernel
theorem dX0_isBefore_0 : decode cX0_isBefore 0 = .ok (.aload_n 0, 1) := by decide +kernel
theorem dX0_isBefore_1 : decode cX0_isBefore 1 = .ok (.getfield 11, 3) := by decide +kernel
theorem dX0_isBefore_4 : decode cX0_isBefore 4 = .ok (.iload_n 1, 1) := by decide +kernel
theorem dX0_isBefore_5 : decode cX0_isBefore 5 = .ok (.aaload, 1) := by decide +kernel
theorem dX0_isBefore_6 : decode cX0_isBefore 6 = .ok (.iload_n 3, 1) := by decide +kernel
theorem dX0_isBefore_7 : decode cX0_isBefore 7 = .ok (.iaload, 1) := by decide +kernel
theorem dX0_isBefore_8 : decode cX0_isBefore 8 = .ok (.istore 4, 2) := by decide +kernel
theorem dX0_isBefore_10 : decode cX0_isBefore 10 = .ok (.aload_n 0, 1) := by decide +kernel
theorem dX0_isBefore_11 : decode cX0_isBefore 11 = .ok (.getfield 11, 3) := by decide +kernel
theorem dX0_isBefore_14 : decode cX0_isBefore 14 = .ok (.iload_n 2, 1) := by decide +kernel
theorem dX0_isBefore_15 : decode cX0_isBefore 15 = .ok (.aaload, 1) := by decide +kernel
theorem dX0_isBefore_16 : decode cX0_isBefore 16 = .ok (.iload_n 3, 1) := by decide +kernel
theorem dX0_isBefore_17 : decode cX0_isBefore 17 = .ok (.iaload, 1) := by decide +kernel
theorem dX0_isBefore_18 : decode cX0_isBefore 18 = .ok (.istore 5, 2) := by decide +kernel
theorem dX0_isBefore_20 : decode cX0_isBefore 20 = .ok (.iload 4, 2) := by decide +kernel
theorem dX0_isBefore_22 : decode cX0_isBefore 22 = .ok (.iload 5, 2) := by decide +kernel
theorem dX0_isBefore_24 : decode cX0_isBefore 24 = .ok (.if_icmp .gt 29, 3) := by decide +kernel
theorem dX0_isBefore_27 : decode cX0_isBefore 27 = .ok (.iload 4, 2) := by decide +kernel
theorem dX0_isBefore_29 : decode cX0_isBefore 29 = .ok (.iload 5, 2) := by decide +kernel
theorem dX0_isBefore_31 : decode cX0_isBefore 31 = .ok (.if_icmp .ne 26, 3) := by decide +kernel
theorem dX0_isBefore_34 : decode cX0_isBefore 34 = .ok (.aload_n 0, 1) := by decide +kernel
theorem dX0_isBefore_35 : decode cX0_isBefore 35 = .ok (.getfield 16, 3) := by decide +kernel
theorem dX0_isBefore_38 : decode cX0_isBefore 38 = .ok (.iload_n 1, 1) := by decide +kernel
theorem dX0_isBefore_39 : decode cX0_isBefore 39 = .ok (.aaload, 1) := by decide +kernel
theorem dX0_isBefore_40 : decode cX0_isBefore 40 = .ok (.iload_n 3, 1) := by decide +kernel
theorem dX0_isBefore_41 : decode cX0_isBefore 41 = .ok (.iaload, 1) := by decide +kernel
theorem dX0_isBefore_42 : decode cX0_isBefore 42 = .ok (.aload_n 0, 1) := by decide +kernel
theorem dX0_isBefore_43 : decode cX0_isBefore 43 = .ok (.getfield 16, 3) := by decide +kernel
theorem dX0_isBefore_46 : decode cX0_isBefore 46 = .ok (.iload_n 2, 1) := by decide +kernel
theorem dX0_isBefore_47 : decode cX0_isBefore 47 = .ok (.aaload, 1) := by decide +kernel
theorem dX0_isBefore_48 : decode cX0_isBefore 48 = .ok (.iload_n 3, 1) := by decide +kernel
theorem dX0_isBefore_49 : decode cX0_isBefore 49 = .ok (.iaload, 1) := by decide +kernel
theorem dX0_isBefore_50 : decode cX0_isBefore 50 = .ok (.if_icmp .ge 7, 3) := by decide +kernel
theorem dX0_isBefore_53 : decode cX0_isBefore 53 = .ok (.iconst 1, 1) := by decide +kernel
theorem dX0_isBefore_54 : decode cX0_isBefore 54 = .ok (.goto 4, 3) := by decide +kernel
theorem dX0_isBefore_57 : decode cX0_isBefore 57 = .ok (.iconst 0, 1) := by decide +kernel
theorem dX0_isBefore_58 : decode cX0_isBefore 58 = .ok (.ireturn, 1) := by decide +kernel
theorem dX1_init_0 : decode cX1_init 0 = .ok (.aload_n 0, 1) := by decide +kernel
theorem dX1_init_1 : decode cX1_init 1 = .ok (.invokespecial 3, 3) := by decide +kernel
theorem dX1_init_4 : decode cX1_init 4 = .ok (.aload_n 0, 1) := by decide +kernel
theorem dX1_init_5 : decode cX1_init 5 = .ok (.bipush 30, 2) := by decide +kernel
theorem dX1_init_7 : decode cX1_init 7 = .ok (.newarray .int, 2) := by decide +kernel
theorem dX1_init_9 : decode cX1_init 9 = .ok (.putfield 9, 3) := by decide +kernel
theorem dX1_init_12 : decode cX1_init 12 = .ok (.aload_n 0, 1) := by decide +kernel
theorem dX1_init_13 : decode cX1_init 13 = .ok (.bipush 30, 2) := by decide +kernel
theorem dX1_init_15 : decode cX1_init 15 = .ok (.newarray .int, 2) := by decide +kernel
theorem dX1_init_17 : decode cX1_init 17 = .ok (.putfield 15, 3) := by decide +kernel
theorem dX1_init_20 : decode cX1_init 20 = .ok (.aload_n 0, 1) := by decide +kernel
theorem dX1_init_21 : decode cX1_init 21 = .ok (.bipush 30, 2) := by decide +kernel
theorem dX1_init_23 : decode cX1_init 23 = .ok (.newarray .int, 2) := by decide +kernel
theorem dX1_init_25 : decode cX1_init 25 = .ok (.putfield 18, 3) := by decide +kernel
theorem dX1_init_28 : decode cX1_init 28 = .ok (.aload_n 0, 1) := by decide +kernel
theorem dX1_init_29 : decode cX1_init 29 = .ok (.bipush 30, 2) := by decide +kernel
theorem dX1_init_31 : decode cX1_init 31 = .ok (.newarray .int, 2) := by decide +kernel
theorem dX1_init_33 : decode cX1_init 33 = .ok (.putfield 21, 3) := by decide +kernel
theorem dX1_init_36 : decode cX1_init 36 = .ok (.aload_n 0, 1) := by decide +kernel
theorem dX1_init_37 : decode cX1_init 37 = .ok (.bipush 30, 2) := by decide +kernel
theorem dX1_init_39 : decode cX1_init 39 = .ok (.newarray .int, 2) := by decide +kernel
theorem dX1_init_41 : decode cX1_init 41 = .ok (.putfield 24, 3) := by decide +kernel
theorem dX1_init_44 : decode cX1_init 44 = .ok (.aload_n 0, 1) := by decide +kernel
theorem dX1_init_45 : decode cX1_init 45 = .ok (.bipush 30, 2) := by decide +kernel
theorem dX1_init_47 : decode cX1_init 47 = .ok (.newarray .int, 2) := by decide +kernel
theorem dX1_init_49 : decode cX1_init 49 = .ok (.putfield 27, 3) := by decide +kernel
theorem dX1_init_52 : decode cX1_init 52 = .ok (.aload_n 0, 1) := by decide +kernel
theorem dX1_init_53 : decode cX1_init 53 = .ok (.bipush 30, 2) := by decide +kernel
theorem dX1_init_55 : decode cX1_init 55 = .ok (.newarray .int, 2) := by decide +kernel
theorem dX1_init_57 : decode cX1_init 57 = .ok (.putfield 30, 3) := by decide +kernel
theorem dX1_init_60 : decode cX1_init 60 = .ok (.aload_n 0, 1) := by decide +kernel
theorem dX1_init_61 : decode cX1_init 61 = .ok (.bipush 30, 2) := by decide +kernel
theorem dX1_init_63 : decode cX1_init 63 = .ok (.newarray .int, 2) := by decide +kernel
theorem dX1_init_65 : decode cX1_init 65 = .ok (.putfield 33, 3) := by decide +kernel
theorem dX1_init_68 : decode cX1_init 68 = .ok (.aload_n 0, 1) := by decide +kernel
theorem dX1_init_69 : decode cX1_init 69 = .ok (.iconst 0, 1) := by decide +kernel
theorem dX1_init_70 : decode cX1_init 70 = .ok (.putfield 36, 3) := by decide +kernel
theorem dX1_init_73 : decode cX1_init 73 = .ok (.return_, 1) := by decide +kernel
theorem dX1_has_0 : decode cX1_has 0 = .ok (.iload_n 1, 1) := by decide +kernel
theorem dX1_has_1 : decode cX1_has 1 = .ok (.ifCond .lt 15, 3) := by decide +kernel
theorem dX1_has_4 : decode cX1_has 4 = .ok (.iload_n 1, 1) := by decide +kernel
theorem dX1_has_5 : decode cX1_has 5 = .ok (.aload_n 0, 1) := by decide +kernel
theorem dX1_has_6 : decode cX1_has 6 = .ok (.getfield 36, 3) := by decide +kernel
theorem dX1_has_9 : decode cX1_has 9 = .ok (.if_icmp .ge 7, 3) := by decide +kernel
theorem dX1_has_12 : decode cX1_has 12 = .ok (.iconst 1, 1) := by decide +kernel
theorem dX1_has_13 : decode cX1_has 13 = .ok (.goto 4, 3) := by decide +kernel
theorem dX1_has_16 : decode cX1_has 16 = .ok (.iconst 0, 1) := by decide +kernel
theorem dX1_has_17 : decode cX1_has 17 = .ok (.ireturn, 1) := by decide +kernel
theorem dX1_isFull_0 : decode cX1_isFull 0 = .ok (.aload_n 0, 1) := by decide +kernel
theorem dX1_isFull_1 : decode cX1_isFull 1 = .ok (.getfield 36, 3) := by decide +kernel
theorem dX1_isFull_4 : decode cX1_isFull 4 = .ok (.bipush 30, 2) := by decide +kernel
theorem dX1_isFull_6 : decode cX1_isFull 6 = .ok (.if_icmp .lt 7, 3) := by decide +kernel
theorem dX1_isFull_9 : decode cX1_isFull 9 = .ok (.iconst 1, 1) := by decide +kernel
theorem dX1_isFull_10 : decode cX1_isFull 10 = .ok (.goto 4, 3) := by decide +kernel
theorem dX1_isFull_13 : decode cX1_isFull 13 = .ok (.iconst 0, 1) := by decide +kernel
theorem dX1_isFull_14 : decode cX1_isFull 14 = .ok (.ireturn, 1) := by decide +kernel
theorem dX1_add_0 : decode cX1_add 0 = .ok (.aload_n 0, 1) := by decide +kernel
theorem dX1_add_1 : decode cX1_add 1 = .ok (.getfield 36, 3) := by decide +kernel
theorem dX1_add_4 : decode cX1_add 4 = .ok (.istore_n 3, 1) := by decide +kernel
theorem dX1_add_5 : decode cX1_add 5 = .ok (.aload_n 0, 1) := by decide +kernel
theorem dX1_add_6 : decode cX1_add 6 = .ok (.getfield 9, 3) := by decide +kernel
theorem dX1_add_9 : decode cX1_add 9 = .ok (.iload_n 3, 1) := by decide +kernel
theorem dX1_add_10 : decode cX1_add 10 = .ok (.iload_n 2, 1) := by decide +kernel
theorem dX1_add_11 : decode cX1_add 11 = .ok (.iastore, 1) := by decide +kernel
theorem dX1_add_12 : decode cX1_add 12 = .ok (.aload_n 0, 1) := by decide +kernel
theorem dX1_add_13 : decode cX1_add 13 = .ok (.getfield 15, 3) := by decide +kernel
theorem dX1_add_16 : decode cX1_add 16 = .ok (.iload_n 3, 1) := by decide +kernel
theorem dX1_add_17 : decode cX1_add 17 = .ok (.iload_n 1, 1) := by decide +kernel
theorem dX1_add_18 : decode cX1_add 18 = .ok (.iastore, 1) := by decide +kernel
theorem dX1_add_19 : decode cX1_add 19 = .ok (.aload_n 0, 1) := by decide +kernel
theorem dX1_add_20 : decode cX1_add 20 = .ok (.getfield 18, 3) := by decide +kernel
theorem dX1_add_23 : decode cX1_add 23 = .ok (.iload_n 3, 1) := by decide +kernel
theorem dX1_add_24 : decode cX1_add 24 = .ok (.iconst 0, 1) := by decide +kernel
theorem dX1_add_25 : decode cX1_add 25 = .ok (.iastore, 1) := by decide +kernel
theorem dX1_add_26 : decode cX1_add 26 = .ok (.aload_n 0, 1) := by decide +kernel
theorem dX1_add_27 : decode cX1_add 27 = .ok (.dup, 1) := by decide +kernel
theorem dX1_add_28 : decode cX1_add 28 = .ok (.getfield 36, 3) := by decide +kernel
theorem dX1_add_31 : decode cX1_add 31 = .ok (.iconst 1, 1) := by decide +kernel
theorem dX1_add_32 : decode cX1_add 32 = .ok (.iadd, 1) := by decide +kernel
theorem dX1_add_33 : decode cX1_add 33 = .ok (.putfield 36, 3) := by decide +kernel
theorem dX1_add_36 : decode cX1_add 36 = .ok (.iload_n 3, 1) := by decide +kernel
theorem dX1_add_37 : decode cX1_add 37 = .ok (.ireturn, 1) := by decide +kernel
theorem dX1_holderOf_0 : decode cX1_holderOf 0 = .ok (.aload_n 0, 1) := by decide +kernel
theorem dX1_holderOf_1 : decode cX1_holderOf 1 = .ok (.getfield 18, 3) := by decide +kernel
theorem dX1_holderOf_4 : decode cX1_holderOf 4 = .ok (.iload_n 1, 1) := by decide +kernel
theorem dX1_holderOf_5 : decode cX1_holderOf 5 = .ok (.iaload, 1) := by decide +kernel
theorem dX1_holderOf_6 : decode cX1_holderOf 6 = .ok (.iconst 3, 1) := by decide +kernel
theorem dX1_holderOf_7 : decode cX1_holderOf 7 = .ok (.if_icmp .ne 12, 3) := by decide +kernel
theorem dX1_holderOf_10 : decode cX1_holderOf 10 = .ok (.aload_n 0, 1) := by decide +kernel
theorem dX1_holderOf_11 : decode cX1_holderOf 11 = .ok (.getfield 30, 3) := by decide +kernel
theorem dX1_holderOf_14 : decode cX1_holderOf 14 = .ok (.iload_n 1, 1) := by decide +kernel
theorem dX1_holderOf_15 : decode cX1_holderOf 15 = .ok (.iaload, 1) := by decide +kernel
theorem dX1_holderOf_16 : decode cX1_holderOf 16 = .ok (.goto 9, 3) := by decide +kernel
theorem dX1_holderOf_19 : decode cX1_holderOf 19 = .ok (.aload_n 0, 1) := by decide +kernel
theorem dX1_holderOf_20 : decode cX1_holderOf 20 = .ok (.getfield 15, 3) := by decide +kernel
theorem dX1_holderOf_23 : decode cX1_holderOf 23 = .ok (.iload_n 1, 1) := by decide +kernel
theorem dX1_holderOf_24 : decode cX1_holderOf 24 = .ok (.iaload, 1) := by decide +kernel
theorem dX1_holderOf_25 : decode cX1_holderOf 25 = .ok (.ireturn, 1) := by decide +kernel
theorem dX1_putSale_0 : decode cX1_putSale 0 = .ok (.aload_n 0, 1) := by decide +kernel
theorem dX1_putSale_1 : decode cX1_putSale 1 = .ok (.getfield 18, 3) := by decide +kernel
theorem dX1_putSale_4 : decode cX1_putSale 4 = .ok (.iload_n 1, 1) := by decide +kernel
theorem dX1_putSale_5 : decode cX1_putSale 5 = .ok (.iconst 1, 1) := by decide +kernel
theorem dX1_putSale_6 : decode cX1_putSale 6 = .ok (.iastore, 1) := by decide +kernel
theorem dX1_putSale_7 : decode cX1_putSale 7 = .ok (.aload_n 0, 1) := by decide +kernel
theorem dX1_putSale_8 : decode cX1_putSale 8 = .ok (.getfield 21, 3) := by decide +kernel
theorem dX1_putSale_11 : decode cX1_putSale 11 = .ok (.iload_n 1, 1) := by decide +kernel
theorem dX1_putSale_12 : decode cX1_putSale 12 = .ok (.iload_n 2, 1) := by decide +kernel
theorem dX1_putSale_13 : decode cX1_putSale 13 = .ok (.iastore, 1) := by decide +kernel
theorem dX1_putSale_14 : decode cX1_putSale 14 = .ok (.aload_n 0, 1) := by decide +kernel
theorem dX1_putSale_15 : decode cX1_putSale 15 = .ok (.getfield 24, 3) := by decide +kernel
theorem dX1_putSale_18 : decode cX1_putSale 18 = .ok (.iload_n 1, 1) := by decide +kernel
theorem dX1_putSale_19 : decode cX1_putSale 19 = .ok (.iload_n 3, 1) := by decide +kernel
theorem dX1_putSale_20 : decode cX1_putSale 20 = .ok (.iastore, 1) := by decide +kernel
theorem dX1_putSale_21 : decode cX1_putSale 21 = .ok (.return_, 1) := by decide +kernel
theorem dX1_takeSale_0 : decode cX1_takeSale 0 = .ok (.aload_n 0, 1) := by decide +kernel
theorem dX1_takeSale_1 : decode cX1_takeSale 1 = .ok (.getfield 18, 3) := by decide +kernel
theorem dX1_takeSale_4 : decode cX1_takeSale 4 = .ok (.iload_n 1, 1) := by decide +kernel
theorem dX1_takeSale_5 : decode cX1_takeSale 5 = .ok (.iconst 0, 1) := by decide +kernel
theorem dX1_takeSale_6 : decode cX1_takeSale 6 = .ok (.iastore, 1) := by decide +kernel
theorem dX1_takeSale_7 : decode cX1_takeSale 7 = .ok (.aload_n 0, 1) := by decide +kernel
theorem dX1_takeSale_8 : decode cX1_takeSale 8 = .ok (.getfield 21, 3) := by decide +kernel
theorem dX1_takeSale_11 : decode cX1_takeSale 11 = .ok (.iload_n 1, 1) := by decide +kernel
theorem dX1_takeSale_12 : decode cX1_takeSale 12 = .ok (.iaload, 1) := by decide +kernel
theorem dX1_takeSale_13 : decode cX1_takeSale 13 = .ok (.ireturn, 1) := by decide +kernel
theorem dX1_takeSalesOf_0 : decode cX1_takeSalesOf 0 = .ok (.iconst 0, 1) := by decide +kernel
theorem dX1_takeSalesOf_1 : decode cX1_takeSalesOf 1 = .ok (.istore_n 2, 1) := by decide +kernel
theorem dX1_takeSalesOf_2 : decode cX1_takeSalesOf 2 = .ok (.iconst 0, 1) := by decide +kernel
theorem dX1_takeSalesOf_3 : decode cX1_takeSalesOf 3 = .ok (.istore_n 3, 1) := by decide +kernel
theorem dX1_takeSalesOf_4 : decode cX1_takeSalesOf 4 = .ok (.iload_n 3, 1) := by decide +kernel
theorem dX1_takeSalesOf_5 : decode cX1_takeSalesOf 5 = .ok (.aload_n 0, 1) := by decide +kernel
theorem dX1_takeSalesOf_6 : decode cX1_takeSalesOf 6 = .ok (.getfield 36, 3) := by decide +kernel
theorem dX1_takeSalesOf_9 : decode cX1_takeSalesOf 9 = .ok (.if_icmp .ge 27, 3) := by decide +kernel
theorem dX1_takeSalesOf_12 : decode cX1_takeSalesOf 12 = .ok (.aload_n 0, 1) := by decide +kernel
theorem dX1_takeSalesOf_13 : decode cX1_takeSalesOf 13 = .ok (.iload_n 3, 1) := by decide +kernel
theorem dX1_takeSalesOf_14 : decode cX1_takeSalesOf 14 = .ok (.iload_n 1, 1) := by decide +kernel
theorem dX1_takeSalesOf_15 : decode cX1_takeSalesOf 15 = .ok (.invokevirtual 40, 3) := by decide +kernel
theorem dX1_takeSalesOf_18 : decode cX1_takeSalesOf 18 = .ok (.ifCond .eq 12, 3) := by decide +kernel
theorem dX1_takeSalesOf_21 : decode cX1_takeSalesOf 21 = .ok (.aload_n 0, 1) := by decide +kernel
theorem dX1_takeSalesOf_22 : decode cX1_takeSalesOf 22 = .ok (.iload_n 3, 1) := by decide +kernel
theorem dX1_takeSalesOf_23 : decode cX1_takeSalesOf 23 = .ok (.invokevirtual 44, 3) := by decide +kernel
theorem dX1_takeSalesOf_26 : decode cX1_takeSalesOf 26 = .ok (.pop, 1) := by decide +kernel
theorem dX1_takeSalesOf_27 : decode cX1_takeSalesOf 27 = .ok (.iinc 2 1, 3) := by decide +kernel
theorem dX1_takeSalesOf_30 : decode cX1_takeSalesOf 30 = .ok (.iinc 3 1, 3) := by decide +kernel
theorem dX1_takeSalesOf_33 : decode cX1_takeSalesOf 33 = .ok (.goto (-29), 3) := by decide +kernel
theorem dX1_takeSalesOf_36 : decode cX1_takeSalesOf 36 = .ok (.iload_n 2, 1) := by decide +kernel
theorem dX1_takeSalesOf_37 : decode cX1_takeSalesOf 37 = .ok (.ireturn, 1) := by decide +kernel
theorem dX1_isOnSale_0 : decode cX1_isOnSale 0 = .ok (.aload_n 0, 1) := by decide +kernel
theorem dX1_isOnSale_1 : decode cX1_isOnSale 1 = .ok (.getfield 18, 3) := by decide +kernel
theorem dX1_isOnSale_4 : decode cX1_isOnSale 4 = .ok (.iload_n 1, 1) := by decide +kernel
theorem dX1_isOnSale_5 : decode cX1_isOnSale 5 = .ok (.iaload, 1) := by decide +kernel
theorem dX1_isOnSale_6 : decode cX1_isOnSale 6 = .ok (.iconst 1, 1) := by decide +kernel
theorem dX1_isOnSale_7 : decode cX1_isOnSale 7 = .ok (.if_icmp .ne 17, 3) := by decide +kernel
theorem dX1_isOnSale_10 : decode cX1_isOnSale 10 = .ok (.aload_n 0, 1) := by decide +kernel
theorem dX1_isOnSale_11 : decode cX1_isOnSale 11 = .ok (.getfield 9, 3) := by decide +kernel
theorem dX1_isOnSale_14 : decode cX1_isOnSale 14 = .ok (.iload_n 1, 1) := by decide +kernel
theorem dX1_isOnSale_15 : decode cX1_isOnSale 15 = .ok (.iaload, 1) := by decide +kernel
theorem dX1_isOnSale_16 : decode cX1_isOnSale 16 = .ok (.iload_n 2, 1) := by decide +kernel
theorem dX1_isOnSale_17 : decode cX1_isOnSale 17 = .ok (.if_icmp .ne 7, 3) := by decide +kernel
theorem dX1_isOnSale_20 : decode cX1_isOnSale 20 = .ok (.iconst 1, 1) := by decide +kernel
theorem dX1_isOnSale_21 : decode cX1_isOnSale 21 = .ok (.goto 4, 3) := by decide +kernel
theorem dX1_isOnSale_24 : decode cX1_isOnSale 24 = .ok (.iconst 0, 1) := by decide +kernel
theorem dX1_isOnSale_25 : decode cX1_isOnSale 25 = .ok (.ireturn, 1) := by decide +kernel
theorem dX1_bestSale_0 : decode cX1_bestSale 0 = .ok (.iconst (-1), 1) := by decide +kernel
theorem dX1_bestSale_1 : decode cX1_bestSale 1 = .ok (.istore_n 3, 1) := by decide +kernel
theorem dX1_bestSale_2 : decode cX1_bestSale 2 = .ok (.iconst 0, 1) := by decide +kernel
theorem dX1_bestSale_3 : decode cX1_bestSale 3 = .ok (.istore 4, 2) := by decide +kernel
theorem dX1_bestSale_5 : decode cX1_bestSale 5 = .ok (.iload 4, 2) := by decide +kernel
theorem dX1_bestSale_7 : decode cX1_bestSale 7 = .ok (.aload_n 0, 1) := by decide +kernel
theorem dX1_bestSale_8 : decode cX1_bestSale 8 = .ok (.getfield 36, 3) := by decide +kernel
theorem dX1_bestSale_11 : decode cX1_bestSale 11 = .ok (.if_icmp .ge 48, 3) := by decide +kernel
theorem dX1_bestSale_14 : decode cX1_bestSale 14 = .ok (.aload_n 0, 1) := by decide +kernel
theorem dX1_bestSale_15 : decode cX1_bestSale 15 = .ok (.iload 4, 2) := by decide +kernel
theorem dX1_bestSale_17 : decode cX1_bestSale 17 = .ok (.iload_n 1, 1) := by decide +kernel
theorem dX1_bestSale_18 : decode cX1_bestSale 18 = .ok (.invokevirtual 40, 3) := by decide +kernel
theorem dX1_bestSale_21 : decode cX1_bestSale 21 = .ok (.ifCond .eq 32, 3) := by decide +kernel
theorem dX1_bestSale_24 : decode cX1_bestSale 24 = .ok (.aload_n 0, 1) := by decide +kernel
theorem dX1_bestSale_25 : decode cX1_bestSale 25 = .ok (.getfield 15, 3) := by decide +kernel
theorem dX1_bestSale_28 : decode cX1_bestSale 28 = .ok (.iload 4, 2) := by decide +kernel
theorem dX1_bestSale_30 : decode cX1_bestSale 30 = .ok (.iaload, 1) := by decide +kernel
theorem dX1_bestSale_31 : decode cX1_bestSale 31 = .ok (.iload_n 2, 1) := by decide +kernel
theorem dX1_bestSale_32 : decode cX1_bestSale 32 = .ok (.if_icmp .eq 21, 3) := by decide +kernel
theorem dX1_bestSale_35 : decode cX1_bestSale 35 = .ok (.iload_n 3, 1) := by decide +kernel
theorem dX1_bestSale_36 : decode cX1_bestSale 36 = .ok (.iconst (-1), 1) := by decide +kernel
theorem dX1_bestSale_37 : decode cX1_bestSale 37 = .ok (.if_icmp .eq 13, 3) := by decide +kernel
theorem dX1_bestSale_40 : decode cX1_bestSale 40 = .ok (.aload_n 0, 1) := by decide +kernel
theorem dX1_bestSale_41 : decode cX1_bestSale 41 = .ok (.iload 4, 2) := by decide +kernel
theorem dX1_bestSale_43 : decode cX1_bestSale 43 = .ok (.iload_n 3, 1) := by decide +kernel
theorem dX1_bestSale_44 : decode cX1_bestSale 44 = .ok (.invokevirtual 48, 3) := by decide +kernel
theorem dX1_bestSale_47 : decode cX1_bestSale 47 = .ok (.ifCond .eq 6, 3) := by decide +kernel
theorem dX1_bestSale_50 : decode cX1_bestSale 50 = .ok (.iload 4, 2) := by decide +kernel
theorem dX1_bestSale_52 : decode cX1_bestSale 52 = .ok (.istore_n 3, 1) := by decide +kernel
theorem dX1_bestSale_53 : decode cX1_bestSale 53 = .ok (.iinc 4 1, 3) := by decide +kernel
theorem dX1_bestSale_56 : decode cX1_bestSale 56 = .ok (.goto (-51), 3) := by decide +kernel
theorem dX1_bestSale_59 : decode cX1_bestSale 59 = .ok (.iload_n 3, 1) := by decide +kernel
theorem dX1_bestSale_60 : decode cX1_bestSale 60 = .ok (.ireturn, 1) := by decide +kernel
theorem dX1_saleIsBefore_0 : decode cX1_saleIsBefore 0 = .ok (.aload_n 0, 1) := by decide +kernel
theorem dX1_saleIsBefore_1 : decode cX1_saleIsBefore 1 = .ok (.getfield 21, 3) := by decide +kernel
theorem dX1_saleIsBefore_4 : decode cX1_saleIsBefore 4 = .ok (.iload_n 1, 1) := by decide +kernel
theorem dX1_saleIsBefore_5 : decode cX1_saleIsBefore 5 = .ok (.iaload, 1) := by decide +kernel
theorem dX1_saleIsBefore_6 : decode cX1_saleIsBefore 6 = .ok (.aload_n 0, 1) := by decide +kernel
theorem dX1_saleIsBefore_7 : decode cX1_saleIsBefore 7 = .ok (.getfield 21, 3) := by decide +kernel
theorem dX1_saleIsBefore_10 : decode cX1_saleIsBefore 10 = .ok (.iload_n 2, 1) := by decide +kernel
theorem dX1_saleIsBefore_11 : decode cX1_saleIsBefore 11 = .ok (.iaload, 1) := by decide +kernel
theorem dX1_saleIsBefore_12 : decode cX1_saleIsBefore 12 = .ok (.if_icmp .lt 33, 3) := by decide +kernel
theorem dX1_saleIsBefore_15 : decode cX1_saleIsBefore 15 = .ok (.aload_n 0, 1) := by decide +kernel
theorem dX1_saleIsBefore_16 : decode cX1_saleIsBefore 16 = .ok (.getfield 21, 3) := by decide +kernel
theorem dX1_saleIsBefore_19 : decode cX1_saleIsBefore 19 = .ok (.iload_n 1, 1) := by decide +kernel
theorem dX1_saleIsBefore_20 : decode cX1_saleIsBefore 20 = .ok (.iaload, 1) := by decide +kernel
theorem dX1_saleIsBefore_21 : decode cX1_saleIsBefore 21 = .ok (.aload_n 0, 1) := by decide +kernel
theorem dX1_saleIsBefore_22 : decode cX1_saleIsBefore 22 = .ok (.getfield 21, 3) := by decide +kernel
theorem dX1_saleIsBefore_25 : decode cX1_saleIsBefore 25 = .ok (.iload_n 2, 1) := by decide +kernel
theorem dX1_saleIsBefore_26 : decode cX1_saleIsBefore 26 = .ok (.iaload, 1) := by decide +kernel
theorem dX1_saleIsBefore_27 : decode cX1_saleIsBefore 27 = .ok (.if_icmp .ne 22, 3) := by decide +kernel
theorem dX1_saleIsBefore_30 : decode cX1_saleIsBefore 30 = .ok (.aload_n 0, 1) := by decide +kernel
theorem dX1_saleIsBefore_31 : decode cX1_saleIsBefore 31 = .ok (.getfield 24, 3) := by decide +kernel
theorem dX1_saleIsBefore_34 : decode cX1_saleIsBefore 34 = .ok (.iload_n 1, 1) := by decide +kernel
theorem dX1_saleIsBefore_35 : decode cX1_saleIsBefore 35 = .ok (.iaload, 1) := by decide +kernel
theorem dX1_saleIsBefore_36 : decode cX1_saleIsBefore 36 = .ok (.aload_n 0, 1) := by decide +kernel
theorem dX1_saleIsBefore_37 : decode cX1_saleIsBefore 37 = .ok (.getfield 24, 3) := by decide +kernel
theorem dX1_saleIsBefore_40 : decode cX1_saleIsBefore 40 = .ok (.iload_n 2, 1) := by decide +kernel
theorem dX1_saleIsBefore_41 : decode cX1_saleIsBefore 41 = .ok (.iaload, 1) := by decide +kernel
theorem dX1_saleIsBefore_42 : decode cX1_saleIsBefore 42 = .ok (.if_icmp .ge 7, 3) := by decide +kernel
theorem dX1_saleIsBefore_45 : decode cX1_saleIsBefore 45 = .ok (.iconst 1, 1) := by decide +kernel
theorem dX1_saleIsBefore_46 : decode cX1_saleIsBefore 46 = .ok (.goto 4, 3) := by decide +kernel
theorem dX1_saleIsBefore_49 : decode cX1_saleIsBefore 49 = .ok (.iconst 0, 1) := by decide +kernel
theorem dX1_saleIsBefore_50 : decode cX1_saleIsBefore 50 = .ok (.ireturn, 1) := by decide +kernel
theorem dX1_canBeSwapped_0 : decode cX1_canBeSwapped 0 = .ok (.aload_n 0, 1) := by decide +kernel
theorem dX1_canBeSwapped_1 : decode cX1_canBeSwapped 1 = .ok (.getfield 27, 3) := by decide +kernel
theorem dX1_canBeSwapped_4 : decode cX1_canBeSwapped 4 = .ok (.iload_n 1, 1) := by decide +kernel
theorem dX1_canBeSwapped_5 : decode cX1_canBeSwapped 5 = .ok (.iaload, 1) := by decide +kernel
theorem dX1_canBeSwapped_6 : decode cX1_canBeSwapped 6 = .ok (.istore_n 2, 1) := by decide +kernel
theorem dX1_canBeSwapped_7 : decode cX1_canBeSwapped 7 = .ok (.aload_n 0, 1) := by decide +kernel
theorem dX1_canBeSwapped_8 : decode cX1_canBeSwapped 8 = .ok (.getfield 18, 3) := by decide +kernel
theorem dX1_canBeSwapped_11 : decode cX1_canBeSwapped 11 = .ok (.iload_n 1, 1) := by decide +kernel
theorem dX1_canBeSwapped_12 : decode cX1_canBeSwapped 12 = .ok (.iaload, 1) := by decide +kernel
theorem dX1_canBeSwapped_13 : decode cX1_canBeSwapped 13 = .ok (.iconst 2, 1) := by decide +kernel
theorem dX1_canBeSwapped_14 : decode cX1_canBeSwapped 14 = .ok (.if_icmp .ne 39, 3) := by decide +kernel
theorem dX1_canBeSwapped_17 : decode cX1_canBeSwapped 17 = .ok (.aload_n 0, 1) := by decide +kernel
theorem dX1_canBeSwapped_18 : decode cX1_canBeSwapped 18 = .ok (.iload_n 2, 1) := by decide +kernel
theorem dX1_canBeSwapped_19 : decode cX1_canBeSwapped 19 = .ok (.invokevirtual 51, 3) := by decide +kernel
theorem dX1_canBeSwapped_22 : decode cX1_canBeSwapped 22 = .ok (.ifCond .eq 31, 3) := by decide +kernel
theorem dX1_canBeSwapped_25 : decode cX1_canBeSwapped 25 = .ok (.aload_n 0, 1) := by decide +kernel
theorem dX1_canBeSwapped_26 : decode cX1_canBeSwapped 26 = .ok (.getfield 18, 3) := by decide +kernel
theorem dX1_canBeSwapped_29 : decode cX1_canBeSwapped 29 = .ok (.iload_n 2, 1) := by decide +kernel
theorem dX1_canBeSwapped_30 : decode cX1_canBeSwapped 30 = .ok (.iaload, 1) := by decide +kernel
theorem dX1_canBeSwapped_31 : decode cX1_canBeSwapped 31 = .ok (.ifCond .ne 22, 3) := by decide +kernel
theorem dX1_canBeSwapped_34 : decode cX1_canBeSwapped 34 = .ok (.aload_n 0, 1) := by decide +kernel
theorem dX1_canBeSwapped_35 : decode cX1_canBeSwapped 35 = .ok (.getfield 15, 3) := by decide +kernel
theorem dX1_canBeSwapped_38 : decode cX1_canBeSwapped 38 = .ok (.iload_n 1, 1) := by decide +kernel
theorem dX1_canBeSwapped_39 : decode cX1_canBeSwapped 39 = .ok (.iaload, 1) := by decide +kernel
theorem dX1_canBeSwapped_40 : decode cX1_canBeSwapped 40 = .ok (.aload_n 0, 1) := by decide +kernel
theorem dX1_canBeSwapped_41 : decode cX1_canBeSwapped 41 = .ok (.getfield 15, 3) := by decide +kernel
theorem dX1_canBeSwapped_44 : decode cX1_canBeSwapped 44 = .ok (.iload_n 2, 1) := by decide +kernel
theorem dX1_canBeSwapped_45 : decode cX1_canBeSwapped 45 = .ok (.iaload, 1) := by decide +kernel
theorem dX1_canBeSwapped_46 : decode cX1_canBeSwapped 46 = .ok (.if_icmp .eq 7, 3) := by decide +kernel
theorem dX1_canBeSwapped_49 : decode cX1_canBeSwapped 49 = .ok (.iconst 1, 1) := by decide +kernel
theorem dX1_canBeSwapped_50 : decode cX1_canBeSwapped 50 = .ok (.goto 4, 3) := by decide +kernel
theorem dX1_canBeSwapped_53 : decode cX1_canBeSwapped 53 = .ok (.iconst 0, 1) := by decide +kernel
theorem dX1_canBeSwapped_54 : decode cX1_canBeSwapped 54 = .ok (.ireturn, 1) := by decide +kernel
theorem dX1_lendTo_0 : decode cX1_lendTo 0 = .ok (.aload_n 0, 1) := by decide +kernel
theorem dX1_lendTo_1 : decode cX1_lendTo 1 = .ok (.getfield 18, 3) := by decide +kernel
theorem dX1_lendTo_4 : decode cX1_lendTo 4 = .ok (.iload_n 1, 1) := by decide +kernel
theorem dX1_lendTo_5 : decode cX1_lendTo 5 = .ok (.iconst 3, 1) := by decide +kernel
theorem dX1_lendTo_6 : decode cX1_lendTo 6 = .ok (.iastore, 1) := by decide +kernel
theorem dX1_lendTo_7 : decode cX1_lendTo 7 = .ok (.aload_n 0, 1) := by decide +kernel
theorem dX1_lendTo_8 : decode cX1_lendTo 8 = .ok (.getfield 30, 3) := by decide +kernel
theorem dX1_lendTo_11 : decode cX1_lendTo 11 = .ok (.iload_n 1, 1) := by decide +kernel
theorem dX1_lendTo_12 : decode cX1_lendTo 12 = .ok (.iload_n 2, 1) := by decide +kernel
theorem dX1_lendTo_13 : decode cX1_lendTo 13 = .ok (.iastore, 1) := by decide +kernel
theorem dX1_lendTo_14 : decode cX1_lendTo 14 = .ok (.aload_n 0, 1) := by decide +kernel
theorem dX1_lendTo_15 : decode cX1_lendTo 15 = .ok (.getfield 33, 3) := by decide +kernel
theorem dX1_lendTo_18 : decode cX1_lendTo 18 = .ok (.iload_n 1, 1) := by decide +kernel
theorem dX1_lendTo_19 : decode cX1_lendTo 19 = .ok (.iload_n 3, 1) := by decide +kernel
theorem dX1_lendTo_20 : decode cX1_lendTo 20 = .ok (.iastore, 1) := by decide +kernel
theorem dX1_lendTo_21 : decode cX1_lendTo 21 = .ok (.return_, 1) := by decide +kernel
theorem dX1_endLoans_0 : decode cX1_endLoans 0 = .ok (.iconst 0, 1) := by decide +kernel
theorem dX1_endLoans_1 : decode cX1_endLoans 1 = .ok (.istore_n 2, 1) := by decide +kernel
theorem dX1_endLoans_2 : decode cX1_endLoans 2 = .ok (.iload_n 2, 1) := by decide +kernel
theorem dX1_endLoans_3 : decode cX1_endLoans 3 = .ok (.aload_n 0, 1) := by decide +kernel
theorem dX1_endLoans_4 : decode cX1_endLoans 4 = .ok (.getfield 36, 3) := by decide +kernel
theorem dX1_endLoans_7 : decode cX1_endLoans 7 = .ok (.if_icmp .ge 36, 3) := by decide +kernel
theorem dX1_endLoans_10 : decode cX1_endLoans 10 = .ok (.aload_n 0, 1) := by decide +kernel
theorem dX1_endLoans_11 : decode cX1_endLoans 11 = .ok (.getfield 18, 3) := by decide +kernel
theorem dX1_endLoans_14 : decode cX1_endLoans 14 = .ok (.iload_n 2, 1) := by decide +kernel
theorem dX1_endLoans_15 : decode cX1_endLoans 15 = .ok (.iaload, 1) := by decide +kernel
theorem dX1_endLoans_16 : decode cX1_endLoans 16 = .ok (.iconst 3, 1) := by decide +kernel
theorem dX1_endLoans_17 : decode cX1_endLoans 17 = .ok (.if_icmp .ne 20, 3) := by decide +kernel
theorem dX1_endLoans_20 : decode cX1_endLoans 20 = .ok (.aload_n 0, 1) := by decide +kernel
theorem dX1_endLoans_21 : decode cX1_endLoans 21 = .ok (.getfield 33, 3) := by decide +kernel
theorem dX1_endLoans_24 : decode cX1_endLoans 24 = .ok (.iload_n 2, 1) := by decide +kernel
theorem dX1_endLoans_25 : decode cX1_endLoans 25 = .ok (.iaload, 1) := by decide +kernel
theorem dX1_endLoans_26 : decode cX1_endLoans 26 = .ok (.iload_n 1, 1) := by decide +kernel
theorem dX1_endLoans_27 : decode cX1_endLoans 27 = .ok (.if_icmp .gt 10, 3) := by decide +kernel
theorem dX1_endLoans_30 : decode cX1_endLoans 30 = .ok (.aload_n 0, 1) := by decide +kernel
theorem dX1_endLoans_31 : decode cX1_endLoans 31 = .ok (.getfield 18, 3) := by decide +kernel
theorem dX1_endLoans_34 : decode cX1_endLoans 34 = .ok (.iload_n 2, 1) := by decide +kernel
theorem dX1_endLoans_35 : decode cX1_endLoans 35 = .ok (.iconst 0, 1) := by decide +kernel
theorem dX1_endLoans_36 : decode cX1_endLoans 36 = .ok (.iastore, 1) := by decide +kernel
theorem dX1_endLoans_37 : decode cX1_endLoans 37 = .ok (.iinc 2 1, 3) := by decide +kernel
theorem dX1_endLoans_40 : decode cX1_endLoans 40 = .ok (.goto (-38), 3) := by decide +kernel
theorem dX1_endLoans_43 : decode cX1_endLoans 43 = .ok (.return_, 1) := by decide +kernel
theorem dX2_init_0 : decode cX2_init 0 = .ok (.aload_n 0, 1) := by decide +kernel
theorem dX2_init_1 : decode cX2_init 1 = .ok (.invokespecial 3, 3) := by decide +kernel
theorem dX2_init_4 : decode cX2_init 4 = .ok (.aload_n 0, 1) := by decide +kernel
theorem dX2_init_5 : decode cX2_init 5 = .ok (.sipush 512, 3) := by decide +kernel
theorem dX2_init_8 : decode cX2_init 8 = .ok (.newarray .int, 2) := by decide +kernel
theorem dX2_init_10 : decode cX2_init 10 = .ok (.putfield 9, 3) := by decide +kernel
theorem dX2_init_13 : decode cX2_init 13 = .ok (.aload_n 0, 1) := by decide +kernel
theorem dX2_init_14 : decode cX2_init 14 = .ok (.sipush 512, 3) := by decide +kernel
theorem dX2_init_17 : decode cX2_init 17 = .ok (.newarray .int, 2) := by decide +kernel
theorem dX2_init_19 : decode cX2_init 19 = .ok (.putfield 15, 3) := by decide +kernel
theorem dX2_init_22 : decode cX2_init 22 = .ok (.aload_n 0, 1) := by decide +kernel
theorem dX2_init_23 : decode cX2_init 23 = .ok (.iconst 0, 1) := by decide +kernel
theorem dX2_init_24 : decode cX2_init 24 = .ok (.putfield 18, 3) := by decide +kernel
theorem dX2_init_27 : decode cX2_init 27 = .ok (.return_, 1) := by decide +kernel
theorem dX2_record_0 : decode cX2_record 0 = .ok (.aload_n 0, 1) := by decide +kernel
theorem dX2_record_1 : decode cX2_record 1 = .ok (.getfield 18, 3) := by decide +kernel
theorem dX2_record_4 : decode cX2_record 4 = .ok (.sipush 512, 3) := by decide +kernel
theorem dX2_record_7 : decode cX2_record 7 = .ok (.if_icmp .lt 4, 3) := by decide +kernel
theorem dX2_record_10 : decode cX2_record 10 = .ok (.return_, 1) := by decide +kernel
theorem dX2_record_11 : decode cX2_record 11 = .ok (.aload_n 0, 1) := by decide +kernel
theorem dX2_record_12 : decode cX2_record 12 = .ok (.getfield 9, 3) := by decide +kernel
theorem dX2_record_15 : decode cX2_record 15 = .ok (.aload_n 0, 1) := by decide +kernel
theorem dX2_record_16 : decode cX2_record 16 = .ok (.getfield 18, 3) := by decide +kernel
theorem dX2_record_19 : decode cX2_record 19 = .ok (.iload_n 1, 1) := by decide +kernel
theorem dX2_record_20 : decode cX2_record 20 = .ok (.iastore, 1) := by decide +kernel
theorem dX2_record_21 : decode cX2_record 21 = .ok (.aload_n 0, 1) := by decide +kernel
theorem dX2_record_22 : decode cX2_record 22 = .ok (.getfield 15, 3) := by decide +kernel
theorem dX2_record_25 : decode cX2_record 25 = .ok (.aload_n 0, 1) := by decide +kernel
theorem dX2_record_26 : decode cX2_record 26 = .ok (.getfield 18, 3) := by decide +kernel
theorem dX2_record_29 : decode cX2_record 29 = .ok (.iload_n 2, 1) := by decide +kernel
theorem dX2_record_30 : decode cX2_record 30 = .ok (.iastore, 1) := by decide +kernel
theorem dX2_record_31 : decode cX2_record 31 = .ok (.aload_n 0, 1) := by decide +kernel
theorem dX2_record_32 : decode cX2_record 32 = .ok (.dup, 1) := by decide +kernel
theorem dX2_record_33 : decode cX2_record 33 = .ok (.getfield 18, 3) := by decide +kernel
theorem dX2_record_36 : decode cX2_record 36 = .ok (.iconst 1, 1) := by decide +kernel
theorem dX2_record_37 : decode cX2_record 37 = .ok (.iadd, 1) := by decide +kernel
theorem dX2_record_38 : decode cX2_record 38 = .ok (.putfield 18, 3) := by decide +kernel
theorem dX2_record_41 : decode cX2_record 41 = .ok (.return_, 1) := by decide +kernel
theorem dX2_lastOwner_0 : decode cX2_lastOwner 0 = .ok (.iconst (-1), 1) := by decide +kernel
theorem dX2_lastOwner_1 : decode cX2_lastOwner 1 = .ok (.istore_n 2, 1) := by decide +kernel
theorem dX2_lastOwner_2 : decode cX2_lastOwner 2 = .ok (.iconst 0, 1) := by decide +kernel
theorem dX2_lastOwner_3 : decode cX2_lastOwner 3 = .ok (.istore_n 3, 1) := by decide +kernel
theorem dX2_lastOwner_4 : decode cX2_lastOwner 4 = .ok (.iload_n 3, 1) := by decide +kernel
theorem dX2_lastOwner_5 : decode cX2_lastOwner 5 = .ok (.aload_n 0, 1) := by decide +kernel
theorem dX2_lastOwner_6 : decode cX2_lastOwner 6 = .ok (.getfield 18, 3) := by decide +kernel
theorem dX2_lastOwner_9 : decode cX2_lastOwner 9 = .ok (.if_icmp .ge 26, 3) := by decide +kernel
theorem dX2_lastOwner_12 : decode cX2_lastOwner 12 = .ok (.aload_n 0, 1) := by decide +kernel
theorem dX2_lastOwner_13 : decode cX2_lastOwner 13 = .ok (.getfield 9, 3) := by decide +kernel
theorem dX2_lastOwner_16 : decode cX2_lastOwner 16 = .ok (.iload_n 3, 1) := by decide +kernel
theorem dX2_lastOwner_17 : decode cX2_lastOwner 17 = .ok (.iaload, 1) := by decide +kernel
theorem dX2_lastOwner_18 : decode cX2_lastOwner 18 = .ok (.iload_n 1, 1) := by decide +kernel
theorem dX2_lastOwner_19 : decode cX2_lastOwner 19 = .ok (.if_icmp .ne 10, 3) := by decide +kernel
theorem dX2_lastOwner_22 : decode cX2_lastOwner 22 = .ok (.aload_n 0, 1) := by decide +kernel
theorem dX2_lastOwner_23 : decode cX2_lastOwner 23 = .ok (.getfield 15, 3) := by decide +kernel
theorem dX2_lastOwner_26 : decode cX2_lastOwner 26 = .ok (.iload_n 3, 1) := by decide +kernel
theorem dX2_lastOwner_27 : decode cX2_lastOwner 27 = .ok (.iaload, 1) := by decide +kernel
theorem dX2_lastOwner_28 : decode cX2_lastOwner 28 = .ok (.istore_n 2, 1) := by decide +kernel
theorem dX2_lastOwner_29 : decode cX2_lastOwner 29 = .ok (.iinc 3 1, 3) := by decide +kernel
theorem dX2_lastOwner_32 : decode cX2_lastOwner 32 = .ok (.goto (-28), 3) := by decide +kernel
theorem dX2_lastOwner_35 : decode cX2_lastOwner 35 = .ok (.iload_n 2, 1) := by decide +kernel
theorem dX2_lastOwner_36 : decode cX2_lastOwner 36 = .ok (.ireturn, 1) := by decide +kernel
theorem dX3_init_0 : decode cX3_init 0 = .ok (.aload_n 0, 1) := by decide +kernel
theorem dX3_init_1 : decode cX3_init 1 = .ok (.invokespecial 1, 3) := by decide +kernel
theorem dX3_init_4 : decode cX3_init 4 = .ok (.aload_n 0, 1) := by decide +kernel
theorem dX3_init_5 : decode cX3_init 5 = .ok (.new 7, 3) := by decide +kernel
theorem dX3_init_8 : decode cX3_init 8 = .ok (.dup, 1) := by decide +kernel
theorem dX3_init_9 : decode cX3_init 9 = .ok (.invokespecial 9, 3) := by decide +kernel
theorem dX3_init_12 : decode cX3_init 12 = .ok (.putfield 10, 3) := by decide +kernel
theorem dX3_init_15 : decode cX3_init 15 = .ok (.aload_n 0, 1) := by decide +kernel
theorem dX3_init_16 : decode cX3_init 16 = .ok (.new 16, 3) := by decide +kernel
theorem dX3_init_19 : decode cX3_init 19 = .ok (.dup, 1) := by decide +kernel
theorem dX3_init_20 : decode cX3_init 20 = .ok (.invokespecial 18, 3) := by decide +kernel
theorem dX3_init_23 : decode cX3_init 23 = .ok (.putfield 19, 3) := by decide +kernel
theorem dX3_init_26 : decode cX3_init 26 = .ok (.aload_n 0, 1) := by decide +kernel
theorem dX3_init_27 : decode cX3_init 27 = .ok (.new 23, 3) := by decide +kernel
theorem dX3_init_30 : decode cX3_init 30 = .ok (.dup, 1) := by decide +kernel
theorem dX3_init_31 : decode cX3_init 31 = .ok (.invokespecial 25, 3) := by decide +kernel
theorem dX3_init_34 : decode cX3_init 34 = .ok (.putfield 26, 3) := by decide +kernel
theorem dX3_init_37 : decode cX3_init 37 = .ok (.aload_n 0, 1) := by decide +kernel
theorem dX3_init_38 : decode cX3_init 38 = .ok (.iconst 5, 1) := by decide +kernel
theorem dX3_init_39 : decode cX3_init 39 = .ok (.newarray .int, 2) := by decide +kernel
theorem dX3_init_41 : decode cX3_init 41 = .ok (.putfield 30, 3) := by decide +kernel
theorem dX3_init_44 : decode cX3_init 44 = .ok (.aload_n 0, 1) := by decide +kernel
theorem dX3_init_45 : decode cX3_init 45 = .ok (.getfield 30, 3) := by decide +kernel
theorem dX3_init_48 : decode cX3_init 48 = .ok (.bipush 100, 2) := by decide +kernel
theorem dX3_init_50 : decode cX3_init 50 = .ok (.invokestatic 34, 3) := by decide +kernel
theorem dX3_init_53 : decode cX3_init 53 = .ok (.aload_n 0, 1) := by decide +kernel
theorem dX3_init_54 : decode cX3_init 54 = .ok (.bipush 8, 2) := by decide +kernel
theorem dX3_init_56 : decode cX3_init 56 = .ok (.newarray .int, 2) := by decide +kernel
theorem dX3_init_58 : decode cX3_init 58 = .ok (.putfield 40, 3) := by decide +kernel
theorem dX3_init_61 : decode cX3_init 61 = .ok (.aload_n 0, 1) := by decide +kernel
theorem dX3_init_62 : decode cX3_init 62 = .ok (.getfield 40, 3) := by decide +kernel
theorem dX3_init_65 : decode cX3_init 65 = .ok (.iconst (-1), 1) := by decide +kernel
theorem dX3_init_66 : decode cX3_init 66 = .ok (.invokestatic 34, 3) := by decide +kernel
theorem dX3_init_69 : decode cX3_init 69 = .ok (.aload_n 0, 1) := by decide +kernel
theorem dX3_init_70 : decode cX3_init 70 = .ok (.iconst 5, 1) := by decide +kernel
theorem dX3_init_71 : decode cX3_init 71 = .ok (.newarray .int, 2) := by decide +kernel
theorem dX3_init_73 : decode cX3_init 73 = .ok (.putfield 43, 3) := by decide +kernel
theorem dX3_init_76 : decode cX3_init 76 = .ok (.aload_n 0, 1) := by decide +kernel
theorem dX3_init_77 : decode cX3_init 77 = .ok (.iconst 0, 1) := by decide +kernel
theorem dX3_init_78 : decode cX3_init 78 = .ok (.putfield 46, 3) := by decide +kernel
theorem dX3_init_81 : decode cX3_init 81 = .ok (.aload_n 0, 1) := by decide +kernel
theorem dX3_init_82 : decode cX3_init 82 = .ok (.iconst 0, 1) := by decide +kernel
theorem dX3_init_83 : decode cX3_init 83 = .ok (.putfield 50, 3) := by decide +kernel
theorem dX3_init_86 : decode cX3_init 86 = .ok (.return_, 1) := by decide +kernel
theorem dX3_mint_0 : decode cX3_mint 0 = .ok (.iload_n 1, 1) := by decide +kernel
theorem dX3_mint_1 : decode cX3_mint 1 = .ok (.invokestatic 53, 3) := by decide +kernel
theorem dX3_mint_4 : decode cX3_mint 4 = .ok (.iload_n 2, 1) := by decide +kernel
theorem dX3_mint_5 : decode cX3_mint 5 = .ok (.invokestatic 57, 3) := by decide +kernel
theorem dX3_mint_8 : decode cX3_mint 8 = .ok (.aload_n 0, 1) := by decide +kernel
theorem dX3_mint_9 : decode cX3_mint 9 = .ok (.getfield 10, 3) := by decide +kernel
theorem dX3_mint_12 : decode cX3_mint 12 = .ok (.invokevirtual 60, 3) := by decide +kernel
theorem dX3_mint_15 : decode cX3_mint 15 = .ok (.ifCond .eq 13, 3) := by decide +kernel
theorem dX3_mint_18 : decode cX3_mint 18 = .ok (.new 64, 3) := by decide +kernel
theorem dX3_mint_21 : decode cX3_mint 21 = .ok (.dup, 1) := by decide +kernel
theorem dX3_mint_22 : decode cX3_mint 22 = .ok (.ldc 66, 2) := by decide +kernel
theorem dX3_mint_24 : decode cX3_mint 24 = .ok (.invokespecial 68, 3) := by decide +kernel
theorem dX3_mint_27 : decode cX3_mint 27 = .ok (.athrow, 1) := by decide +kernel
theorem dX3_mint_28 : decode cX3_mint 28 = .ok (.aload_n 0, 1) := by decide +kernel
theorem dX3_mint_29 : decode cX3_mint 29 = .ok (.getfield 10, 3) := by decide +kernel
theorem dX3_mint_32 : decode cX3_mint 32 = .ok (.iload_n 1, 1) := by decide +kernel
theorem dX3_mint_33 : decode cX3_mint 33 = .ok (.iload_n 2, 1) := by decide +kernel
theorem dX3_mint_34 : decode cX3_mint 34 = .ok (.invokevirtual 71, 3) := by decide +kernel
theorem dX3_mint_37 : decode cX3_mint 37 = .ok (.istore_n 3, 1) := by decide +kernel
theorem dX3_mint_38 : decode cX3_mint 38 = .ok (.aload_n 0, 1) := by decide +kernel
theorem dX3_mint_39 : decode cX3_mint 39 = .ok (.getfield 26, 3) := by decide +kernel
theorem dX3_mint_42 : decode cX3_mint 42 = .ok (.iload_n 3, 1) := by decide +kernel
theorem dX3_mint_43 : decode cX3_mint 43 = .ok (.iload_n 1, 1) := by decide +kernel
theorem dX3_mint_44 : decode cX3_mint 44 = .ok (.invokevirtual 75, 3) := by decide +kernel
theorem dX3_mint_47 : decode cX3_mint 47 = .ok (.iload_n 3, 1) := by decide +kernel
theorem dX3_mint_48 : decode cX3_mint 48 = .ok (.ireturn, 1) := by decide +kernel
theorem dX3_owner_0 : decode cX3_owner 0 = .ok (.aload_n 0, 1) := by decide +kernel
theorem dX3_owner_1 : decode cX3_owner 1 = .ok (.iload_n 1, 1) := by decide +kernel
theorem dX3_owner_2 : decode cX3_owner 2 = .ok (.invokevirtual 79, 3) := by decide +kernel
theorem dX3_owner_5 : decode cX3_owner 5 = .ok (.aload_n 0, 1) := by decide +kernel
theorem dX3_owner_6 : decode cX3_owner 6 = .ok (.getfield 10, 3) := by decide +kernel
theorem dX3_owner_9 : decode cX3_owner 9 = .ok (.getfield 82, 3) := by decide +kernel
theorem dX3_owner_12 : decode cX3_owner 12 = .ok (.iload_n 1, 1) := by decide +kernel
theorem dX3_owner_13 : decode cX3_owner 13 = .ok (.iaload, 1) := by decide +kernel
theorem dX3_owner_14 : decode cX3_owner 14 = .ok (.ireturn, 1) := by decide +kernel
theorem dX3_ownerByHistory_0 : decode cX3_ownerByHistory 0 = .ok (.aload_n 0, 1) := by decide +kernel
theorem dX3_ownerByHistory_1 : decode cX3_ownerByHistory 1 = .ok (.iload_n 1, 1) := by decide +kernel
theorem dX3_ownerByHistory_2 : decode cX3_ownerByHistory 2 = .ok (.invokevirtual 79, 3) := by decide +kernel
theorem dX3_ownerByHistory_5 : decode cX3_ownerByHistory 5 = .ok (.aload_n 0, 1) := by decide +kernel
theorem dX3_ownerByHistory_6 : decode cX3_ownerByHistory 6 = .ok (.getfield 26, 3) := by decide +kernel
theorem dX3_ownerByHistory_9 : decode cX3_ownerByHistory 9 = .ok (.iload_n 1, 1) := by decide +kernel
theorem dX3_ownerByHistory_10 : decode cX3_ownerByHistory 10 = .ok (.invokevirtual 85, 3) := by decide +kernel
theorem dX3_ownerByHistory_13 : decode cX3_ownerByHistory 13 = .ok (.ireturn, 1) := by decide +kernel
theorem dX3_holder_0 : decode cX3_holder 0 = .ok (.aload_n 0, 1) := by decide +kernel
theorem dX3_holder_1 : decode cX3_holder 1 = .ok (.iload_n 1, 1) := by decide +kernel
theorem dX3_holder_2 : decode cX3_holder 2 = .ok (.invokevirtual 79, 3) := by decide +kernel
theorem dX3_holder_5 : decode cX3_holder 5 = .ok (.aload_n 0, 1) := by decide +kernel
theorem dX3_holder_6 : decode cX3_holder 6 = .ok (.getfield 10, 3) := by decide +kernel
theorem dX3_holder_9 : decode cX3_holder 9 = .ok (.iload_n 1, 1) := by decide +kernel
theorem dX3_holder_10 : decode cX3_holder 10 = .ok (.invokevirtual 89, 3) := by decide +kernel
theorem dX3_holder_13 : decode cX3_holder 13 = .ok (.ireturn, 1) := by decide +kernel
theorem dX3_stateOf_0 : decode cX3_stateOf 0 = .ok (.aload_n 0, 1) := by decide +kernel
theorem dX3_stateOf_1 : decode cX3_stateOf 1 = .ok (.iload_n 1, 1) := by decide +kernel
theorem dX3_stateOf_2 : decode cX3_stateOf 2 = .ok (.invokevirtual 79, 3) := by decide +kernel
theorem dX3_stateOf_5 : decode cX3_stateOf 5 = .ok (.aload_n 0, 1) := by decide +kernel
theorem dX3_stateOf_6 : decode cX3_stateOf 6 = .ok (.getfield 10, 3) := by decide +kernel
theorem dX3_stateOf_9 : decode cX3_stateOf 9 = .ok (.getfield 92, 3) := by decide +kernel
theorem dX3_stateOf_12 : decode cX3_stateOf 12 = .ok (.iload_n 1, 1) := by decide +kernel
theorem dX3_stateOf_13 : decode cX3_stateOf 13 = .ok (.iaload, 1) := by decide +kernel
theorem dX3_stateOf_14 : decode cX3_stateOf 14 = .ok (.ireturn, 1) := by decide +kernel
theorem dX3_coins_0 : decode cX3_coins 0 = .ok (.iload_n 1, 1) := by decide +kernel
theorem dX3_coins_1 : decode cX3_coins 1 = .ok (.invokestatic 53, 3) := by decide +kernel
theorem dX3_coins_4 : decode cX3_coins 4 = .ok (.aload_n 0, 1) := by decide +kernel
theorem dX3_coins_5 : decode cX3_coins 5 = .ok (.getfield 30, 3) := by decide +kernel
theorem dX3_coins_8 : decode cX3_coins 8 = .ok (.iload_n 1, 1) := by decide +kernel
theorem dX3_coins_9 : decode cX3_coins 9 = .ok (.iaload, 1) := by decide +kernel
theorem dX3_coins_10 : decode cX3_coins 10 = .ok (.ireturn, 1) := by decide +kernel
theorem dX3_sell_0 : decode cX3_sell 0 = .ok (.aload_n 0, 1) := by decide +kernel
theorem dX3_sell_1 : decode cX3_sell 1 = .ok (.iload_n 1, 1) := by decide +kernel
theorem dX3_sell_2 : decode cX3_sell 2 = .ok (.invokevirtual 79, 3) := by decide +kernel
theorem dX3_sell_5 : decode cX3_sell 5 = .ok (.iload_n 2, 1) := by decide +kernel
theorem dX3_sell_6 : decode cX3_sell 6 = .ok (.invokestatic 95, 3) := by decide +kernel
theorem dX3_sell_9 : decode cX3_sell 9 = .ok (.aload_n 0, 1) := by decide +kernel
theorem dX3_sell_10 : decode cX3_sell 10 = .ok (.getfield 10, 3) := by decide +kernel
theorem dX3_sell_13 : decode cX3_sell 13 = .ok (.getfield 98, 3) := by decide +kernel
theorem dX3_sell_16 : decode cX3_sell 16 = .ok (.iload_n 1, 1) := by decide +kernel
theorem dX3_sell_17 : decode cX3_sell 17 = .ok (.iaload, 1) := by decide +kernel
theorem dX3_sell_18 : decode cX3_sell 18 = .ok (.istore_n 3, 1) := by decide +kernel
theorem dX3_sell_19 : decode cX3_sell 19 = .ok (.aload_n 0, 1) := by decide +kernel
theorem dX3_sell_20 : decode cX3_sell 20 = .ok (.getfield 10, 3) := by decide +kernel
theorem dX3_sell_23 : decode cX3_sell 23 = .ok (.getfield 92, 3) := by decide +kernel
theorem dX3_sell_26 : decode cX3_sell 26 = .ok (.iload_n 1, 1) := by decide +kernel
theorem dX3_sell_27 : decode cX3_sell 27 = .ok (.iaload, 1) := by decide +kernel
theorem dX3_sell_28 : decode cX3_sell 28 = .ok (.ifCond .ne 11, 3) := by decide +kernel
theorem dX3_sell_31 : decode cX3_sell 31 = .ok (.aload_n 0, 1) := by decide +kernel
theorem dX3_sell_32 : decode cX3_sell 32 = .ok (.iload_n 3, 1) := by decide +kernel
theorem dX3_sell_33 : decode cX3_sell 33 = .ok (.invokevirtual 101, 3) := by decide +kernel
theorem dX3_sell_36 : decode cX3_sell 36 = .ok (.ifCond .eq 13, 3) := by decide +kernel
theorem dX3_sell_39 : decode cX3_sell 39 = .ok (.new 64, 3) := by decide +kernel
theorem dX3_sell_42 : decode cX3_sell 42 = .ok (.dup, 1) := by decide +kernel
theorem dX3_sell_43 : decode cX3_sell 43 = .ok (.ldc 105, 2) := by decide +kernel
theorem dX3_sell_45 : decode cX3_sell 45 = .ok (.invokespecial 68, 3) := by decide +kernel
theorem dX3_sell_48 : decode cX3_sell 48 = .ok (.athrow, 1) := by decide +kernel
theorem dX3_sell_49 : decode cX3_sell 49 = .ok (.aload_n 0, 1) := by decide +kernel
theorem dX3_sell_50 : decode cX3_sell 50 = .ok (.getfield 19, 3) := by decide +kernel
theorem dX3_sell_53 : decode cX3_sell 53 = .ok (.iload_n 3, 1) := by decide +kernel
theorem dX3_sell_54 : decode cX3_sell 54 = .ok (.aload_n 0, 1) := by decide +kernel
theorem dX3_sell_55 : decode cX3_sell 55 = .ok (.getfield 10, 3) := by decide +kernel
theorem dX3_sell_58 : decode cX3_sell 58 = .ok (.getfield 82, 3) := by decide +kernel
theorem dX3_sell_61 : decode cX3_sell 61 = .ok (.iload_n 1, 1) := by decide +kernel
theorem dX3_sell_62 : decode cX3_sell 62 = .ok (.iaload, 1) := by decide +kernel
theorem dX3_sell_63 : decode cX3_sell 63 = .ok (.invokevirtual 107, 3) := by decide +kernel
theorem dX3_sell_66 : decode cX3_sell 66 = .ok (.istore 4, 2) := by decide +kernel
theorem dX3_sell_68 : decode cX3_sell 68 = .ok (.iload 4, 2) := by decide +kernel
theorem dX3_sell_70 : decode cX3_sell 70 = .ok (.iconst (-1), 1) := by decide +kernel
theorem dX3_sell_71 : decode cX3_sell 71 = .ok (.if_icmp .eq 19, 3) := by decide +kernel
theorem dX3_sell_74 : decode cX3_sell 74 = .ok (.aload_n 0, 1) := by decide +kernel
theorem dX3_sell_75 : decode cX3_sell 75 = .ok (.getfield 19, 3) := by decide +kernel
theorem dX3_sell_78 : decode cX3_sell 78 = .ok (.getfield 110, 3) := by decide +kernel
theorem dX3_sell_81 : decode cX3_sell 81 = .ok (.iload 4, 2) := by decide +kernel
theorem dX3_sell_83 : decode cX3_sell 83 = .ok (.aaload, 1) := by decide +kernel
theorem dX3_sell_84 : decode cX3_sell 84 = .ok (.iload_n 3, 1) := by decide +kernel
theorem dX3_sell_85 : decode cX3_sell 85 = .ok (.iaload, 1) := by decide +kernel
theorem dX3_sell_86 : decode cX3_sell 86 = .ok (.iload_n 2, 1) := by decide +kernel
theorem dX3_sell_87 : decode cX3_sell 87 = .ok (.if_icmp .ge 28, 3) := by decide +kernel
theorem dX3_sell_90 : decode cX3_sell 90 = .ok (.aload_n 0, 1) := by decide +kernel
theorem dX3_sell_91 : decode cX3_sell 91 = .ok (.getfield 10, 3) := by decide +kernel
theorem dX3_sell_94 : decode cX3_sell 94 = .ok (.iload_n 1, 1) := by decide +kernel
theorem dX3_sell_95 : decode cX3_sell 95 = .ok (.iload_n 2, 1) := by decide +kernel
theorem dX3_sell_96 : decode cX3_sell 96 = .ok (.aload_n 0, 1) := by decide +kernel
theorem dX3_sell_97 : decode cX3_sell 97 = .ok (.getfield 46, 3) := by decide +kernel
theorem dX3_sell_100 : decode cX3_sell 100 = .ok (.invokevirtual 114, 3) := by decide +kernel
theorem dX3_sell_103 : decode cX3_sell 103 = .ok (.aload_n 0, 1) := by decide +kernel
theorem dX3_sell_104 : decode cX3_sell 104 = .ok (.dup, 1) := by decide +kernel
theorem dX3_sell_105 : decode cX3_sell 105 = .ok (.getfield 46, 3) := by decide +kernel
theorem dX3_sell_108 : decode cX3_sell 108 = .ok (.iconst 1, 1) := by decide +kernel
theorem dX3_sell_109 : decode cX3_sell 109 = .ok (.iadd, 1) := by decide +kernel
theorem dX3_sell_110 : decode cX3_sell 110 = .ok (.putfield 46, 3) := by decide +kernel
theorem dX3_sell_113 : decode cX3_sell 113 = .ok (.iconst 0, 1) := by decide +kernel
theorem dX3_sell_114 : decode cX3_sell 114 = .ok (.ireturn, 1) := by decide +kernel
theorem dX3_sell_115 : decode cX3_sell 115 = .ok (.aload_n 0, 1) := by decide +kernel
theorem dX3_sell_116 : decode cX3_sell 116 = .ok (.getfield 19, 3) := by decide +kernel
theorem dX3_sell_119 : decode cX3_sell 119 = .ok (.iload 4, 2) := by decide +kernel
theorem dX3_sell_121 : decode cX3_sell 121 = .ok (.iload_n 3, 1) := by decide +kernel
theorem dX3_sell_122 : decode cX3_sell 122 = .ok (.invokevirtual 118, 3) := by decide +kernel
theorem dX3_sell_125 : decode cX3_sell 125 = .ok (.istore 5, 2) := by decide +kernel
theorem dX3_sell_127 : decode cX3_sell 127 = .ok (.aload_n 0, 1) := by decide +kernel
theorem dX3_sell_128 : decode cX3_sell 128 = .ok (.getfield 30, 3) := by decide +kernel
theorem dX3_sell_131 : decode cX3_sell 131 = .ok (.aload_n 0, 1) := by decide +kernel
theorem dX3_sell_132 : decode cX3_sell 132 = .ok (.getfield 10, 3) := by decide +kernel
theorem dX3_sell_135 : decode cX3_sell 135 = .ok (.getfield 82, 3) := by decide +kernel
theorem dX3_sell_138 : decode cX3_sell 138 = .ok (.iload_n 1, 1) := by decide +kernel
theorem dX3_sell_139 : decode cX3_sell 139 = .ok (.iaload, 1) := by decide +kernel
theorem dX3_sell_140 : decode cX3_sell 140 = .ok (.dup2, 1) := by decide +kernel
theorem dX3_sell_141 : decode cX3_sell 141 = .ok (.iaload, 1) := by decide +kernel
theorem dX3_sell_142 : decode cX3_sell 142 = .ok (.iload 5, 2) := by decide +kernel
theorem dX3_sell_144 : decode cX3_sell 144 = .ok (.iadd, 1) := by decide +kernel
theorem dX3_sell_145 : decode cX3_sell 145 = .ok (.iastore, 1) := by decide +kernel
theorem dX3_sell_146 : decode cX3_sell 146 = .ok (.aload_n 0, 1) := by decide +kernel
theorem dX3_sell_147 : decode cX3_sell 147 = .ok (.iload_n 1, 1) := by decide +kernel
theorem dX3_sell_148 : decode cX3_sell 148 = .ok (.iload 4, 2) := by decide +kernel
theorem dX3_sell_150 : decode cX3_sell 150 = .ok (.invokevirtual 121, 3) := by decide +kernel
theorem dX3_sell_153 : decode cX3_sell 153 = .ok (.iload 5, 2) := by decide +kernel
theorem dX3_sell_155 : decode cX3_sell 155 = .ok (.ireturn, 1) := by decide +kernel
theorem dX3_bid_0 : decode cX3_bid 0 = .ok (.iload_n 1, 1) := by decide +kernel
theorem dX3_bid_1 : decode cX3_bid 1 = .ok (.invokestatic 53, 3) := by decide +kernel
theorem dX3_bid_4 : decode cX3_bid 4 = .ok (.iload_n 2, 1) := by decide +kernel
theorem dX3_bid_5 : decode cX3_bid 5 = .ok (.invokestatic 57, 3) := by decide +kernel
theorem dX3_bid_8 : decode cX3_bid 8 = .ok (.iload_n 3, 1) := by decide +kernel
theorem dX3_bid_9 : decode cX3_bid 9 = .ok (.invokestatic 95, 3) := by decide +kernel
theorem dX3_bid_12 : decode cX3_bid 12 = .ok (.aload_n 0, 1) := by decide +kernel
theorem dX3_bid_13 : decode cX3_bid 13 = .ok (.getfield 30, 3) := by decide +kernel
theorem dX3_bid_16 : decode cX3_bid 16 = .ok (.iload_n 1, 1) := by decide +kernel
theorem dX3_bid_17 : decode cX3_bid 17 = .ok (.iaload, 1) := by decide +kernel
theorem dX3_bid_18 : decode cX3_bid 18 = .ok (.iload_n 3, 1) := by decide +kernel
theorem dX3_bid_19 : decode cX3_bid 19 = .ok (.if_icmp .lt 23, 3) := by decide +kernel
theorem dX3_bid_22 : decode cX3_bid 22 = .ok (.aload_n 0, 1) := by decide +kernel
theorem dX3_bid_23 : decode cX3_bid 23 = .ok (.getfield 19, 3) := by decide +kernel
theorem dX3_bid_26 : decode cX3_bid 26 = .ok (.iload_n 1, 1) := by decide +kernel
theorem dX3_bid_27 : decode cX3_bid 27 = .ok (.iload_n 2, 1) := by decide +kernel
theorem dX3_bid_28 : decode cX3_bid 28 = .ok (.invokevirtual 124, 3) := by decide +kernel
theorem dX3_bid_31 : decode cX3_bid 31 = .ok (.ifCond .ne 11, 3) := by decide +kernel
theorem dX3_bid_34 : decode cX3_bid 34 = .ok (.aload_n 0, 1) := by decide +kernel
theorem dX3_bid_35 : decode cX3_bid 35 = .ok (.iload_n 2, 1) := by decide +kernel
theorem dX3_bid_36 : decode cX3_bid 36 = .ok (.invokevirtual 101, 3) := by decide +kernel
theorem dX3_bid_39 : decode cX3_bid 39 = .ok (.ifCond .eq 13, 3) := by decide +kernel
theorem dX3_bid_42 : decode cX3_bid 42 = .ok (.new 64, 3) := by decide +kernel
theorem dX3_bid_45 : decode cX3_bid 45 = .ok (.dup, 1) := by decide +kernel
theorem dX3_bid_46 : decode cX3_bid 46 = .ok (.ldc 128, 2) := by decide +kernel
theorem dX3_bid_48 : decode cX3_bid 48 = .ok (.invokespecial 68, 3) := by decide +kernel
theorem dX3_bid_51 : decode cX3_bid 51 = .ok (.athrow, 1) := by decide +kernel
theorem dX3_bid_52 : decode cX3_bid 52 = .ok (.aload_n 0, 1) := by decide +kernel
theorem dX3_bid_53 : decode cX3_bid 53 = .ok (.getfield 10, 3) := by decide +kernel
theorem dX3_bid_56 : decode cX3_bid 56 = .ok (.iload_n 2, 1) := by decide +kernel
theorem dX3_bid_57 : decode cX3_bid 57 = .ok (.iload_n 1, 1) := by decide +kernel
theorem dX3_bid_58 : decode cX3_bid 58 = .ok (.invokevirtual 130, 3) := by decide +kernel
theorem dX3_bid_61 : decode cX3_bid 61 = .ok (.istore 4, 2) := by decide +kernel
theorem dX3_bid_63 : decode cX3_bid 63 = .ok (.iload 4, 2) := by decide +kernel
theorem dX3_bid_65 : decode cX3_bid 65 = .ok (.iconst (-1), 1) := by decide +kernel
theorem dX3_bid_66 : decode cX3_bid 66 = .ok (.if_icmp .eq 17, 3) := by decide +kernel
theorem dX3_bid_69 : decode cX3_bid 69 = .ok (.aload_n 0, 1) := by decide +kernel
theorem dX3_bid_70 : decode cX3_bid 70 = .ok (.getfield 10, 3) := by decide +kernel
theorem dX3_bid_73 : decode cX3_bid 73 = .ok (.getfield 133, 3) := by decide +kernel
theorem dX3_bid_76 : decode cX3_bid 76 = .ok (.iload 4, 2) := by decide +kernel
theorem dX3_bid_78 : decode cX3_bid 78 = .ok (.iaload, 1) := by decide +kernel
theorem dX3_bid_79 : decode cX3_bid 79 = .ok (.iload_n 3, 1) := by decide +kernel
theorem dX3_bid_80 : decode cX3_bid 80 = .ok (.if_icmp .le 39, 3) := by decide +kernel
theorem dX3_bid_83 : decode cX3_bid 83 = .ok (.aload_n 0, 1) := by decide +kernel
theorem dX3_bid_84 : decode cX3_bid 84 = .ok (.getfield 30, 3) := by decide +kernel
theorem dX3_bid_87 : decode cX3_bid 87 = .ok (.iload_n 1, 1) := by decide +kernel
theorem dX3_bid_88 : decode cX3_bid 88 = .ok (.dup2, 1) := by decide +kernel
theorem dX3_bid_89 : decode cX3_bid 89 = .ok (.iaload, 1) := by decide +kernel
theorem dX3_bid_90 : decode cX3_bid 90 = .ok (.iload_n 3, 1) := by decide +kernel
theorem dX3_bid_91 : decode cX3_bid 91 = .ok (.isub, 1) := by decide +kernel
theorem dX3_bid_92 : decode cX3_bid 92 = .ok (.iastore, 1) := by decide +kernel
theorem dX3_bid_93 : decode cX3_bid 93 = .ok (.aload_n 0, 1) := by decide +kernel
theorem dX3_bid_94 : decode cX3_bid 94 = .ok (.getfield 19, 3) := by decide +kernel
theorem dX3_bid_97 : decode cX3_bid 97 = .ok (.iload_n 1, 1) := by decide +kernel
theorem dX3_bid_98 : decode cX3_bid 98 = .ok (.iload_n 2, 1) := by decide +kernel
theorem dX3_bid_99 : decode cX3_bid 99 = .ok (.iload_n 3, 1) := by decide +kernel
theorem dX3_bid_100 : decode cX3_bid 100 = .ok (.aload_n 0, 1) := by decide +kernel
theorem dX3_bid_101 : decode cX3_bid 101 = .ok (.getfield 46, 3) := by decide +kernel
theorem dX3_bid_104 : decode cX3_bid 104 = .ok (.invokevirtual 136, 3) := by decide +kernel
theorem dX3_bid_107 : decode cX3_bid 107 = .ok (.aload_n 0, 1) := by decide +kernel
theorem dX3_bid_108 : decode cX3_bid 108 = .ok (.dup, 1) := by decide +kernel
theorem dX3_bid_109 : decode cX3_bid 109 = .ok (.getfield 46, 3) := by decide +kernel
theorem dX3_bid_112 : decode cX3_bid 112 = .ok (.iconst 1, 1) := by decide +kernel
theorem dX3_bid_113 : decode cX3_bid 113 = .ok (.iadd, 1) := by decide +kernel
theorem dX3_bid_114 : decode cX3_bid 114 = .ok (.putfield 46, 3) := by decide +kernel
theorem dX3_bid_117 : decode cX3_bid 117 = .ok (.iconst (-1), 1) := by decide +kernel
theorem dX3_bid_118 : decode cX3_bid 118 = .ok (.ireturn, 1) := by decide +kernel
theorem dX3_bid_119 : decode cX3_bid 119 = .ok (.aload_n 0, 1) := by decide +kernel
theorem dX3_bid_120 : decode cX3_bid 120 = .ok (.getfield 10, 3) := by decide +kernel
theorem dX3_bid_123 : decode cX3_bid 123 = .ok (.iload 4, 2) := by decide +kernel
theorem dX3_bid_125 : decode cX3_bid 125 = .ok (.invokevirtual 140, 3) := by decide +kernel
theorem dX3_bid_128 : decode cX3_bid 128 = .ok (.istore 5, 2) := by decide +kernel
theorem dX3_bid_130 : decode cX3_bid 130 = .ok (.aload_n 0, 1) := by decide +kernel
theorem dX3_bid_131 : decode cX3_bid 131 = .ok (.getfield 30, 3) := by decide +kernel
theorem dX3_bid_134 : decode cX3_bid 134 = .ok (.iload_n 1, 1) := by decide +kernel
theorem dX3_bid_135 : decode cX3_bid 135 = .ok (.dup2, 1) := by decide +kernel
theorem dX3_bid_136 : decode cX3_bid 136 = .ok (.iaload, 1) := by decide +kernel
theorem dX3_bid_137 : decode cX3_bid 137 = .ok (.iload 5, 2) := by decide +kernel
theorem dX3_bid_139 : decode cX3_bid 139 = .ok (.isub, 1) := by decide +kernel
theorem dX3_bid_140 : decode cX3_bid 140 = .ok (.iastore, 1) := by decide +kernel
theorem dX3_bid_141 : decode cX3_bid 141 = .ok (.aload_n 0, 1) := by decide +kernel
theorem dX3_bid_142 : decode cX3_bid 142 = .ok (.getfield 30, 3) := by decide +kernel
theorem dX3_bid_145 : decode cX3_bid 145 = .ok (.aload_n 0, 1) := by decide +kernel
theorem dX3_bid_146 : decode cX3_bid 146 = .ok (.getfield 10, 3) := by decide +kernel
theorem dX3_bid_149 : decode cX3_bid 149 = .ok (.getfield 82, 3) := by decide +kernel
theorem dX3_bid_152 : decode cX3_bid 152 = .ok (.iload 4, 2) := by decide +kernel
theorem dX3_bid_154 : decode cX3_bid 154 = .ok (.iaload, 1) := by decide +kernel
theorem dX3_bid_155 : decode cX3_bid 155 = .ok (.dup2, 1) := by decide +kernel
theorem dX3_bid_156 : decode cX3_bid 156 = .ok (.iaload, 1) := by decide +kernel
theorem dX3_bid_157 : decode cX3_bid 157 = .ok (.iload 5, 2) := by decide +kernel
theorem dX3_bid_159 : decode cX3_bid 159 = .ok (.iadd, 1) := by decide +kernel
theorem dX3_bid_160 : decode cX3_bid 160 = .ok (.iastore, 1) := by decide +kernel
theorem dX3_bid_161 : decode cX3_bid 161 = .ok (.aload_n 0, 1) := by decide +kernel
theorem dX3_bid_162 : decode cX3_bid 162 = .ok (.iload 4, 2) := by decide +kernel
theorem dX3_bid_164 : decode cX3_bid 164 = .ok (.iload_n 1, 1) := by decide +kernel
theorem dX3_bid_165 : decode cX3_bid 165 = .ok (.invokevirtual 121, 3) := by decide +kernel
theorem dX3_bid_168 : decode cX3_bid 168 = .ok (.iload 4, 2) := by decide +kernel
theorem dX3_bid_170 : decode cX3_bid 170 = .ok (.ireturn, 1) := by decide +kernel
theorem dX3_cancelSale_0 : decode cX3_cancelSale 0 = .ok (.aload_n 0, 1) := by decide +kernel
theorem dX3_cancelSale_1 : decode cX3_cancelSale 1 = .ok (.iload_n 1, 1) := by decide +kernel
theorem dX3_cancelSale_2 : decode cX3_cancelSale 2 = .ok (.invokevirtual 79, 3) := by decide +kernel
theorem dX3_cancelSale_5 : decode cX3_cancelSale 5 = .ok (.aload_n 0, 1) := by decide +kernel
theorem dX3_cancelSale_6 : decode cX3_cancelSale 6 = .ok (.getfield 10, 3) := by decide +kernel
theorem dX3_cancelSale_9 : decode cX3_cancelSale 9 = .ok (.getfield 92, 3) := by decide +kernel
theorem dX3_cancelSale_12 : decode cX3_cancelSale 12 = .ok (.iload_n 1, 1) := by decide +kernel
theorem dX3_cancelSale_13 : decode cX3_cancelSale 13 = .ok (.iaload, 1) := by decide +kernel
theorem dX3_cancelSale_14 : decode cX3_cancelSale 14 = .ok (.iconst 1, 1) := by decide +kernel
theorem dX3_cancelSale_15 : decode cX3_cancelSale 15 = .ok (.if_icmp .eq 13, 3) := by decide +kernel
theorem dX3_cancelSale_18 : decode cX3_cancelSale 18 = .ok (.new 64, 3) := by decide +kernel
theorem dX3_cancelSale_21 : decode cX3_cancelSale 21 = .ok (.dup, 1) := by decide +kernel
theorem dX3_cancelSale_22 : decode cX3_cancelSale 22 = .ok (.ldc 143, 2) := by decide +kernel
theorem dX3_cancelSale_24 : decode cX3_cancelSale 24 = .ok (.invokespecial 68, 3) := by decide +kernel
theorem dX3_cancelSale_27 : decode cX3_cancelSale 27 = .ok (.athrow, 1) := by decide +kernel
theorem dX3_cancelSale_28 : decode cX3_cancelSale 28 = .ok (.aload_n 0, 1) := by decide +kernel
theorem dX3_cancelSale_29 : decode cX3_cancelSale 29 = .ok (.getfield 10, 3) := by decide +kernel
theorem dX3_cancelSale_32 : decode cX3_cancelSale 32 = .ok (.iload_n 1, 1) := by decide +kernel
theorem dX3_cancelSale_33 : decode cX3_cancelSale 33 = .ok (.invokevirtual 140, 3) := by decide +kernel
theorem dX3_cancelSale_36 : decode cX3_cancelSale 36 = .ok (.ireturn, 1) := by decide +kernel
theorem dX3_cancelBid_0 : decode cX3_cancelBid 0 = .ok (.iload_n 1, 1) := by decide +kernel
theorem dX3_cancelBid_1 : decode cX3_cancelBid 1 = .ok (.invokestatic 53, 3) := by decide +kernel
theorem dX3_cancelBid_4 : decode cX3_cancelBid 4 = .ok (.iload_n 2, 1) := by decide +kernel
theorem dX3_cancelBid_5 : decode cX3_cancelBid 5 = .ok (.invokestatic 57, 3) := by decide +kernel
theorem dX3_cancelBid_8 : decode cX3_cancelBid 8 = .ok (.aload_n 0, 1) := by decide +kernel
theorem dX3_cancelBid_9 : decode cX3_cancelBid 9 = .ok (.getfield 19, 3) := by decide +kernel
theorem dX3_cancelBid_12 : decode cX3_cancelBid 12 = .ok (.iload_n 1, 1) := by decide +kernel
theorem dX3_cancelBid_13 : decode cX3_cancelBid 13 = .ok (.iload_n 2, 1) := by decide +kernel
theorem dX3_cancelBid_14 : decode cX3_cancelBid 14 = .ok (.invokevirtual 124, 3) := by decide +kernel
theorem dX3_cancelBid_17 : decode cX3_cancelBid 17 = .ok (.ifCond .ne 13, 3) := by decide +kernel
theorem dX3_cancelBid_20 : decode cX3_cancelBid 20 = .ok (.new 64, 3) := by decide +kernel
theorem dX3_cancelBid_23 : decode cX3_cancelBid 23 = .ok (.dup, 1) := by decide +kernel
theorem dX3_cancelBid_24 : decode cX3_cancelBid 24 = .ok (.ldc 145, 2) := by decide +kernel
theorem dX3_cancelBid_26 : decode cX3_cancelBid 26 = .ok (.invokespecial 68, 3) := by decide +kernel
theorem dX3_cancelBid_29 : decode cX3_cancelBid 29 = .ok (.athrow, 1) := by decide +kernel
theorem dX3_cancelBid_30 : decode cX3_cancelBid 30 = .ok (.aload_n 0, 1) := by decide +kernel
theorem dX3_cancelBid_31 : decode cX3_cancelBid 31 = .ok (.iload_n 1, 1) := by decide +kernel
theorem dX3_cancelBid_32 : decode cX3_cancelBid 32 = .ok (.iload_n 2, 1) := by decide +kernel
theorem dX3_cancelBid_33 : decode cX3_cancelBid 33 = .ok (.invokevirtual 147, 3) := by decide +kernel
theorem dX3_cancelBid_36 : decode cX3_cancelBid 36 = .ok (.ireturn, 1) := by decide +kernel
theorem dX3_leastSale_0 : decode cX3_leastSale 0 = .ok (.iload_n 1, 1) := by decide +kernel
theorem dX3_leastSale_1 : decode cX3_leastSale 1 = .ok (.invokestatic 57, 3) := by decide +kernel
theorem dX3_leastSale_4 : decode cX3_leastSale 4 = .ok (.aload_n 0, 1) := by decide +kernel
theorem dX3_leastSale_5 : decode cX3_leastSale 5 = .ok (.getfield 10, 3) := by decide +kernel
theorem dX3_leastSale_8 : decode cX3_leastSale 8 = .ok (.iload_n 1, 1) := by decide +kernel
theorem dX3_leastSale_9 : decode cX3_leastSale 9 = .ok (.iconst (-1), 1) := by decide +kernel
theorem dX3_leastSale_10 : decode cX3_leastSale 10 = .ok (.invokevirtual 130, 3) := by decide +kernel
theorem dX3_leastSale_13 : decode cX3_leastSale 13 = .ok (.istore_n 2, 1) := by decide +kernel
theorem dX3_leastSale_14 : decode cX3_leastSale 14 = .ok (.iload_n 2, 1) := by decide +kernel
theorem dX3_leastSale_15 : decode cX3_leastSale 15 = .ok (.iconst (-1), 1) := by decide +kernel
theorem dX3_leastSale_16 : decode cX3_leastSale 16 = .ok (.if_icmp .ne 7, 3) := by decide +kernel
theorem dX3_leastSale_19 : decode cX3_leastSale 19 = .ok (.iconst (-1), 1) := by decide +kernel
theorem dX3_leastSale_20 : decode cX3_leastSale 20 = .ok (.goto 12, 3) := by decide +kernel
theorem dX3_leastSale_23 : decode cX3_leastSale 23 = .ok (.aload_n 0, 1) := by decide +kernel
theorem dX3_leastSale_24 : decode cX3_leastSale 24 = .ok (.getfield 10, 3) := by decide +kernel
theorem dX3_leastSale_27 : decode cX3_leastSale 27 = .ok (.getfield 133, 3) := by decide +kernel
theorem dX3_leastSale_30 : decode cX3_leastSale 30 = .ok (.iload_n 2, 1) := by decide +kernel
theorem dX3_leastSale_31 : decode cX3_leastSale 31 = .ok (.iaload, 1) := by decide +kernel
theorem dX3_leastSale_32 : decode cX3_leastSale 32 = .ok (.ireturn, 1) := by decide +kernel
theorem dX3_greatestBid_0 : decode cX3_greatestBid 0 = .ok (.iload_n 1, 1) := by decide +kernel
theorem dX3_greatestBid_1 : decode cX3_greatestBid 1 = .ok (.invokestatic 57, 3) := by decide +kernel
theorem dX3_greatestBid_4 : decode cX3_greatestBid 4 = .ok (.aload_n 0, 1) := by decide +kernel
theorem dX3_greatestBid_5 : decode cX3_greatestBid 5 = .ok (.getfield 19, 3) := by decide +kernel
theorem dX3_greatestBid_8 : decode cX3_greatestBid 8 = .ok (.iload_n 1, 1) := by decide +kernel
theorem dX3_greatestBid_9 : decode cX3_greatestBid 9 = .ok (.iconst (-1), 1) := by decide +kernel
theorem dX3_greatestBid_10 : decode cX3_greatestBid 10 = .ok (.invokevirtual 107, 3) := by decide +kernel
theorem dX3_greatestBid_13 : decode cX3_greatestBid 13 = .ok (.istore_n 2, 1) := by decide +kernel
theorem dX3_greatestBid_14 : decode cX3_greatestBid 14 = .ok (.iload_n 2, 1) := by decide +kernel
theorem dX3_greatestBid_15 : decode cX3_greatestBid 15 = .ok (.iconst (-1), 1) := by decide +kernel
theorem dX3_greatestBid_16 : decode cX3_greatestBid 16 = .ok (.if_icmp .ne 7, 3) := by decide +kernel
theorem dX3_greatestBid_19 : decode cX3_greatestBid 19 = .ok (.iconst (-1), 1) := by decide +kernel
theorem dX3_greatestBid_20 : decode cX3_greatestBid 20 = .ok (.goto 14, 3) := by decide +kernel
theorem dX3_greatestBid_23 : decode cX3_greatestBid 23 = .ok (.aload_n 0, 1) := by decide +kernel
theorem dX3_greatestBid_24 : decode cX3_greatestBid 24 = .ok (.getfield 19, 3) := by decide +kernel
theorem dX3_greatestBid_27 : decode cX3_greatestBid 27 = .ok (.getfield 110, 3) := by decide +kernel
theorem dX3_greatestBid_30 : decode cX3_greatestBid 30 = .ok (.iload_n 2, 1) := by decide +kernel
theorem dX3_greatestBid_31 : decode cX3_greatestBid 31 = .ok (.aaload, 1) := by decide +kernel
theorem dX3_greatestBid_32 : decode cX3_greatestBid 32 = .ok (.iload_n 1, 1) := by decide +kernel
theorem dX3_greatestBid_33 : decode cX3_greatestBid 33 = .ok (.iaload, 1) := by decide +kernel
theorem dX3_greatestBid_34 : decode cX3_greatestBid 34 = .ok (.ireturn, 1) := by decide +kernel
theorem dX3_swap_0 : decode cX3_swap 0 = .ok (.aload_n 0, 1) := by decide +kernel
theorem dX3_swap_1 : decode cX3_swap 1 = .ok (.iload_n 1, 1) := by decide +kernel
theorem dX3_swap_2 : decode cX3_swap 2 = .ok (.invokevirtual 79, 3) := by decide +kernel
theorem dX3_swap_5 : decode cX3_swap 5 = .ok (.aload_n 0, 1) := by decide +kernel
theorem dX3_swap_6 : decode cX3_swap 6 = .ok (.iload_n 2, 1) := by decide +kernel
theorem dX3_swap_7 : decode cX3_swap 7 = .ok (.invokevirtual 79, 3) := by decide +kernel
theorem dX3_swap_10 : decode cX3_swap 10 = .ok (.aload_n 0, 1) := by decide +kernel
theorem dX3_swap_11 : decode cX3_swap 11 = .ok (.getfield 10, 3) := by decide +kernel
theorem dX3_swap_14 : decode cX3_swap 14 = .ok (.getfield 82, 3) := by decide +kernel
theorem dX3_swap_17 : decode cX3_swap 17 = .ok (.iload_n 1, 1) := by decide +kernel
theorem dX3_swap_18 : decode cX3_swap 18 = .ok (.iaload, 1) := by decide +kernel
theorem dX3_swap_19 : decode cX3_swap 19 = .ok (.aload_n 0, 1) := by decide +kernel
theorem dX3_swap_20 : decode cX3_swap 20 = .ok (.getfield 10, 3) := by decide +kernel
theorem dX3_swap_23 : decode cX3_swap 23 = .ok (.getfield 82, 3) := by decide +kernel
theorem dX3_swap_26 : decode cX3_swap 26 = .ok (.iload_n 2, 1) := by decide +kernel
theorem dX3_swap_27 : decode cX3_swap 27 = .ok (.iaload, 1) := by decide +kernel
theorem dX3_swap_28 : decode cX3_swap 28 = .ok (.if_icmp .ne 13, 3) := by decide +kernel
theorem dX3_swap_31 : decode cX3_swap 31 = .ok (.new 150, 3) := by decide +kernel
theorem dX3_swap_34 : decode cX3_swap 34 = .ok (.dup, 1) := by decide +kernel
theorem dX3_swap_35 : decode cX3_swap 35 = .ok (.ldc 152, 2) := by decide +kernel
theorem dX3_swap_37 : decode cX3_swap 37 = .ok (.invokespecial 154, 3) := by decide +kernel
theorem dX3_swap_40 : decode cX3_swap 40 = .ok (.athrow, 1) := by decide +kernel
theorem dX3_swap_41 : decode cX3_swap 41 = .ok (.aload_n 0, 1) := by decide +kernel
theorem dX3_swap_42 : decode cX3_swap 42 = .ok (.getfield 10, 3) := by decide +kernel
theorem dX3_swap_45 : decode cX3_swap 45 = .ok (.getfield 92, 3) := by decide +kernel
theorem dX3_swap_48 : decode cX3_swap 48 = .ok (.iload_n 1, 1) := by decide +kernel
theorem dX3_swap_49 : decode cX3_swap 49 = .ok (.iaload, 1) := by decide +kernel
theorem dX3_swap_50 : decode cX3_swap 50 = .ok (.ifCond .eq 13, 3) := by decide +kernel
theorem dX3_swap_53 : decode cX3_swap 53 = .ok (.new 64, 3) := by decide +kernel
theorem dX3_swap_56 : decode cX3_swap 56 = .ok (.dup, 1) := by decide +kernel
theorem dX3_swap_57 : decode cX3_swap 57 = .ok (.ldc 155, 2) := by decide +kernel
theorem dX3_swap_59 : decode cX3_swap 59 = .ok (.invokespecial 68, 3) := by decide +kernel
theorem dX3_swap_62 : decode cX3_swap 62 = .ok (.athrow, 1) := by decide +kernel
theorem dX3_swap_63 : decode cX3_swap 63 = .ok (.aload_n 0, 1) := by decide +kernel
theorem dX3_swap_64 : decode cX3_swap 64 = .ok (.getfield 10, 3) := by decide +kernel
theorem dX3_swap_67 : decode cX3_swap 67 = .ok (.getfield 92, 3) := by decide +kernel
theorem dX3_swap_70 : decode cX3_swap 70 = .ok (.iload_n 1, 1) := by decide +kernel
theorem dX3_swap_71 : decode cX3_swap 71 = .ok (.iconst 2, 1) := by decide +kernel
theorem dX3_swap_72 : decode cX3_swap 72 = .ok (.iastore, 1) := by decide +kernel
theorem dX3_swap_73 : decode cX3_swap 73 = .ok (.aload_n 0, 1) := by decide +kernel
theorem dX3_swap_74 : decode cX3_swap 74 = .ok (.getfield 10, 3) := by decide +kernel
theorem dX3_swap_77 : decode cX3_swap 77 = .ok (.getfield 157, 3) := by decide +kernel
theorem dX3_swap_80 : decode cX3_swap 80 = .ok (.iload_n 1, 1) := by decide +kernel
theorem dX3_swap_81 : decode cX3_swap 81 = .ok (.iload_n 2, 1) := by decide +kernel
theorem dX3_swap_82 : decode cX3_swap 82 = .ok (.iastore, 1) := by decide +kernel
theorem dX3_swap_83 : decode cX3_swap 83 = .ok (.return_, 1) := by decide +kernel
theorem dX3_agree_0 : decode cX3_agree 0 = .ok (.aload_n 0, 1) := by decide +kernel
theorem dX3_agree_1 : decode cX3_agree 1 = .ok (.iload_n 1, 1) := by decide +kernel
theorem dX3_agree_2 : decode cX3_agree 2 = .ok (.invokevirtual 79, 3) := by decide +kernel
theorem dX3_agree_5 : decode cX3_agree 5 = .ok (.aload_n 0, 1) := by decide +kernel
theorem dX3_agree_6 : decode cX3_agree 6 = .ok (.getfield 10, 3) := by decide +kernel
theorem dX3_agree_9 : decode cX3_agree 9 = .ok (.iload_n 1, 1) := by decide +kernel
theorem dX3_agree_10 : decode cX3_agree 10 = .ok (.invokevirtual 160, 3) := by decide +kernel
theorem dX3_agree_13 : decode cX3_agree 13 = .ok (.ifCond .ne 13, 3) := by decide +kernel
theorem dX3_agree_16 : decode cX3_agree 16 = .ok (.new 64, 3) := by decide +kernel
theorem dX3_agree_19 : decode cX3_agree 19 = .ok (.dup, 1) := by decide +kernel
theorem dX3_agree_20 : decode cX3_agree 20 = .ok (.ldc 163, 2) := by decide +kernel
theorem dX3_agree_22 : decode cX3_agree 22 = .ok (.invokespecial 68, 3) := by decide +kernel
theorem dX3_agree_25 : decode cX3_agree 25 = .ok (.athrow, 1) := by decide +kernel
theorem dX3_agree_26 : decode cX3_agree 26 = .ok (.aload_n 0, 1) := by decide +kernel
theorem dX3_agree_27 : decode cX3_agree 27 = .ok (.getfield 10, 3) := by decide +kernel
theorem dX3_agree_30 : decode cX3_agree 30 = .ok (.getfield 157, 3) := by decide +kernel
theorem dX3_agree_33 : decode cX3_agree 33 = .ok (.iload_n 1, 1) := by decide +kernel
theorem dX3_agree_34 : decode cX3_agree 34 = .ok (.iaload, 1) := by decide +kernel
theorem dX3_agree_35 : decode cX3_agree 35 = .ok (.istore_n 2, 1) := by decide +kernel
theorem dX3_agree_36 : decode cX3_agree 36 = .ok (.aload_n 0, 1) := by decide +kernel
theorem dX3_agree_37 : decode cX3_agree 37 = .ok (.getfield 10, 3) := by decide +kernel
theorem dX3_agree_40 : decode cX3_agree 40 = .ok (.getfield 82, 3) := by decide +kernel
theorem dX3_agree_43 : decode cX3_agree 43 = .ok (.iload_n 1, 1) := by decide +kernel
theorem dX3_agree_44 : decode cX3_agree 44 = .ok (.iaload, 1) := by decide +kernel
theorem dX3_agree_45 : decode cX3_agree 45 = .ok (.istore_n 3, 1) := by decide +kernel
theorem dX3_agree_46 : decode cX3_agree 46 = .ok (.aload_n 0, 1) := by decide +kernel
theorem dX3_agree_47 : decode cX3_agree 47 = .ok (.iload_n 1, 1) := by decide +kernel
theorem dX3_agree_48 : decode cX3_agree 48 = .ok (.aload_n 0, 1) := by decide +kernel
theorem dX3_agree_49 : decode cX3_agree 49 = .ok (.getfield 10, 3) := by decide +kernel
theorem dX3_agree_52 : decode cX3_agree 52 = .ok (.getfield 82, 3) := by decide +kernel
theorem dX3_agree_55 : decode cX3_agree 55 = .ok (.iload_n 2, 1) := by decide +kernel
theorem dX3_agree_56 : decode cX3_agree 56 = .ok (.iaload, 1) := by decide +kernel
theorem dX3_agree_57 : decode cX3_agree 57 = .ok (.invokevirtual 121, 3) := by decide +kernel
theorem dX3_agree_60 : decode cX3_agree 60 = .ok (.aload_n 0, 1) := by decide +kernel
theorem dX3_agree_61 : decode cX3_agree 61 = .ok (.iload_n 2, 1) := by decide +kernel
theorem dX3_agree_62 : decode cX3_agree 62 = .ok (.iload_n 3, 1) := by decide +kernel
theorem dX3_agree_63 : decode cX3_agree 63 = .ok (.invokevirtual 121, 3) := by decide +kernel
theorem dX3_agree_66 : decode cX3_agree 66 = .ok (.iload_n 2, 1) := by decide +kernel
theorem dX3_agree_67 : decode cX3_agree 67 = .ok (.ireturn, 1) := by decide +kernel
theorem dX3_cancelSwap_0 : decode cX3_cancelSwap 0 = .ok (.aload_n 0, 1) := by decide +kernel
theorem dX3_cancelSwap_1 : decode cX3_cancelSwap 1 = .ok (.iload_n 1, 1) := by decide +kernel
theorem dX3_cancelSwap_2 : decode cX3_cancelSwap 2 = .ok (.invokevirtual 79, 3) := by decide +kernel
theorem dX3_cancelSwap_5 : decode cX3_cancelSwap 5 = .ok (.aload_n 0, 1) := by decide +kernel
theorem dX3_cancelSwap_6 : decode cX3_cancelSwap 6 = .ok (.getfield 10, 3) := by decide +kernel
theorem dX3_cancelSwap_9 : decode cX3_cancelSwap 9 = .ok (.getfield 92, 3) := by decide +kernel
theorem dX3_cancelSwap_12 : decode cX3_cancelSwap 12 = .ok (.iload_n 1, 1) := by decide +kernel
theorem dX3_cancelSwap_13 : decode cX3_cancelSwap 13 = .ok (.iaload, 1) := by decide +kernel
theorem dX3_cancelSwap_14 : decode cX3_cancelSwap 14 = .ok (.iconst 2, 1) := by decide +kernel
theorem dX3_cancelSwap_15 : decode cX3_cancelSwap 15 = .ok (.if_icmp .eq 13, 3) := by decide +kernel
theorem dX3_cancelSwap_18 : decode cX3_cancelSwap 18 = .ok (.new 64, 3) := by decide +kernel
theorem dX3_cancelSwap_21 : decode cX3_cancelSwap 21 = .ok (.dup, 1) := by decide +kernel
theorem dX3_cancelSwap_22 : decode cX3_cancelSwap 22 = .ok (.ldc 165, 2) := by decide +kernel
theorem dX3_cancelSwap_24 : decode cX3_cancelSwap 24 = .ok (.invokespecial 68, 3) := by decide +kernel
theorem dX3_cancelSwap_27 : decode cX3_cancelSwap 27 = .ok (.athrow, 1) := by decide +kernel
theorem dX3_cancelSwap_28 : decode cX3_cancelSwap 28 = .ok (.aload_n 0, 1) := by decide +kernel
theorem dX3_cancelSwap_29 : decode cX3_cancelSwap 29 = .ok (.getfield 10, 3) := by decide +kernel
theorem dX3_cancelSwap_32 : decode cX3_cancelSwap 32 = .ok (.getfield 92, 3) := by decide +kernel
theorem dX3_cancelSwap_35 : decode cX3_cancelSwap 35 = .ok (.iload_n 1, 1) := by decide +kernel
theorem dX3_cancelSwap_36 : decode cX3_cancelSwap 36 = .ok (.iconst 0, 1) := by decide +kernel
theorem dX3_cancelSwap_37 : decode cX3_cancelSwap 37 = .ok (.iastore, 1) := by decide +kernel
theorem dX3_cancelSwap_38 : decode cX3_cancelSwap 38 = .ok (.return_, 1) := by decide +kernel
theorem dX3_lend_0 : decode cX3_lend 0 = .ok (.aload_n 0, 1) := by decide +kernel
theorem dX3_lend_1 : decode cX3_lend 1 = .ok (.iload_n 1, 1) := by decide +kernel
theorem dX3_lend_2 : decode cX3_lend 2 = .ok (.invokevirtual 79, 3) := by decide +kernel
theorem dX3_lend_5 : decode cX3_lend 5 = .ok (.iload_n 2, 1) := by decide +kernel
theorem dX3_lend_6 : decode cX3_lend 6 = .ok (.invokestatic 53, 3) := by decide +kernel
theorem dX3_lend_9 : decode cX3_lend 9 = .ok (.iload_n 3, 1) := by decide +kernel
theorem dX3_lend_10 : decode cX3_lend 10 = .ok (.iconst 1, 1) := by decide +kernel
theorem dX3_lend_11 : decode cX3_lend 11 = .ok (.if_icmp .lt 22, 3) := by decide +kernel
theorem dX3_lend_14 : decode cX3_lend 14 = .ok (.iload_n 3, 1) := by decide +kernel
theorem dX3_lend_15 : decode cX3_lend 15 = .ok (.bipush 50, 2) := by decide +kernel
theorem dX3_lend_17 : decode cX3_lend 17 = .ok (.if_icmp .gt 16, 3) := by decide +kernel
theorem dX3_lend_20 : decode cX3_lend 20 = .ok (.iload_n 2, 1) := by decide +kernel
theorem dX3_lend_21 : decode cX3_lend 21 = .ok (.aload_n 0, 1) := by decide +kernel
theorem dX3_lend_22 : decode cX3_lend 22 = .ok (.getfield 10, 3) := by decide +kernel
theorem dX3_lend_25 : decode cX3_lend 25 = .ok (.getfield 82, 3) := by decide +kernel
theorem dX3_lend_28 : decode cX3_lend 28 = .ok (.iload_n 1, 1) := by decide +kernel
theorem dX3_lend_29 : decode cX3_lend 29 = .ok (.iaload, 1) := by decide +kernel
theorem dX3_lend_30 : decode cX3_lend 30 = .ok (.if_icmp .ne 13, 3) := by decide +kernel
theorem dX3_lend_33 : decode cX3_lend 33 = .ok (.new 150, 3) := by decide +kernel
theorem dX3_lend_36 : decode cX3_lend 36 = .ok (.dup, 1) := by decide +kernel
theorem dX3_lend_37 : decode cX3_lend 37 = .ok (.ldc 167, 2) := by decide +kernel
theorem dX3_lend_39 : decode cX3_lend 39 = .ok (.invokespecial 154, 3) := by decide +kernel
theorem dX3_lend_42 : decode cX3_lend 42 = .ok (.athrow, 1) := by decide +kernel
theorem dX3_lend_43 : decode cX3_lend 43 = .ok (.aload_n 0, 1) := by decide +kernel
theorem dX3_lend_44 : decode cX3_lend 44 = .ok (.getfield 10, 3) := by decide +kernel
theorem dX3_lend_47 : decode cX3_lend 47 = .ok (.getfield 92, 3) := by decide +kernel
theorem dX3_lend_50 : decode cX3_lend 50 = .ok (.iload_n 1, 1) := by decide +kernel
theorem dX3_lend_51 : decode cX3_lend 51 = .ok (.iaload, 1) := by decide +kernel
theorem dX3_lend_52 : decode cX3_lend 52 = .ok (.ifCond .eq 13, 3) := by decide +kernel
theorem dX3_lend_55 : decode cX3_lend 55 = .ok (.new 64, 3) := by decide +kernel
theorem dX3_lend_58 : decode cX3_lend 58 = .ok (.dup, 1) := by decide +kernel
theorem dX3_lend_59 : decode cX3_lend 59 = .ok (.ldc 155, 2) := by decide +kernel
theorem dX3_lend_61 : decode cX3_lend 61 = .ok (.invokespecial 68, 3) := by decide +kernel
theorem dX3_lend_64 : decode cX3_lend 64 = .ok (.athrow, 1) := by decide +kernel
theorem dX3_lend_65 : decode cX3_lend 65 = .ok (.aload_n 0, 1) := by decide +kernel
theorem dX3_lend_66 : decode cX3_lend 66 = .ok (.getfield 50, 3) := by decide +kernel
theorem dX3_lend_69 : decode cX3_lend 69 = .ok (.iload_n 3, 1) := by decide +kernel
theorem dX3_lend_70 : decode cX3_lend 70 = .ok (.iadd, 1) := by decide +kernel
theorem dX3_lend_71 : decode cX3_lend 71 = .ok (.istore 4, 2) := by decide +kernel
theorem dX3_lend_73 : decode cX3_lend 73 = .ok (.aload_n 0, 1) := by decide +kernel
theorem dX3_lend_74 : decode cX3_lend 74 = .ok (.getfield 10, 3) := by decide +kernel
theorem dX3_lend_77 : decode cX3_lend 77 = .ok (.iload_n 1, 1) := by decide +kernel
theorem dX3_lend_78 : decode cX3_lend 78 = .ok (.iload_n 2, 1) := by decide +kernel
theorem dX3_lend_79 : decode cX3_lend 79 = .ok (.iload 4, 2) := by decide +kernel
theorem dX3_lend_81 : decode cX3_lend 81 = .ok (.invokevirtual 169, 3) := by decide +kernel
theorem dX3_lend_84 : decode cX3_lend 84 = .ok (.iload 4, 2) := by decide +kernel
theorem dX3_lend_86 : decode cX3_lend 86 = .ok (.ireturn, 1) := by decide +kernel
theorem dX3_ban_0 : decode cX3_ban 0 = .ok (.iload_n 1, 1) := by decide +kernel
theorem dX3_ban_1 : decode cX3_ban 1 = .ok (.invokestatic 57, 3) := by decide +kernel
theorem dX3_ban_4 : decode cX3_ban 4 = .ok (.iload_n 2, 1) := by decide +kernel
theorem dX3_ban_5 : decode cX3_ban 5 = .ok (.aload_n 0, 1) := by decide +kernel
theorem dX3_ban_6 : decode cX3_ban 6 = .ok (.getfield 50, 3) := by decide +kernel
theorem dX3_ban_9 : decode cX3_ban 9 = .ok (.if_icmp .lt 14, 3) := by decide +kernel
theorem dX3_ban_12 : decode cX3_ban 12 = .ok (.iload_n 2, 1) := by decide +kernel
theorem dX3_ban_13 : decode cX3_ban 13 = .ok (.aload_n 0, 1) := by decide +kernel
theorem dX3_ban_14 : decode cX3_ban 14 = .ok (.getfield 50, 3) := by decide +kernel
theorem dX3_ban_17 : decode cX3_ban 17 = .ok (.bipush 50, 2) := by decide +kernel
theorem dX3_ban_19 : decode cX3_ban 19 = .ok (.iadd, 1) := by decide +kernel
theorem dX3_ban_20 : decode cX3_ban 20 = .ok (.if_icmp .le 13, 3) := by decide +kernel
theorem dX3_ban_23 : decode cX3_ban 23 = .ok (.new 150, 3) := by decide +kernel
theorem dX3_ban_26 : decode cX3_ban 26 = .ok (.dup, 1) := by decide +kernel
theorem dX3_ban_27 : decode cX3_ban 27 = .ok (.ldc 172, 2) := by decide +kernel
theorem dX3_ban_29 : decode cX3_ban 29 = .ok (.invokespecial 154, 3) := by decide +kernel
theorem dX3_ban_32 : decode cX3_ban 32 = .ok (.athrow, 1) := by decide +kernel
theorem dX3_ban_33 : decode cX3_ban 33 = .ok (.aload_n 0, 1) := by decide +kernel
theorem dX3_ban_34 : decode cX3_ban 34 = .ok (.getfield 40, 3) := by decide +kernel
theorem dX3_ban_37 : decode cX3_ban 37 = .ok (.iload_n 1, 1) := by decide +kernel
theorem dX3_ban_38 : decode cX3_ban 38 = .ok (.iload_n 2, 1) := by decide +kernel
theorem dX3_ban_39 : decode cX3_ban 39 = .ok (.iastore, 1) := by decide +kernel
theorem dX3_ban_40 : decode cX3_ban 40 = .ok (.aload_n 0, 1) := by decide +kernel
theorem dX3_ban_41 : decode cX3_ban 41 = .ok (.iload_n 1, 1) := by decide +kernel
theorem dX3_ban_42 : decode cX3_ban 42 = .ok (.invokevirtual 101, 3) := by decide +kernel
theorem dX3_ban_45 : decode cX3_ban 45 = .ok (.ifCond .eq 11, 3) := by decide +kernel
theorem dX3_ban_48 : decode cX3_ban 48 = .ok (.aload_n 0, 1) := by decide +kernel
theorem dX3_ban_49 : decode cX3_ban 49 = .ok (.iload_n 1, 1) := by decide +kernel
theorem dX3_ban_50 : decode cX3_ban 50 = .ok (.invokevirtual 174, 3) := by decide +kernel
theorem dX3_ban_53 : decode cX3_ban 53 = .ok (.goto 4, 3) := by decide +kernel
theorem dX3_ban_56 : decode cX3_ban 56 = .ok (.iconst 0, 1) := by decide +kernel
theorem dX3_ban_57 : decode cX3_ban 57 = .ok (.ireturn, 1) := by decide +kernel
theorem dX3_lift_0 : decode cX3_lift 0 = .ok (.iload_n 1, 1) := by decide +kernel
theorem dX3_lift_1 : decode cX3_lift 1 = .ok (.invokestatic 57, 3) := by decide +kernel
theorem dX3_lift_4 : decode cX3_lift 4 = .ok (.aload_n 0, 1) := by decide +kernel
theorem dX3_lift_5 : decode cX3_lift 5 = .ok (.getfield 40, 3) := by decide +kernel
theorem dX3_lift_8 : decode cX3_lift 8 = .ok (.iload_n 1, 1) := by decide +kernel
theorem dX3_lift_9 : decode cX3_lift 9 = .ok (.iaload, 1) := by decide +kernel
theorem dX3_lift_10 : decode cX3_lift 10 = .ok (.iconst (-1), 1) := by decide +kernel
theorem dX3_lift_11 : decode cX3_lift 11 = .ok (.if_icmp .eq 7, 3) := by decide +kernel
theorem dX3_lift_14 : decode cX3_lift 14 = .ok (.iconst 1, 1) := by decide +kernel
theorem dX3_lift_15 : decode cX3_lift 15 = .ok (.goto 4, 3) := by decide +kernel
theorem dX3_lift_18 : decode cX3_lift 18 = .ok (.iconst 0, 1) := by decide +kernel
theorem dX3_lift_19 : decode cX3_lift 19 = .ok (.istore_n 2, 1) := by decide +kernel
theorem dX3_lift_20 : decode cX3_lift 20 = .ok (.aload_n 0, 1) := by decide +kernel
theorem dX3_lift_21 : decode cX3_lift 21 = .ok (.getfield 40, 3) := by decide +kernel
theorem dX3_lift_24 : decode cX3_lift 24 = .ok (.iload_n 1, 1) := by decide +kernel
theorem dX3_lift_25 : decode cX3_lift 25 = .ok (.iconst (-1), 1) := by decide +kernel
theorem dX3_lift_26 : decode cX3_lift 26 = .ok (.iastore, 1) := by decide +kernel
theorem dX3_lift_27 : decode cX3_lift 27 = .ok (.iload_n 2, 1) := by decide +kernel
theorem dX3_lift_28 : decode cX3_lift 28 = .ok (.ireturn, 1) := by decide +kernel
theorem dX3_isBanned_0 : decode cX3_isBanned 0 = .ok (.iload_n 1, 1) := by decide +kernel
theorem dX3_isBanned_1 : decode cX3_isBanned 1 = .ok (.invokestatic 57, 3) := by decide +kernel
theorem dX3_isBanned_4 : decode cX3_isBanned 4 = .ok (.aload_n 0, 1) := by decide +kernel
theorem dX3_isBanned_5 : decode cX3_isBanned 5 = .ok (.iload_n 1, 1) := by decide +kernel
theorem dX3_isBanned_6 : decode cX3_isBanned 6 = .ok (.invokevirtual 101, 3) := by decide +kernel
theorem dX3_isBanned_9 : decode cX3_isBanned 9 = .ok (.ireturn, 1) := by decide +kernel
theorem dX3_pass_0 : decode cX3_pass 0 = .ok (.iload_n 1, 1) := by decide +kernel
theorem dX3_pass_1 : decode cX3_pass 1 = .ok (.iconst 1, 1) := by decide +kernel
theorem dX3_pass_2 : decode cX3_pass 2 = .ok (.if_icmp .lt 9, 3) := by decide +kernel
theorem dX3_pass_5 : decode cX3_pass 5 = .ok (.iload_n 1, 1) := by decide +kernel
theorem dX3_pass_6 : decode cX3_pass 6 = .ok (.bipush 100, 2) := by decide +kernel
theorem dX3_pass_8 : decode cX3_pass 8 = .ok (.if_icmp .le 13, 3) := by decide +kernel
theorem dX3_pass_11 : decode cX3_pass 11 = .ok (.new 150, 3) := by decide +kernel
theorem dX3_pass_14 : decode cX3_pass 14 = .ok (.dup, 1) := by decide +kernel
theorem dX3_pass_15 : decode cX3_pass 15 = .ok (.ldc 177, 2) := by decide +kernel
theorem dX3_pass_17 : decode cX3_pass 17 = .ok (.invokespecial 154, 3) := by decide +kernel
theorem dX3_pass_20 : decode cX3_pass 20 = .ok (.athrow, 1) := by decide +kernel
theorem dX3_pass_21 : decode cX3_pass 21 = .ok (.aload_n 0, 1) := by decide +kernel
theorem dX3_pass_22 : decode cX3_pass 22 = .ok (.dup, 1) := by decide +kernel
theorem dX3_pass_23 : decode cX3_pass 23 = .ok (.getfield 50, 3) := by decide +kernel
theorem dX3_pass_26 : decode cX3_pass 26 = .ok (.iload_n 1, 1) := by decide +kernel
theorem dX3_pass_27 : decode cX3_pass 27 = .ok (.iadd, 1) := by decide +kernel
theorem dX3_pass_28 : decode cX3_pass 28 = .ok (.putfield 50, 3) := by decide +kernel
theorem dX3_pass_31 : decode cX3_pass 31 = .ok (.aload_n 0, 1) := by decide +kernel
theorem dX3_pass_32 : decode cX3_pass 32 = .ok (.getfield 10, 3) := by decide +kernel
theorem dX3_pass_35 : decode cX3_pass 35 = .ok (.aload_n 0, 1) := by decide +kernel
theorem dX3_pass_36 : decode cX3_pass 36 = .ok (.getfield 50, 3) := by decide +kernel
theorem dX3_pass_39 : decode cX3_pass 39 = .ok (.invokevirtual 179, 3) := by decide +kernel
theorem dX3_pass_42 : decode cX3_pass 42 = .ok (.iconst 0, 1) := by decide +kernel
theorem dX3_pass_43 : decode cX3_pass 43 = .ok (.istore_n 2, 1) := by decide +kernel
theorem dX3_pass_44 : decode cX3_pass 44 = .ok (.iload_n 2, 1) := by decide +kernel
theorem dX3_pass_45 : decode cX3_pass 45 = .ok (.bipush 8, 2) := by decide +kernel
theorem dX3_pass_47 : decode cX3_pass 47 = .ok (.if_icmp .ge 23, 3) := by decide +kernel
theorem dX3_pass_50 : decode cX3_pass 50 = .ok (.aload_n 0, 1) := by decide +kernel
theorem dX3_pass_51 : decode cX3_pass 51 = .ok (.iload_n 2, 1) := by decide +kernel
theorem dX3_pass_52 : decode cX3_pass 52 = .ok (.invokevirtual 101, 3) := by decide +kernel
theorem dX3_pass_55 : decode cX3_pass 55 = .ok (.ifCond .eq 9, 3) := by decide +kernel
theorem dX3_pass_58 : decode cX3_pass 58 = .ok (.aload_n 0, 1) := by decide +kernel
theorem dX3_pass_59 : decode cX3_pass 59 = .ok (.iload_n 2, 1) := by decide +kernel
theorem dX3_pass_60 : decode cX3_pass 60 = .ok (.invokevirtual 174, 3) := by decide +kernel
theorem dX3_pass_63 : decode cX3_pass 63 = .ok (.pop, 1) := by decide +kernel
theorem dX3_pass_64 : decode cX3_pass 64 = .ok (.iinc 2 1, 3) := by decide +kernel
theorem dX3_pass_67 : decode cX3_pass 67 = .ok (.goto (-23), 3) := by decide +kernel
theorem dX3_pass_70 : decode cX3_pass 70 = .ok (.aload_n 0, 1) := by decide +kernel
theorem dX3_pass_71 : decode cX3_pass 71 = .ok (.getfield 50, 3) := by decide +kernel
theorem dX3_pass_74 : decode cX3_pass 74 = .ok (.ireturn, 1) := by decide +kernel
theorem dX3_toggleDeck_0 : decode cX3_toggleDeck 0 = .ok (.iload_n 1, 1) := by decide +kernel
theorem dX3_toggleDeck_1 : decode cX3_toggleDeck 1 = .ok (.invokestatic 53, 3) := by decide +kernel
theorem dX3_toggleDeck_4 : decode cX3_toggleDeck 4 = .ok (.aload_n 0, 1) := by decide +kernel
theorem dX3_toggleDeck_5 : decode cX3_toggleDeck 5 = .ok (.iload_n 2, 1) := by decide +kernel
theorem dX3_toggleDeck_6 : decode cX3_toggleDeck 6 = .ok (.invokevirtual 79, 3) := by decide +kernel
theorem dX3_toggleDeck_9 : decode cX3_toggleDeck 9 = .ok (.aload_n 0, 1) := by decide +kernel
theorem dX3_toggleDeck_10 : decode cX3_toggleDeck 10 = .ok (.getfield 43, 3) := by decide +kernel
theorem dX3_toggleDeck_13 : decode cX3_toggleDeck 13 = .ok (.iload_n 1, 1) := by decide +kernel
theorem dX3_toggleDeck_14 : decode cX3_toggleDeck 14 = .ok (.dup2, 1) := by decide +kernel
theorem dX3_toggleDeck_15 : decode cX3_toggleDeck 15 = .ok (.iaload, 1) := by decide +kernel
theorem dX3_toggleDeck_16 : decode cX3_toggleDeck 16 = .ok (.iconst 1, 1) := by decide +kernel
theorem dX3_toggleDeck_17 : decode cX3_toggleDeck 17 = .ok (.iload_n 2, 1) := by decide +kernel
theorem dX3_toggleDeck_18 : decode cX3_toggleDeck 18 = .ok (.ishl, 1) := by decide +kernel
theorem dX3_toggleDeck_19 : decode cX3_toggleDeck 19 = .ok (.ixor, 1) := by decide +kernel
theorem dX3_toggleDeck_20 : decode cX3_toggleDeck 20 = .ok (.iastore, 1) := by decide +kernel
theorem dX3_toggleDeck_21 : decode cX3_toggleDeck 21 = .ok (.aload_n 0, 1) := by decide +kernel
theorem dX3_toggleDeck_22 : decode cX3_toggleDeck 22 = .ok (.getfield 43, 3) := by decide +kernel
theorem dX3_toggleDeck_25 : decode cX3_toggleDeck 25 = .ok (.iload_n 1, 1) := by decide +kernel
theorem dX3_toggleDeck_26 : decode cX3_toggleDeck 26 = .ok (.iaload, 1) := by decide +kernel
theorem dX3_toggleDeck_27 : decode cX3_toggleDeck 27 = .ok (.invokestatic 182, 3) := by decide +kernel
theorem dX3_toggleDeck_30 : decode cX3_toggleDeck 30 = .ok (.ireturn, 1) := by decide +kernel
theorem dX3_isRight_0 : decode cX3_isRight 0 = .ok (.iload_n 1, 1) := by decide +kernel
theorem dX3_isRight_1 : decode cX3_isRight 1 = .ok (.invokestatic 53, 3) := by decide +kernel
theorem dX3_isRight_4 : decode cX3_isRight 4 = .ok (.aload_n 0, 1) := by decide +kernel
theorem dX3_isRight_5 : decode cX3_isRight 5 = .ok (.iload_n 1, 1) := by decide +kernel
theorem dX3_isRight_6 : decode cX3_isRight 6 = .ok (.invokevirtual 187, 3) := by decide +kernel
theorem dX3_isRight_9 : decode cX3_isRight 9 = .ok (.ireturn, 1) := by decide +kernel
theorem dX3_strength_0 : decode cX3_strength 0 = .ok (.iload_n 1, 1) := by decide +kernel
theorem dX3_strength_1 : decode cX3_strength 1 = .ok (.invokestatic 53, 3) := by decide +kernel
theorem dX3_strength_4 : decode cX3_strength 4 = .ok (.aload_n 0, 1) := by decide +kernel
theorem dX3_strength_5 : decode cX3_strength 5 = .ok (.iload_n 1, 1) := by decide +kernel
theorem dX3_strength_6 : decode cX3_strength 6 = .ok (.invokevirtual 190, 3) := by decide +kernel
theorem dX3_strength_9 : decode cX3_strength 9 = .ok (.ireturn, 1) := by decide +kernel
theorem dX3_play_0 : decode cX3_play 0 = .ok (.iload_n 1, 1) := by decide +kernel
theorem dX3_play_1 : decode cX3_play 1 = .ok (.invokestatic 53, 3) := by decide +kernel
theorem dX3_play_4 : decode cX3_play 4 = .ok (.iload_n 2, 1) := by decide +kernel
theorem dX3_play_5 : decode cX3_play 5 = .ok (.invokestatic 53, 3) := by decide +kernel
theorem dX3_play_8 : decode cX3_play 8 = .ok (.iload_n 1, 1) := by decide +kernel
theorem dX3_play_9 : decode cX3_play 9 = .ok (.iload_n 2, 1) := by decide +kernel
theorem dX3_play_10 : decode cX3_play 10 = .ok (.if_icmp .ne 13, 3) := by decide +kernel
theorem dX3_play_13 : decode cX3_play 13 = .ok (.new 150, 3) := by decide +kernel
theorem dX3_play_16 : decode cX3_play 16 = .ok (.dup, 1) := by decide +kernel
theorem dX3_play_17 : decode cX3_play 17 = .ok (.ldc 193, 2) := by decide +kernel
theorem dX3_play_19 : decode cX3_play 19 = .ok (.invokespecial 154, 3) := by decide +kernel
theorem dX3_play_22 : decode cX3_play 22 = .ok (.athrow, 1) := by decide +kernel
theorem dX3_play_23 : decode cX3_play 23 = .ok (.aload_n 0, 1) := by decide +kernel
theorem dX3_play_24 : decode cX3_play 24 = .ok (.iload_n 1, 1) := by decide +kernel
theorem dX3_play_25 : decode cX3_play 25 = .ok (.invokevirtual 187, 3) := by decide +kernel
theorem dX3_play_28 : decode cX3_play 28 = .ok (.ifCond .eq 11, 3) := by decide +kernel
theorem dX3_play_31 : decode cX3_play 31 = .ok (.aload_n 0, 1) := by decide +kernel
theorem dX3_play_32 : decode cX3_play 32 = .ok (.iload_n 2, 1) := by decide +kernel
theorem dX3_play_33 : decode cX3_play 33 = .ok (.invokevirtual 187, 3) := by decide +kernel
theorem dX3_play_36 : decode cX3_play 36 = .ok (.ifCond .ne 13, 3) := by decide +kernel
theorem dX3_play_39 : decode cX3_play 39 = .ok (.new 64, 3) := by decide +kernel
theorem dX3_play_42 : decode cX3_play 42 = .ok (.dup, 1) := by decide +kernel
theorem dX3_play_43 : decode cX3_play 43 = .ok (.ldc 195, 2) := by decide +kernel
theorem dX3_play_45 : decode cX3_play 45 = .ok (.invokespecial 68, 3) := by decide +kernel
theorem dX3_play_48 : decode cX3_play 48 = .ok (.athrow, 1) := by decide +kernel
theorem dX3_play_49 : decode cX3_play 49 = .ok (.aload_n 0, 1) := by decide +kernel
theorem dX3_play_50 : decode cX3_play 50 = .ok (.iload_n 2, 1) := by decide +kernel
theorem dX3_play_51 : decode cX3_play 51 = .ok (.invokevirtual 190, 3) := by decide +kernel
theorem dX3_play_54 : decode cX3_play 54 = .ok (.aload_n 0, 1) := by decide +kernel
theorem dX3_play_55 : decode cX3_play 55 = .ok (.iload_n 1, 1) := by decide +kernel
theorem dX3_play_56 : decode cX3_play 56 = .ok (.invokevirtual 190, 3) := by decide +kernel
theorem dX3_play_59 : decode cX3_play 59 = .ok (.if_icmp .le 7, 3) := by decide +kernel
theorem dX3_play_62 : decode cX3_play 62 = .ok (.iload_n 2, 1) := by decide +kernel
theorem dX3_play_63 : decode cX3_play 63 = .ok (.goto 4, 3) := by decide +kernel
theorem dX3_play_66 : decode cX3_play 66 = .ok (.iload_n 1, 1) := by decide +kernel
theorem dX3_play_67 : decode cX3_play 67 = .ok (.istore_n 3, 1) := by decide +kernel
theorem dX3_play_68 : decode cX3_play 68 = .ok (.aload_n 0, 1) := by decide +kernel
theorem dX3_play_69 : decode cX3_play 69 = .ok (.getfield 30, 3) := by decide +kernel
theorem dX3_play_72 : decode cX3_play 72 = .ok (.iload_n 3, 1) := by decide +kernel
theorem dX3_play_73 : decode cX3_play 73 = .ok (.dup2, 1) := by decide +kernel
theorem dX3_play_74 : decode cX3_play 74 = .ok (.iaload, 1) := by decide +kernel
theorem dX3_play_75 : decode cX3_play 75 = .ok (.iconst 5, 1) := by decide +kernel
theorem dX3_play_76 : decode cX3_play 76 = .ok (.iadd, 1) := by decide +kernel
theorem dX3_play_77 : decode cX3_play 77 = .ok (.iastore, 1) := by decide +kernel
theorem dX3_play_78 : decode cX3_play 78 = .ok (.iload_n 3, 1) := by decide +kernel
theorem dX3_play_79 : decode cX3_play 79 = .ok (.ireturn, 1) := by decide +kernel
theorem dX3_needPlayer_0 : decode cX3_needPlayer 0 = .ok (.iload_n 0, 1) := by decide +kernel
theorem dX3_needPlayer_1 : decode cX3_needPlayer 1 = .ok (.ifCond .lt 8, 3) := by decide +kernel
theorem dX3_needPlayer_4 : decode cX3_needPlayer 4 = .ok (.iload_n 0, 1) := by decide +kernel
theorem dX3_needPlayer_5 : decode cX3_needPlayer 5 = .ok (.iconst 5, 1) := by decide +kernel
theorem dX3_needPlayer_6 : decode cX3_needPlayer 6 = .ok (.if_icmp .lt 13, 3) := by decide +kernel
theorem dX3_needPlayer_9 : decode cX3_needPlayer 9 = .ok (.new 197, 3) := by decide +kernel
theorem dX3_needPlayer_12 : decode cX3_needPlayer 12 = .ok (.dup, 1) := by decide +kernel
theorem dX3_needPlayer_13 : decode cX3_needPlayer 13 = .ok (.ldc 199, 2) := by decide +kernel
theorem dX3_needPlayer_15 : decode cX3_needPlayer 15 = .ok (.invokespecial 201, 3) := by decide +kernel
theorem dX3_needPlayer_18 : decode cX3_needPlayer 18 = .ok (.athrow, 1) := by decide +kernel
theorem dX3_needPlayer_19 : decode cX3_needPlayer 19 = .ok (.return_, 1) := by decide +kernel
theorem dX3_needKind_0 : decode cX3_needKind 0 = .ok (.iload_n 0, 1) := by decide +kernel
theorem dX3_needKind_1 : decode cX3_needKind 1 = .ok (.ifCond .lt 9, 3) := by decide +kernel
theorem dX3_needKind_4 : decode cX3_needKind 4 = .ok (.iload_n 0, 1) := by decide +kernel
theorem dX3_needKind_5 : decode cX3_needKind 5 = .ok (.bipush 8, 2) := by decide +kernel
theorem dX3_needKind_7 : decode cX3_needKind 7 = .ok (.if_icmp .lt 13, 3) := by decide +kernel
theorem dX3_needKind_10 : decode cX3_needKind 10 = .ok (.new 197, 3) := by decide +kernel
theorem dX3_needKind_13 : decode cX3_needKind 13 = .ok (.dup, 1) := by decide +kernel
theorem dX3_needKind_14 : decode cX3_needKind 14 = .ok (.ldc 202, 2) := by decide +kernel
theorem dX3_needKind_16 : decode cX3_needKind 16 = .ok (.invokespecial 201, 3) := by decide +kernel
theorem dX3_needKind_19 : decode cX3_needKind 19 = .ok (.athrow, 1) := by decide +kernel
theorem dX3_needKind_20 : decode cX3_needKind 20 = .ok (.return_, 1) := by decide +kernel
theorem dX3_needCard_0 : decode cX3_needCard 0 = .ok (.aload_n 0, 1) := by decide +kernel
theorem dX3_needCard_1 : decode cX3_needCard 1 = .ok (.getfield 10, 3) := by decide +kernel
theorem dX3_needCard_4 : decode cX3_needCard 4 = .ok (.iload_n 1, 1) := by decide +kernel
theorem dX3_needCard_5 : decode cX3_needCard 5 = .ok (.invokevirtual 204, 3) := by decide +kernel
theorem dX3_needCard_8 : decode cX3_needCard 8 = .ok (.ifCond .ne 13, 3) := by decide +kernel
theorem dX3_needCard_11 : decode cX3_needCard 11 = .ok (.new 197, 3) := by decide +kernel
theorem dX3_needCard_14 : decode cX3_needCard 14 = .ok (.dup, 1) := by decide +kernel
theorem dX3_needCard_15 : decode cX3_needCard 15 = .ok (.ldc 206, 2) := by decide +kernel
theorem dX3_needCard_17 : decode cX3_needCard 17 = .ok (.invokespecial 201, 3) := by decide +kernel
theorem dX3_needCard_20 : decode cX3_needCard 20 = .ok (.athrow, 1) := by decide +kernel
theorem dX3_needCard_21 : decode cX3_needCard 21 = .ok (.return_, 1) := by decide +kernel
theorem dX3_needPrice_0 : decode cX3_needPrice 0 = .ok (.iload_n 0, 1) := by decide +kernel
theorem dX3_needPrice_1 : decode cX3_needPrice 1 = .ok (.iconst 1, 1) := by decide +kernel
theorem dX3_needPrice_2 : decode cX3_needPrice 2 = .ok (.if_icmp .lt 10, 3) := by decide +kernel
theorem dX3_needPrice_5 : decode cX3_needPrice 5 = .ok (.iload_n 0, 1) := by decide +kernel
theorem dX3_needPrice_6 : decode cX3_needPrice 6 = .ok (.sipush 1000, 3) := by decide +kernel
theorem dX3_needPrice_9 : decode cX3_needPrice 9 = .ok (.if_icmp .le 13, 3) := by decide +kernel
theorem dX3_needPrice_12 : decode cX3_needPrice 12 = .ok (.new 150, 3) := by decide +kernel
theorem dX3_needPrice_15 : decode cX3_needPrice 15 = .ok (.dup, 1) := by decide +kernel
theorem dX3_needPrice_16 : decode cX3_needPrice 16 = .ok (.ldc 208, 2) := by decide +kernel
theorem dX3_needPrice_18 : decode cX3_needPrice 18 = .ok (.invokespecial 154, 3) := by decide +kernel
theorem dX3_needPrice_21 : decode cX3_needPrice 21 = .ok (.athrow, 1) := by decide +kernel
theorem dX3_needPrice_22 : decode cX3_needPrice 22 = .ok (.return_, 1) := by decide +kernel
theorem dX3_bannedToday_0 : decode cX3_bannedToday 0 = .ok (.aload_n 0, 1) := by decide +kernel
theorem dX3_bannedToday_1 : decode cX3_bannedToday 1 = .ok (.getfield 40, 3) := by decide +kernel
theorem dX3_bannedToday_4 : decode cX3_bannedToday 4 = .ok (.iload_n 1, 1) := by decide +kernel
theorem dX3_bannedToday_5 : decode cX3_bannedToday 5 = .ok (.iaload, 1) := by decide +kernel
theorem dX3_bannedToday_6 : decode cX3_bannedToday 6 = .ok (.iconst (-1), 1) := by decide +kernel
theorem dX3_bannedToday_7 : decode cX3_bannedToday 7 = .ok (.if_icmp .eq 20, 3) := by decide +kernel
theorem dX3_bannedToday_10 : decode cX3_bannedToday 10 = .ok (.aload_n 0, 1) := by decide +kernel
theorem dX3_bannedToday_11 : decode cX3_bannedToday 11 = .ok (.getfield 40, 3) := by decide +kernel
theorem dX3_bannedToday_14 : decode cX3_bannedToday 14 = .ok (.iload_n 1, 1) := by decide +kernel
theorem dX3_bannedToday_15 : decode cX3_bannedToday 15 = .ok (.iaload, 1) := by decide +kernel
theorem dX3_bannedToday_16 : decode cX3_bannedToday 16 = .ok (.aload_n 0, 1) := by decide +kernel
theorem dX3_bannedToday_17 : decode cX3_bannedToday 17 = .ok (.getfield 50, 3) := by decide +kernel
theorem dX3_bannedToday_20 : decode cX3_bannedToday 20 = .ok (.if_icmp .gt 7, 3) := by decide +kernel
theorem dX3_bannedToday_23 : decode cX3_bannedToday 23 = .ok (.iconst 1, 1) := by decide +kernel
theorem dX3_bannedToday_24 : decode cX3_bannedToday 24 = .ok (.goto 4, 3) := by decide +kernel
theorem dX3_bannedToday_27 : decode cX3_bannedToday 27 = .ok (.iconst 0, 1) := by decide +kernel
theorem dX3_bannedToday_28 : decode cX3_bannedToday 28 = .ok (.ireturn, 1) := by decide +kernel
theorem dX3_giveTo_0 : decode cX3_giveTo 0 = .ok (.aload_n 0, 1) := by decide +kernel
theorem dX3_giveTo_1 : decode cX3_giveTo 1 = .ok (.getfield 10, 3) := by decide +kernel
theorem dX3_giveTo_4 : decode cX3_giveTo 4 = .ok (.getfield 82, 3) := by decide +kernel
theorem dX3_giveTo_7 : decode cX3_giveTo 7 = .ok (.iload_n 1, 1) := by decide +kernel
theorem dX3_giveTo_8 : decode cX3_giveTo 8 = .ok (.iload_n 2, 1) := by decide +kernel
theorem dX3_giveTo_9 : decode cX3_giveTo 9 = .ok (.iastore, 1) := by decide +kernel
theorem dX3_giveTo_10 : decode cX3_giveTo 10 = .ok (.aload_n 0, 1) := by decide +kernel
theorem dX3_giveTo_11 : decode cX3_giveTo 11 = .ok (.getfield 10, 3) := by decide +kernel
theorem dX3_giveTo_14 : decode cX3_giveTo 14 = .ok (.getfield 92, 3) := by decide +kernel
theorem dX3_giveTo_17 : decode cX3_giveTo 17 = .ok (.iload_n 1, 1) := by decide +kernel
theorem dX3_giveTo_18 : decode cX3_giveTo 18 = .ok (.iconst 0, 1) := by decide +kernel
theorem dX3_giveTo_19 : decode cX3_giveTo 19 = .ok (.iastore, 1) := by decide +kernel
theorem dX3_giveTo_20 : decode cX3_giveTo 20 = .ok (.aload_n 0, 1) := by decide +kernel
theorem dX3_giveTo_21 : decode cX3_giveTo 21 = .ok (.getfield 26, 3) := by decide +kernel
theorem dX3_giveTo_24 : decode cX3_giveTo 24 = .ok (.iload_n 1, 1) := by decide +kernel
theorem dX3_giveTo_25 : decode cX3_giveTo 25 = .ok (.iload_n 2, 1) := by decide +kernel
theorem dX3_giveTo_26 : decode cX3_giveTo 26 = .ok (.invokevirtual 75, 3) := by decide +kernel
theorem dX3_giveTo_29 : decode cX3_giveTo 29 = .ok (.return_, 1) := by decide +kernel
theorem dX3_giveBidBack_0 : decode cX3_giveBidBack 0 = .ok (.aload_n 0, 1) := by decide +kernel
theorem dX3_giveBidBack_1 : decode cX3_giveBidBack 1 = .ok (.getfield 19, 3) := by decide +kernel
theorem dX3_giveBidBack_4 : decode cX3_giveBidBack 4 = .ok (.iload_n 1, 1) := by decide +kernel
theorem dX3_giveBidBack_5 : decode cX3_giveBidBack 5 = .ok (.iload_n 2, 1) := by decide +kernel
theorem dX3_giveBidBack_6 : decode cX3_giveBidBack 6 = .ok (.invokevirtual 118, 3) := by decide +kernel
theorem dX3_giveBidBack_9 : decode cX3_giveBidBack 9 = .ok (.istore_n 3, 1) := by decide +kernel
theorem dX3_giveBidBack_10 : decode cX3_giveBidBack 10 = .ok (.aload_n 0, 1) := by decide +kernel
theorem dX3_giveBidBack_11 : decode cX3_giveBidBack 11 = .ok (.getfield 30, 3) := by decide +kernel
theorem dX3_giveBidBack_14 : decode cX3_giveBidBack 14 = .ok (.iload_n 1, 1) := by decide +kernel
theorem dX3_giveBidBack_15 : decode cX3_giveBidBack 15 = .ok (.dup2, 1) := by decide +kernel
theorem dX3_giveBidBack_16 : decode cX3_giveBidBack 16 = .ok (.iaload, 1) := by decide +kernel
theorem dX3_giveBidBack_17 : decode cX3_giveBidBack 17 = .ok (.iload_n 3, 1) := by decide +kernel
theorem dX3_giveBidBack_18 : decode cX3_giveBidBack 18 = .ok (.iadd, 1) := by decide +kernel
theorem dX3_giveBidBack_19 : decode cX3_giveBidBack 19 = .ok (.iastore, 1) := by decide +kernel
theorem dX3_giveBidBack_20 : decode cX3_giveBidBack 20 = .ok (.iload_n 3, 1) := by decide +kernel
theorem dX3_giveBidBack_21 : decode cX3_giveBidBack 21 = .ok (.ireturn, 1) := by decide +kernel
theorem dX3_clearMarket_0 : decode cX3_clearMarket 0 = .ok (.aload_n 0, 1) := by decide +kernel
theorem dX3_clearMarket_1 : decode cX3_clearMarket 1 = .ok (.getfield 10, 3) := by decide +kernel
theorem dX3_clearMarket_4 : decode cX3_clearMarket 4 = .ok (.iload_n 1, 1) := by decide +kernel
theorem dX3_clearMarket_5 : decode cX3_clearMarket 5 = .ok (.invokevirtual 210, 3) := by decide +kernel
theorem dX3_clearMarket_8 : decode cX3_clearMarket 8 = .ok (.istore_n 2, 1) := by decide +kernel
theorem dX3_clearMarket_9 : decode cX3_clearMarket 9 = .ok (.iconst 0, 1) := by decide +kernel
theorem dX3_clearMarket_10 : decode cX3_clearMarket 10 = .ok (.istore_n 3, 1) := by decide +kernel
theorem dX3_clearMarket_11 : decode cX3_clearMarket 11 = .ok (.iload_n 3, 1) := by decide +kernel
theorem dX3_clearMarket_12 : decode cX3_clearMarket 12 = .ok (.iconst 5, 1) := by decide +kernel
theorem dX3_clearMarket_13 : decode cX3_clearMarket 13 = .ok (.if_icmp .ge 31, 3) := by decide +kernel
theorem dX3_clearMarket_16 : decode cX3_clearMarket 16 = .ok (.aload_n 0, 1) := by decide +kernel
theorem dX3_clearMarket_17 : decode cX3_clearMarket 17 = .ok (.getfield 19, 3) := by decide +kernel
theorem dX3_clearMarket_20 : decode cX3_clearMarket 20 = .ok (.iload_n 3, 1) := by decide +kernel
theorem dX3_clearMarket_21 : decode cX3_clearMarket 21 = .ok (.iload_n 1, 1) := by decide +kernel
theorem dX3_clearMarket_22 : decode cX3_clearMarket 22 = .ok (.invokevirtual 124, 3) := by decide +kernel
theorem dX3_clearMarket_25 : decode cX3_clearMarket 25 = .ok (.ifCond .eq 13, 3) := by decide +kernel
theorem dX3_clearMarket_28 : decode cX3_clearMarket 28 = .ok (.aload_n 0, 1) := by decide +kernel
theorem dX3_clearMarket_29 : decode cX3_clearMarket 29 = .ok (.iload_n 3, 1) := by decide +kernel
theorem dX3_clearMarket_30 : decode cX3_clearMarket 30 = .ok (.iload_n 1, 1) := by decide +kernel
theorem dX3_clearMarket_31 : decode cX3_clearMarket 31 = .ok (.invokevirtual 147, 3) := by decide +kernel
theorem dX3_clearMarket_34 : decode cX3_clearMarket 34 = .ok (.pop, 1) := by decide +kernel
theorem dX3_clearMarket_35 : decode cX3_clearMarket 35 = .ok (.iinc 2 1, 3) := by decide +kernel
theorem dX3_clearMarket_38 : decode cX3_clearMarket 38 = .ok (.iinc 3 1, 3) := by decide +kernel
theorem dX3_clearMarket_41 : decode cX3_clearMarket 41 = .ok (.goto (-30), 3) := by decide +kernel
theorem dX3_clearMarket_44 : decode cX3_clearMarket 44 = .ok (.iload_n 2, 1) := by decide +kernel
theorem dX3_clearMarket_45 : decode cX3_clearMarket 45 = .ok (.ireturn, 1) := by decide +kernel
theorem dX3_inDeck_0 : decode cX3_inDeck 0 = .ok (.aload_n 0, 1) := by decide +kernel
theorem dX3_inDeck_1 : decode cX3_inDeck 1 = .ok (.getfield 43, 3) := by decide +kernel
theorem dX3_inDeck_4 : decode cX3_inDeck 4 = .ok (.iload_n 1, 1) := by decide +kernel
theorem dX3_inDeck_5 : decode cX3_inDeck 5 = .ok (.iaload, 1) := by decide +kernel
theorem dX3_inDeck_6 : decode cX3_inDeck 6 = .ok (.iconst 1, 1) := by decide +kernel
theorem dX3_inDeck_7 : decode cX3_inDeck 7 = .ok (.iload_n 2, 1) := by decide +kernel
theorem dX3_inDeck_8 : decode cX3_inDeck 8 = .ok (.ishl, 1) := by decide +kernel
theorem dX3_inDeck_9 : decode cX3_inDeck 9 = .ok (.iand, 1) := by decide +kernel
theorem dX3_inDeck_10 : decode cX3_inDeck 10 = .ok (.ifCond .eq 7, 3) := by decide +kernel
theorem dX3_inDeck_13 : decode cX3_inDeck 13 = .ok (.iconst 1, 1) := by decide +kernel
theorem dX3_inDeck_14 : decode cX3_inDeck 14 = .ok (.goto 4, 3) := by decide +kernel
theorem dX3_inDeck_17 : decode cX3_inDeck 17 = .ok (.iconst 0, 1) := by decide +kernel
theorem dX3_inDeck_18 : decode cX3_inDeck 18 = .ok (.ireturn, 1) := by decide +kernel
theorem dX3_deckIsRight_0 : decode cX3_deckIsRight 0 = .ok (.aload_n 0, 1) := by decide +kernel
theorem dX3_deckIsRight_1 : decode cX3_deckIsRight 1 = .ok (.getfield 43, 3) := by decide +kernel
theorem dX3_deckIsRight_4 : decode cX3_deckIsRight 4 = .ok (.iload_n 1, 1) := by decide +kernel
theorem dX3_deckIsRight_5 : decode cX3_deckIsRight 5 = .ok (.iaload, 1) := by decide +kernel
theorem dX3_deckIsRight_6 : decode cX3_deckIsRight 6 = .ok (.invokestatic 182, 3) := by decide +kernel
theorem dX3_deckIsRight_9 : decode cX3_deckIsRight 9 = .ok (.istore_n 2, 1) := by decide +kernel
theorem dX3_deckIsRight_10 : decode cX3_deckIsRight 10 = .ok (.iload_n 2, 1) := by decide +kernel
theorem dX3_deckIsRight_11 : decode cX3_deckIsRight 11 = .ok (.iconst 1, 1) := by decide +kernel
theorem dX3_deckIsRight_12 : decode cX3_deckIsRight 12 = .ok (.if_icmp .lt 8, 3) := by decide +kernel
theorem dX3_deckIsRight_15 : decode cX3_deckIsRight 15 = .ok (.iload_n 2, 1) := by decide +kernel
theorem dX3_deckIsRight_16 : decode cX3_deckIsRight 16 = .ok (.iconst 5, 1) := by decide +kernel
theorem dX3_deckIsRight_17 : decode cX3_deckIsRight 17 = .ok (.if_icmp .le 5, 3) := by decide +kernel
theorem dX3_deckIsRight_20 : decode cX3_deckIsRight 20 = .ok (.iconst 0, 1) := by decide +kernel
theorem dX3_deckIsRight_21 : decode cX3_deckIsRight 21 = .ok (.ireturn, 1) := by decide +kernel
theorem dX3_deckIsRight_22 : decode cX3_deckIsRight 22 = .ok (.iconst 0, 1) := by decide +kernel
theorem dX3_deckIsRight_23 : decode cX3_deckIsRight 23 = .ok (.istore_n 3, 1) := by decide +kernel
theorem dX3_deckIsRight_24 : decode cX3_deckIsRight 24 = .ok (.iload_n 3, 1) := by decide +kernel
theorem dX3_deckIsRight_25 : decode cX3_deckIsRight 25 = .ok (.aload_n 0, 1) := by decide +kernel
theorem dX3_deckIsRight_26 : decode cX3_deckIsRight 26 = .ok (.getfield 10, 3) := by decide +kernel
theorem dX3_deckIsRight_29 : decode cX3_deckIsRight 29 = .ok (.getfield 213, 3) := by decide +kernel
theorem dX3_deckIsRight_32 : decode cX3_deckIsRight 32 = .ok (.if_icmp .ge 29, 3) := by decide +kernel
theorem dX3_deckIsRight_35 : decode cX3_deckIsRight 35 = .ok (.aload_n 0, 1) := by decide +kernel
theorem dX3_deckIsRight_36 : decode cX3_deckIsRight 36 = .ok (.iload_n 1, 1) := by decide +kernel
theorem dX3_deckIsRight_37 : decode cX3_deckIsRight 37 = .ok (.iload_n 3, 1) := by decide +kernel
theorem dX3_deckIsRight_38 : decode cX3_deckIsRight 38 = .ok (.invokevirtual 216, 3) := by decide +kernel
theorem dX3_deckIsRight_41 : decode cX3_deckIsRight 41 = .ok (.ifCond .eq 14, 3) := by decide +kernel
theorem dX3_deckIsRight_44 : decode cX3_deckIsRight 44 = .ok (.aload_n 0, 1) := by decide +kernel
theorem dX3_deckIsRight_45 : decode cX3_deckIsRight 45 = .ok (.iload_n 1, 1) := by decide +kernel
theorem dX3_deckIsRight_46 : decode cX3_deckIsRight 46 = .ok (.iload_n 3, 1) := by decide +kernel
theorem dX3_deckIsRight_47 : decode cX3_deckIsRight 47 = .ok (.invokevirtual 219, 3) := by decide +kernel
theorem dX3_deckIsRight_50 : decode cX3_deckIsRight 50 = .ok (.ifCond .ne 5, 3) := by decide +kernel
theorem dX3_deckIsRight_53 : decode cX3_deckIsRight 53 = .ok (.iconst 0, 1) := by decide +kernel
theorem dX3_deckIsRight_54 : decode cX3_deckIsRight 54 = .ok (.ireturn, 1) := by decide +kernel
theorem dX3_deckIsRight_55 : decode cX3_deckIsRight 55 = .ok (.iinc 3 1, 3) := by decide +kernel
theorem dX3_deckIsRight_58 : decode cX3_deckIsRight 58 = .ok (.goto (-34), 3) := by decide +kernel
theorem dX3_deckIsRight_61 : decode cX3_deckIsRight 61 = .ok (.iconst 1, 1) := by decide +kernel
theorem dX3_deckIsRight_62 : decode cX3_deckIsRight 62 = .ok (.ireturn, 1) := by decide +kernel
theorem dX3_isPlayable_0 : decode cX3_isPlayable 0 = .ok (.aload_n 0, 1) := by decide +kernel
theorem dX3_isPlayable_1 : decode cX3_isPlayable 1 = .ok (.getfield 10, 3) := by decide +kernel
theorem dX3_isPlayable_4 : decode cX3_isPlayable 4 = .ok (.getfield 92, 3) := by decide +kernel
theorem dX3_isPlayable_7 : decode cX3_isPlayable 7 = .ok (.iload_n 2, 1) := by decide +kernel
theorem dX3_isPlayable_8 : decode cX3_isPlayable 8 = .ok (.iaload, 1) := by decide +kernel
theorem dX3_isPlayable_9 : decode cX3_isPlayable 9 = .ok (.istore_n 3, 1) := by decide +kernel
theorem dX3_isPlayable_10 : decode cX3_isPlayable 10 = .ok (.aload_n 0, 1) := by decide +kernel
theorem dX3_isPlayable_11 : decode cX3_isPlayable 11 = .ok (.getfield 10, 3) := by decide +kernel
theorem dX3_isPlayable_14 : decode cX3_isPlayable 14 = .ok (.iload_n 2, 1) := by decide +kernel
theorem dX3_isPlayable_15 : decode cX3_isPlayable 15 = .ok (.invokevirtual 89, 3) := by decide +kernel
theorem dX3_isPlayable_18 : decode cX3_isPlayable 18 = .ok (.iload_n 1, 1) := by decide +kernel
theorem dX3_isPlayable_19 : decode cX3_isPlayable 19 = .ok (.if_icmp .ne 33, 3) := by decide +kernel
theorem dX3_isPlayable_22 : decode cX3_isPlayable 22 = .ok (.iload_n 3, 1) := by decide +kernel
theorem dX3_isPlayable_23 : decode cX3_isPlayable 23 = .ok (.iconst 1, 1) := by decide +kernel
theorem dX3_isPlayable_24 : decode cX3_isPlayable 24 = .ok (.if_icmp .eq 28, 3) := by decide +kernel
theorem dX3_isPlayable_27 : decode cX3_isPlayable 27 = .ok (.iload_n 3, 1) := by decide +kernel
theorem dX3_isPlayable_28 : decode cX3_isPlayable 28 = .ok (.iconst 2, 1) := by decide +kernel
theorem dX3_isPlayable_29 : decode cX3_isPlayable 29 = .ok (.if_icmp .eq 23, 3) := by decide +kernel
theorem dX3_isPlayable_32 : decode cX3_isPlayable 32 = .ok (.aload_n 0, 1) := by decide +kernel
theorem dX3_isPlayable_33 : decode cX3_isPlayable 33 = .ok (.aload_n 0, 1) := by decide +kernel
theorem dX3_isPlayable_34 : decode cX3_isPlayable 34 = .ok (.getfield 10, 3) := by decide +kernel
theorem dX3_isPlayable_37 : decode cX3_isPlayable 37 = .ok (.getfield 98, 3) := by decide +kernel
theorem dX3_isPlayable_40 : decode cX3_isPlayable 40 = .ok (.iload_n 2, 1) := by decide +kernel
theorem dX3_isPlayable_41 : decode cX3_isPlayable 41 = .ok (.iaload, 1) := by decide +kernel
theorem dX3_isPlayable_42 : decode cX3_isPlayable 42 = .ok (.invokevirtual 101, 3) := by decide +kernel
theorem dX3_isPlayable_45 : decode cX3_isPlayable 45 = .ok (.ifCond .ne 7, 3) := by decide +kernel
theorem dX3_isPlayable_48 : decode cX3_isPlayable 48 = .ok (.iconst 1, 1) := by decide +kernel
theorem dX3_isPlayable_49 : decode cX3_isPlayable 49 = .ok (.goto 4, 3) := by decide +kernel
theorem dX3_isPlayable_52 : decode cX3_isPlayable 52 = .ok (.iconst 0, 1) := by decide +kernel
theorem dX3_isPlayable_53 : decode cX3_isPlayable 53 = .ok (.ireturn, 1) := by decide +kernel
theorem dX3_deckStrength_0 : decode cX3_deckStrength 0 = .ok (.iconst 0, 1) := by decide +kernel
theorem dX3_deckStrength_1 : decode cX3_deckStrength 1 = .ok (.istore_n 2, 1) := by decide +kernel
theorem dX3_deckStrength_2 : decode cX3_deckStrength 2 = .ok (.iconst 0, 1) := by decide +kernel
theorem dX3_deckStrength_3 : decode cX3_deckStrength 3 = .ok (.istore_n 3, 1) := by decide +kernel
theorem dX3_deckStrength_4 : decode cX3_deckStrength 4 = .ok (.iload_n 3, 1) := by decide +kernel
theorem dX3_deckStrength_5 : decode cX3_deckStrength 5 = .ok (.aload_n 0, 1) := by decide +kernel
theorem dX3_deckStrength_6 : decode cX3_deckStrength 6 = .ok (.getfield 10, 3) := by decide +kernel
theorem dX3_deckStrength_9 : decode cX3_deckStrength 9 = .ok (.getfield 213, 3) := by decide +kernel
theorem dX3_deckStrength_12 : decode cX3_deckStrength 12 = .ok (.if_icmp .ge 32, 3) := by decide +kernel
theorem dX3_deckStrength_15 : decode cX3_deckStrength 15 = .ok (.aload_n 0, 1) := by decide +kernel
theorem dX3_deckStrength_16 : decode cX3_deckStrength 16 = .ok (.iload_n 1, 1) := by decide +kernel
theorem dX3_deckStrength_17 : decode cX3_deckStrength 17 = .ok (.iload_n 3, 1) := by decide +kernel
theorem dX3_deckStrength_18 : decode cX3_deckStrength 18 = .ok (.invokevirtual 216, 3) := by decide +kernel
theorem dX3_deckStrength_21 : decode cX3_deckStrength 21 = .ok (.ifCond .eq 17, 3) := by decide +kernel
theorem dX3_deckStrength_24 : decode cX3_deckStrength 24 = .ok (.iload_n 2, 1) := by decide +kernel
theorem dX3_deckStrength_25 : decode cX3_deckStrength 25 = .ok (.aload_n 0, 1) := by decide +kernel
theorem dX3_deckStrength_26 : decode cX3_deckStrength 26 = .ok (.getfield 10, 3) := by decide +kernel
theorem dX3_deckStrength_29 : decode cX3_deckStrength 29 = .ok (.getfield 98, 3) := by decide +kernel
theorem dX3_deckStrength_32 : decode cX3_deckStrength 32 = .ok (.iload_n 3, 1) := by decide +kernel
theorem dX3_deckStrength_33 : decode cX3_deckStrength 33 = .ok (.iaload, 1) := by decide +kernel
theorem dX3_deckStrength_34 : decode cX3_deckStrength 34 = .ok (.iconst 1, 1) := by decide +kernel
theorem dX3_deckStrength_35 : decode cX3_deckStrength 35 = .ok (.iadd, 1) := by decide +kernel
theorem dX3_deckStrength_36 : decode cX3_deckStrength 36 = .ok (.iadd, 1) := by decide +kernel
theorem dX3_deckStrength_37 : decode cX3_deckStrength 37 = .ok (.istore_n 2, 1) := by decide +kernel
theorem dX3_deckStrength_38 : decode cX3_deckStrength 38 = .ok (.iinc 3 1, 3) := by decide +kernel
theorem dX3_deckStrength_41 : decode cX3_deckStrength 41 = .ok (.goto (-37), 3) := by decide +kernel
theorem dX3_deckStrength_44 : decode cX3_deckStrength 44 = .ok (.iload_n 2, 1) := by decide +kernel
theorem dX3_deckStrength_45 : decode cX3_deckStrength 45 = .ok (.ireturn, 1) := by decide +kernel
theorem dX4_init_0 : decode cX4_init 0 = .ok (.aload_n 0, 1) := by decide +kernel
theorem dX4_init_1 : decode cX4_init 1 = .ok (.invokespecial 1, 3) := by decide +kernel
theorem dX4_init_4 : decode cX4_init 4 = .ok (.aload_n 0, 1) := by decide +kernel
theorem dX4_init_5 : decode cX4_init 5 = .ok (.iconst 5, 1) := by decide +kernel
theorem dX4_init_6 : decode cX4_init 6 = .ok (.newarray .int, 2) := by decide +kernel
theorem dX4_init_8 : decode cX4_init 8 = .ok (.putfield 7, 3) := by decide +kernel
theorem dX4_init_11 : decode cX4_init 11 = .ok (.aload_n 0, 1) := by decide +kernel
theorem dX4_init_12 : decode cX4_init 12 = .ok (.bipush 30, 2) := by decide +kernel
theorem dX4_init_14 : decode cX4_init 14 = .ok (.newarray .int, 2) := by decide +kernel
theorem dX4_init_16 : decode cX4_init 16 = .ok (.putfield 13, 3) := by decide +kernel
theorem dX4_init_19 : decode cX4_init 19 = .ok (.aload_n 0, 1) := by decide +kernel
theorem dX4_init_20 : decode cX4_init 20 = .ok (.bipush 30, 2) := by decide +kernel
theorem dX4_init_22 : decode cX4_init 22 = .ok (.newarray .int, 2) := by decide +kernel
theorem dX4_init_24 : decode cX4_init 24 = .ok (.putfield 16, 3) := by decide +kernel
theorem dX4_init_27 : decode cX4_init 27 = .ok (.aload_n 0, 1) := by decide +kernel
theorem dX4_init_28 : decode cX4_init 28 = .ok (.bipush 30, 2) := by decide +kernel
theorem dX4_init_30 : decode cX4_init 30 = .ok (.newarray .int, 2) := by decide +kernel
theorem dX4_init_32 : decode cX4_init 32 = .ok (.putfield 19, 3) := by decide +kernel
theorem dX4_init_35 : decode cX4_init 35 = .ok (.aload_n 0, 1) := by decide +kernel
theorem dX4_init_36 : decode cX4_init 36 = .ok (.bipush 30, 2) := by decide +kernel
theorem dX4_init_38 : decode cX4_init 38 = .ok (.newarray .int, 2) := by decide +kernel
theorem dX4_init_40 : decode cX4_init 40 = .ok (.putfield 22, 3) := by decide +kernel
theorem dX4_init_43 : decode cX4_init 43 = .ok (.aload_n 0, 1) := by decide +kernel
theorem dX4_init_44 : decode cX4_init 44 = .ok (.bipush 30, 2) := by decide +kernel
theorem dX4_init_46 : decode cX4_init 46 = .ok (.newarray .int, 2) := by decide +kernel
theorem dX4_init_48 : decode cX4_init 48 = .ok (.putfield 25, 3) := by decide +kernel
theorem dX4_init_51 : decode cX4_init 51 = .ok (.aload_n 0, 1) := by decide +kernel
theorem dX4_init_52 : decode cX4_init 52 = .ok (.bipush 30, 2) := by decide +kernel
theorem dX4_init_54 : decode cX4_init 54 = .ok (.newarray .int, 2) := by decide +kernel
theorem dX4_init_56 : decode cX4_init 56 = .ok (.putfield 28, 3) := by decide +kernel
theorem dX4_init_59 : decode cX4_init 59 = .ok (.aload_n 0, 1) := by decide +kernel
theorem dX4_init_60 : decode cX4_init 60 = .ok (.bipush 30, 2) := by decide +kernel
theorem dX4_init_62 : decode cX4_init 62 = .ok (.newarray .int, 2) := by decide +kernel
theorem dX4_init_64 : decode cX4_init 64 = .ok (.putfield 31, 3) := by decide +kernel
theorem dX4_init_67 : decode cX4_init 67 = .ok (.aload_n 0, 1) := by decide +kernel
theorem dX4_init_68 : decode cX4_init 68 = .ok (.bipush 30, 2) := by decide +kernel
theorem dX4_init_70 : decode cX4_init 70 = .ok (.newarray .int, 2) := by decide +kernel
theorem dX4_init_72 : decode cX4_init 72 = .ok (.putfield 34, 3) := by decide +kernel
theorem dX4_init_75 : decode cX4_init 75 = .ok (.aload_n 0, 1) := by decide +kernel
theorem dX4_init_76 : decode cX4_init 76 = .ok (.bipush 40, 2) := by decide +kernel
theorem dX4_init_78 : decode cX4_init 78 = .ok (.newarray .int, 2) := by decide +kernel
theorem dX4_init_80 : decode cX4_init 80 = .ok (.putfield 37, 3) := by decide +kernel
theorem dX4_init_83 : decode cX4_init 83 = .ok (.aload_n 0, 1) := by decide +kernel
theorem dX4_init_84 : decode cX4_init 84 = .ok (.bipush 40, 2) := by decide +kernel
end
section
theorem dX4_init_86 : decode cX4_init 86 = .ok (.newarray .int, 2) := by decide +kernel
theorem dX4_init_88 : decode cX4_init 88 = .ok (.putfield 40, 3) := by decide +kernel
theorem dX4_init_91 : decode cX4_init 91 = .ok (.aload_n 0, 1) := by decide +kernel
theorem dX4_init_92 : decode cX4_init 92 = .ok (.bipush 8, 2) := by decide +kernel
theorem dX4_init_94 : decode cX4_init 94 = .ok (.newarray .int, 2) := by decide +kernel
theorem dX4_init_96 : decode cX4_init 96 = .ok (.putfield 43, 3) := by decide +kernel
theorem dX4_init_99 : decode cX4_init 99 = .ok (.aload_n 0, 1) := by decide +kernel
theorem dX4_init_100 : decode cX4_init 100 = .ok (.iconst 5, 1) := by decide +kernel
theorem dX4_init_101 : decode cX4_init 101 = .ok (.newarray .int, 2) := by decide +kernel
theorem dX4_init_103 : decode cX4_init 103 = .ok (.putfield 46, 3) := by decide +kernel
theorem dX4_init_106 : decode cX4_init 106 = .ok (.iconst 0, 1) := by decide +kernel
theorem dX4_init_107 : decode cX4_init 107 = .ok (.istore_n 1, 1) := by decide +kernel
theorem dX4_init_108 : decode cX4_init 108 = .ok (.iload_n 1, 1) := by decide +kernel
theorem dX4_init_109 : decode cX4_init 109 = .ok (.iconst 5, 1) := by decide +kernel
theorem dX4_init_110 : decode cX4_init 110 = .ok (.if_icmp .ge 17, 3) := by decide +kernel
theorem dX4_init_113 : decode cX4_init 113 = .ok (.aload_n 0, 1) := by decide +kernel
theorem dX4_init_114 : decode cX4_init 114 = .ok (.getfield 7, 3) := by decide +kernel
theorem dX4_init_117 : decode cX4_init 117 = .ok (.iload_n 1, 1) := by decide +kernel
theorem dX4_init_118 : decode cX4_init 118 = .ok (.bipush 100, 2) := by decide +kernel
theorem dX4_init_120 : decode cX4_init 120 = .ok (.iastore, 1) := by decide +kernel
theorem dX4_init_121 : decode cX4_init 121 = .ok (.iinc 1 1, 3) := by decide +kernel
theorem dX4_init_124 : decode cX4_init 124 = .ok (.goto (-16), 3) := by decide +kernel
theorem dX4_init_127 : decode cX4_init 127 = .ok (.iconst 0, 1) := by decide +kernel
theorem dX4_init_128 : decode cX4_init 128 = .ok (.istore_n 1, 1) := by decide +kernel
theorem dX4_init_129 : decode cX4_init 129 = .ok (.iload_n 1, 1) := by decide +kernel
theorem dX4_init_130 : decode cX4_init 130 = .ok (.bipush 8, 2) := by decide +kernel
theorem dX4_init_132 : decode cX4_init 132 = .ok (.if_icmp .ge 17, 3) := by decide +kernel
theorem dX4_init_135 : decode cX4_init 135 = .ok (.aload_n 0, 1) := by decide +kernel
theorem dX4_init_136 : decode cX4_init 136 = .ok (.getfield 43, 3) := by decide +kernel
theorem dX4_init_139 : decode cX4_init 139 = .ok (.iload_n 1, 1) := by decide +kernel
theorem dX4_init_140 : decode cX4_init 140 = .ok (.ldc 49, 2) := by decide +kernel
theorem dX4_init_142 : decode cX4_init 142 = .ok (.iastore, 1) := by decide +kernel
theorem dX4_init_143 : decode cX4_init 143 = .ok (.iinc 1 1, 3) := by decide +kernel
theorem dX4_init_146 : decode cX4_init 146 = .ok (.goto (-17), 3) := by decide +kernel
theorem dX4_init_149 : decode cX4_init 149 = .ok (.return_, 1) := by decide +kernel
theorem dX4_thrown_0 : decode cX4_thrown 0 = .ok (.aload_n 0, 1) := by decide +kernel
theorem dX4_thrown_1 : decode cX4_thrown 1 = .ok (.getfield 50, 3) := by decide +kernel
theorem dX4_thrown_4 : decode cX4_thrown 4 = .ok (.ireturn, 1) := by decide +kernel
theorem dX4_in_0 : decode cX4_in 0 = .ok (.iload_n 0, 1) := by decide +kernel
theorem dX4_in_1 : decode cX4_in 1 = .ok (.iload_n 1, 1) := by decide +kernel
theorem dX4_in_2 : decode cX4_in 2 = .ok (.if_icmp .lt 12, 3) := by decide +kernel
theorem dX4_in_5 : decode cX4_in 5 = .ok (.iload_n 0, 1) := by decide +kernel
theorem dX4_in_6 : decode cX4_in 6 = .ok (.iload_n 2, 1) := by decide +kernel
theorem dX4_in_7 : decode cX4_in 7 = .ok (.if_icmp .gt 7, 3) := by decide +kernel
theorem dX4_in_10 : decode cX4_in 10 = .ok (.iconst 1, 1) := by decide +kernel
theorem dX4_in_11 : decode cX4_in 11 = .ok (.goto 4, 3) := by decide +kernel
theorem dX4_in_14 : decode cX4_in 14 = .ok (.iconst 0, 1) := by decide +kernel
theorem dX4_in_15 : decode cX4_in 15 = .ok (.ireturn, 1) := by decide +kernel
theorem dX4_asked_0 : decode cX4_asked 0 = .ok (.aload_n 0, 1) := by decide +kernel
theorem dX4_asked_1 : decode cX4_asked 1 = .ok (.iload_n 1, 1) := by decide +kernel
theorem dX4_asked_2 : decode cX4_asked 2 = .ok (.ifCond .eq 7, 3) := by decide +kernel
theorem dX4_asked_5 : decode cX4_asked 5 = .ok (.iconst 0, 1) := by decide +kernel
theorem dX4_asked_6 : decode cX4_asked 6 = .ok (.goto 4, 3) := by decide +kernel
theorem dX4_asked_9 : decode cX4_asked 9 = .ok (.iconst 1, 1) := by decide +kernel
theorem dX4_asked_10 : decode cX4_asked 10 = .ok (.putfield 50, 3) := by decide +kernel
theorem dX4_asked_13 : decode cX4_asked 13 = .ok (.iload_n 1, 1) := by decide +kernel
theorem dX4_asked_14 : decode cX4_asked 14 = .ok (.ireturn, 1) := by decide +kernel
theorem dX4_asked__0 : decode cX4_asked_ 0 = .ok (.aload_n 0, 1) := by decide +kernel
theorem dX4_asked__1 : decode cX4_asked_ 1 = .ok (.iload_n 1, 1) := by decide +kernel
theorem dX4_asked__2 : decode cX4_asked_ 2 = .ok (.ifCond .ne 7, 3) := by decide +kernel
theorem dX4_asked__5 : decode cX4_asked_ 5 = .ok (.iconst 1, 1) := by decide +kernel
theorem dX4_asked__6 : decode cX4_asked_ 6 = .ok (.goto 12, 3) := by decide +kernel
theorem dX4_asked__9 : decode cX4_asked_ 9 = .ok (.iload_n 2, 1) := by decide +kernel
theorem dX4_asked__10 : decode cX4_asked_ 10 = .ok (.ifCond .eq 7, 3) := by decide +kernel
theorem dX4_asked__13 : decode cX4_asked_ 13 = .ok (.iconst 0, 1) := by decide +kernel
theorem dX4_asked__14 : decode cX4_asked_ 14 = .ok (.goto 4, 3) := by decide +kernel
theorem dX4_asked__17 : decode cX4_asked_ 17 = .ok (.iconst 2, 1) := by decide +kernel
theorem dX4_asked__18 : decode cX4_asked_ 18 = .ok (.putfield 50, 3) := by decide +kernel
theorem dX4_asked__21 : decode cX4_asked_ 21 = .ok (.aload_n 0, 1) := by decide +kernel
theorem dX4_asked__22 : decode cX4_asked_ 22 = .ok (.getfield 50, 3) := by decide +kernel
theorem dX4_asked__25 : decode cX4_asked_ 25 = .ok (.ifCond .ne 7, 3) := by decide +kernel
theorem dX4_asked__28 : decode cX4_asked_ 28 = .ok (.iconst 1, 1) := by decide +kernel
theorem dX4_asked__29 : decode cX4_asked_ 29 = .ok (.goto 4, 3) := by decide +kernel
theorem dX4_asked__32 : decode cX4_asked_ 32 = .ok (.iconst 0, 1) := by decide +kernel
theorem dX4_asked__33 : decode cX4_asked_ 33 = .ok (.ireturn, 1) := by decide +kernel
theorem dX4_asked___0 : decode cX4_asked__ 0 = .ok (.aload_n 0, 1) := by decide +kernel
theorem dX4_asked___1 : decode cX4_asked__ 1 = .ok (.iload_n 1, 1) := by decide +kernel
theorem dX4_asked___2 : decode cX4_asked__ 2 = .ok (.ifCond .ne 7, 3) := by decide +kernel
theorem dX4_asked___5 : decode cX4_asked__ 5 = .ok (.iconst 1, 1) := by decide +kernel
theorem dX4_asked___6 : decode cX4_asked__ 6 = .ok (.goto 20, 3) := by decide +kernel
theorem dX4_asked___9 : decode cX4_asked__ 9 = .ok (.iload_n 2, 1) := by decide +kernel
theorem dX4_asked___10 : decode cX4_asked__ 10 = .ok (.ifCond .ne 7, 3) := by decide +kernel
theorem dX4_asked___13 : decode cX4_asked__ 13 = .ok (.iconst 2, 1) := by decide +kernel
theorem dX4_asked___14 : decode cX4_asked__ 14 = .ok (.goto 12, 3) := by decide +kernel
theorem dX4_asked___17 : decode cX4_asked__ 17 = .ok (.iload_n 3, 1) := by decide +kernel
theorem dX4_asked___18 : decode cX4_asked__ 18 = .ok (.ifCond .eq 7, 3) := by decide +kernel
theorem dX4_asked___21 : decode cX4_asked__ 21 = .ok (.iconst 0, 1) := by decide +kernel
theorem dX4_asked___22 : decode cX4_asked__ 22 = .ok (.goto 4, 3) := by decide +kernel
theorem dX4_asked___25 : decode cX4_asked__ 25 = .ok (.iconst 3, 1) := by decide +kernel
theorem dX4_asked___26 : decode cX4_asked__ 26 = .ok (.putfield 50, 3) := by decide +kernel
theorem dX4_asked___29 : decode cX4_asked__ 29 = .ok (.aload_n 0, 1) := by decide +kernel
theorem dX4_asked___30 : decode cX4_asked__ 30 = .ok (.getfield 50, 3) := by decide +kernel
theorem dX4_asked___33 : decode cX4_asked__ 33 = .ok (.ifCond .ne 7, 3) := by decide +kernel
theorem dX4_asked___36 : decode cX4_asked__ 36 = .ok (.iconst 1, 1) := by decide +kernel
theorem dX4_asked___37 : decode cX4_asked__ 37 = .ok (.goto 4, 3) := by decide +kernel
theorem dX4_asked___40 : decode cX4_asked__ 40 = .ok (.iconst 0, 1) := by decide +kernel
theorem dX4_asked___41 : decode cX4_asked__ 41 = .ok (.ireturn, 1) := by decide +kernel
theorem dX4_isPlayer_0 : decode cX4_isPlayer 0 = .ok (.iload_n 0, 1) := by decide +kernel
theorem dX4_isPlayer_1 : decode cX4_isPlayer 1 = .ok (.iconst 0, 1) := by decide +kernel
theorem dX4_isPlayer_2 : decode cX4_isPlayer 2 = .ok (.iconst 4, 1) := by decide +kernel
theorem dX4_isPlayer_3 : decode cX4_isPlayer 3 = .ok (.invokestatic 54, 3) := by decide +kernel
theorem dX4_isPlayer_6 : decode cX4_isPlayer 6 = .ok (.ireturn, 1) := by decide +kernel
theorem dX4_isKind_0 : decode cX4_isKind 0 = .ok (.iload_n 0, 1) := by decide +kernel
theorem dX4_isKind_1 : decode cX4_isKind 1 = .ok (.iconst 0, 1) := by decide +kernel
theorem dX4_isKind_2 : decode cX4_isKind 2 = .ok (.bipush 7, 2) := by decide +kernel
theorem dX4_isKind_4 : decode cX4_isKind 4 = .ok (.invokestatic 54, 3) := by decide +kernel
theorem dX4_isKind_7 : decode cX4_isKind 7 = .ok (.ireturn, 1) := by decide +kernel
theorem dX4_isCard_0 : decode cX4_isCard 0 = .ok (.iload_n 1, 1) := by decide +kernel
theorem dX4_isCard_1 : decode cX4_isCard 1 = .ok (.iconst 0, 1) := by decide +kernel
theorem dX4_isCard_2 : decode cX4_isCard 2 = .ok (.aload_n 0, 1) := by decide +kernel
theorem dX4_isCard_3 : decode cX4_isCard 3 = .ok (.getfield 58, 3) := by decide +kernel
theorem dX4_isCard_6 : decode cX4_isCard 6 = .ok (.iconst 1, 1) := by decide +kernel
theorem dX4_isCard_7 : decode cX4_isCard 7 = .ok (.isub, 1) := by decide +kernel
theorem dX4_isCard_8 : decode cX4_isCard 8 = .ok (.invokestatic 54, 3) := by decide +kernel
theorem dX4_isCard_11 : decode cX4_isCard 11 = .ok (.ireturn, 1) := by decide +kernel
theorem dX4_banned_0 : decode cX4_banned 0 = .ok (.aload_n 0, 1) := by decide +kernel
theorem dX4_banned_1 : decode cX4_banned 1 = .ok (.getfield 43, 3) := by decide +kernel
theorem dX4_banned_4 : decode cX4_banned 4 = .ok (.iload_n 1, 1) := by decide +kernel
theorem dX4_banned_5 : decode cX4_banned 5 = .ok (.iaload, 1) := by decide +kernel
theorem dX4_banned_6 : decode cX4_banned 6 = .ok (.aload_n 0, 1) := by decide +kernel
theorem dX4_banned_7 : decode cX4_banned 7 = .ok (.getfield 61, 3) := by decide +kernel
theorem dX4_banned_10 : decode cX4_banned 10 = .ok (.if_icmp .gt 7, 3) := by decide +kernel
theorem dX4_banned_13 : decode cX4_banned 13 = .ok (.iconst 1, 1) := by decide +kernel
theorem dX4_banned_14 : decode cX4_banned 14 = .ok (.goto 4, 3) := by decide +kernel
theorem dX4_banned_17 : decode cX4_banned 17 = .ok (.iconst 0, 1) := by decide +kernel
theorem dX4_banned_18 : decode cX4_banned 18 = .ok (.ireturn, 1) := by decide +kernel
theorem dX4_mint_0 : decode cX4_mint 0 = .ok (.aload_n 0, 1) := by decide +kernel
theorem dX4_mint_1 : decode cX4_mint 1 = .ok (.iload_n 1, 1) := by decide +kernel
theorem dX4_mint_2 : decode cX4_mint 2 = .ok (.invokestatic 64, 3) := by decide +kernel
theorem dX4_mint_5 : decode cX4_mint 5 = .ok (.ifCond .eq 14, 3) := by decide +kernel
theorem dX4_mint_8 : decode cX4_mint 8 = .ok (.iload_n 2, 1) := by decide +kernel
theorem dX4_mint_9 : decode cX4_mint 9 = .ok (.invokestatic 68, 3) := by decide +kernel
theorem dX4_mint_12 : decode cX4_mint 12 = .ok (.ifCond .eq 7, 3) := by decide +kernel
theorem dX4_mint_15 : decode cX4_mint 15 = .ok (.iconst 1, 1) := by decide +kernel
theorem dX4_mint_16 : decode cX4_mint 16 = .ok (.goto 4, 3) := by decide +kernel
theorem dX4_mint_19 : decode cX4_mint 19 = .ok (.iconst 0, 1) := by decide +kernel
theorem dX4_mint_20 : decode cX4_mint 20 = .ok (.aload_n 0, 1) := by decide +kernel
theorem dX4_mint_21 : decode cX4_mint 21 = .ok (.getfield 58, 3) := by decide +kernel
theorem dX4_mint_24 : decode cX4_mint 24 = .ok (.bipush 30, 2) := by decide +kernel
theorem dX4_mint_26 : decode cX4_mint 26 = .ok (.if_icmp .ge 7, 3) := by decide +kernel
theorem dX4_mint_29 : decode cX4_mint 29 = .ok (.iconst 1, 1) := by decide +kernel
theorem dX4_mint_30 : decode cX4_mint 30 = .ok (.goto 4, 3) := by decide +kernel
theorem dX4_mint_33 : decode cX4_mint 33 = .ok (.iconst 0, 1) := by decide +kernel
theorem dX4_mint_34 : decode cX4_mint 34 = .ok (.invokevirtual 71, 3) := by decide +kernel
theorem dX4_mint_37 : decode cX4_mint 37 = .ok (.ifCond .ne 5, 3) := by decide +kernel
theorem dX4_mint_40 : decode cX4_mint 40 = .ok (.iconst 0, 1) := by decide +kernel
theorem dX4_mint_41 : decode cX4_mint 41 = .ok (.ireturn, 1) := by decide +kernel
theorem dX4_mint_42 : decode cX4_mint 42 = .ok (.aload_n 0, 1) := by decide +kernel
theorem dX4_mint_43 : decode cX4_mint 43 = .ok (.getfield 13, 3) := by decide +kernel
theorem dX4_mint_46 : decode cX4_mint 46 = .ok (.aload_n 0, 1) := by decide +kernel
theorem dX4_mint_47 : decode cX4_mint 47 = .ok (.getfield 58, 3) := by decide +kernel
theorem dX4_mint_50 : decode cX4_mint 50 = .ok (.iload_n 2, 1) := by decide +kernel
theorem dX4_mint_51 : decode cX4_mint 51 = .ok (.iastore, 1) := by decide +kernel
theorem dX4_mint_52 : decode cX4_mint 52 = .ok (.aload_n 0, 1) := by decide +kernel
theorem dX4_mint_53 : decode cX4_mint 53 = .ok (.getfield 16, 3) := by decide +kernel
theorem dX4_mint_56 : decode cX4_mint 56 = .ok (.aload_n 0, 1) := by decide +kernel
theorem dX4_mint_57 : decode cX4_mint 57 = .ok (.getfield 58, 3) := by decide +kernel
theorem dX4_mint_60 : decode cX4_mint 60 = .ok (.iload_n 1, 1) := by decide +kernel
theorem dX4_mint_61 : decode cX4_mint 61 = .ok (.iastore, 1) := by decide +kernel
theorem dX4_mint_62 : decode cX4_mint 62 = .ok (.aload_n 0, 1) := by decide +kernel
theorem dX4_mint_63 : decode cX4_mint 63 = .ok (.getfield 19, 3) := by decide +kernel
theorem dX4_mint_66 : decode cX4_mint 66 = .ok (.aload_n 0, 1) := by decide +kernel
theorem dX4_mint_67 : decode cX4_mint 67 = .ok (.getfield 58, 3) := by decide +kernel
theorem dX4_mint_70 : decode cX4_mint 70 = .ok (.iconst 0, 1) := by decide +kernel
theorem dX4_mint_71 : decode cX4_mint 71 = .ok (.iastore, 1) := by decide +kernel
theorem dX4_mint_72 : decode cX4_mint 72 = .ok (.aload_n 0, 1) := by decide +kernel
theorem dX4_mint_73 : decode cX4_mint 73 = .ok (.dup, 1) := by decide +kernel
theorem dX4_mint_74 : decode cX4_mint 74 = .ok (.getfield 58, 3) := by decide +kernel
theorem dX4_mint_77 : decode cX4_mint 77 = .ok (.iconst 1, 1) := by decide +kernel
theorem dX4_mint_78 : decode cX4_mint 78 = .ok (.iadd, 1) := by decide +kernel
theorem dX4_mint_79 : decode cX4_mint 79 = .ok (.putfield 58, 3) := by decide +kernel
theorem dX4_mint_82 : decode cX4_mint 82 = .ok (.aload_n 0, 1) := by decide +kernel
theorem dX4_mint_83 : decode cX4_mint 83 = .ok (.getfield 58, 3) := by decide +kernel
theorem dX4_mint_86 : decode cX4_mint 86 = .ok (.iconst 1, 1) := by decide +kernel
theorem dX4_mint_87 : decode cX4_mint 87 = .ok (.isub, 1) := by decide +kernel
theorem dX4_mint_88 : decode cX4_mint 88 = .ok (.ireturn, 1) := by decide +kernel
theorem dX4_owner_0 : decode cX4_owner 0 = .ok (.aload_n 0, 1) := by decide +kernel
theorem dX4_owner_1 : decode cX4_owner 1 = .ok (.aload_n 0, 1) := by decide +kernel
theorem dX4_owner_2 : decode cX4_owner 2 = .ok (.iload_n 1, 1) := by decide +kernel
theorem dX4_owner_3 : decode cX4_owner 3 = .ok (.invokevirtual 75, 3) := by decide +kernel
theorem dX4_owner_6 : decode cX4_owner 6 = .ok (.invokevirtual 78, 3) := by decide +kernel
theorem dX4_owner_9 : decode cX4_owner 9 = .ok (.ifCond .eq 12, 3) := by decide +kernel
theorem dX4_owner_12 : decode cX4_owner 12 = .ok (.aload_n 0, 1) := by decide +kernel
theorem dX4_owner_13 : decode cX4_owner 13 = .ok (.getfield 16, 3) := by decide +kernel
theorem dX4_owner_16 : decode cX4_owner 16 = .ok (.iload_n 1, 1) := by decide +kernel
theorem dX4_owner_17 : decode cX4_owner 17 = .ok (.iaload, 1) := by decide +kernel
theorem dX4_owner_18 : decode cX4_owner 18 = .ok (.goto 4, 3) := by decide +kernel
theorem dX4_owner_21 : decode cX4_owner 21 = .ok (.iconst 0, 1) := by decide +kernel
theorem dX4_owner_22 : decode cX4_owner 22 = .ok (.ireturn, 1) := by decide +kernel
theorem dX4_ownerByHistory_0 : decode cX4_ownerByHistory 0 = .ok (.aload_n 0, 1) := by decide +kernel
theorem dX4_ownerByHistory_1 : decode cX4_ownerByHistory 1 = .ok (.iload_n 1, 1) := by decide +kernel
theorem dX4_ownerByHistory_2 : decode cX4_ownerByHistory 2 = .ok (.invokevirtual 81, 3) := by decide +kernel
theorem dX4_ownerByHistory_5 : decode cX4_ownerByHistory 5 = .ok (.ireturn, 1) := by decide +kernel
theorem dX4_holds_0 : decode cX4_holds 0 = .ok (.aload_n 0, 1) := by decide +kernel
theorem dX4_holds_1 : decode cX4_holds 1 = .ok (.getfield 19, 3) := by decide +kernel
theorem dX4_holds_4 : decode cX4_holds 4 = .ok (.iload_n 1, 1) := by decide +kernel
theorem dX4_holds_5 : decode cX4_holds 5 = .ok (.iaload, 1) := by decide +kernel
theorem dX4_holds_6 : decode cX4_holds 6 = .ok (.iconst 3, 1) := by decide +kernel
theorem dX4_holds_7 : decode cX4_holds 7 = .ok (.if_icmp .ne 12, 3) := by decide +kernel
theorem dX4_holds_10 : decode cX4_holds 10 = .ok (.aload_n 0, 1) := by decide +kernel
theorem dX4_holds_11 : decode cX4_holds 11 = .ok (.getfield 31, 3) := by decide +kernel
theorem dX4_holds_14 : decode cX4_holds 14 = .ok (.iload_n 1, 1) := by decide +kernel
theorem dX4_holds_15 : decode cX4_holds 15 = .ok (.iaload, 1) := by decide +kernel
theorem dX4_holds_16 : decode cX4_holds 16 = .ok (.goto 9, 3) := by decide +kernel
theorem dX4_holds_19 : decode cX4_holds 19 = .ok (.aload_n 0, 1) := by decide +kernel
theorem dX4_holds_20 : decode cX4_holds 20 = .ok (.getfield 16, 3) := by decide +kernel
theorem dX4_holds_23 : decode cX4_holds 23 = .ok (.iload_n 1, 1) := by decide +kernel
theorem dX4_holds_24 : decode cX4_holds 24 = .ok (.iaload, 1) := by decide +kernel
theorem dX4_holds_25 : decode cX4_holds 25 = .ok (.ireturn, 1) := by decide +kernel
theorem dX4_holder_0 : decode cX4_holder 0 = .ok (.aload_n 0, 1) := by decide +kernel
theorem dX4_holder_1 : decode cX4_holder 1 = .ok (.aload_n 0, 1) := by decide +kernel
theorem dX4_holder_2 : decode cX4_holder 2 = .ok (.iload_n 1, 1) := by decide +kernel
theorem dX4_holder_3 : decode cX4_holder 3 = .ok (.invokevirtual 75, 3) := by decide +kernel
theorem dX4_holder_6 : decode cX4_holder 6 = .ok (.invokevirtual 78, 3) := by decide +kernel
theorem dX4_holder_9 : decode cX4_holder 9 = .ok (.ifCond .eq 11, 3) := by decide +kernel
theorem dX4_holder_12 : decode cX4_holder 12 = .ok (.aload_n 0, 1) := by decide +kernel
theorem dX4_holder_13 : decode cX4_holder 13 = .ok (.iload_n 1, 1) := by decide +kernel
theorem dX4_holder_14 : decode cX4_holder 14 = .ok (.invokevirtual 84, 3) := by decide +kernel
theorem dX4_holder_17 : decode cX4_holder 17 = .ok (.goto 4, 3) := by decide +kernel
theorem dX4_holder_20 : decode cX4_holder 20 = .ok (.iconst 0, 1) := by decide +kernel
theorem dX4_holder_21 : decode cX4_holder 21 = .ok (.ireturn, 1) := by decide +kernel
theorem dX4_stateOf_0 : decode cX4_stateOf 0 = .ok (.aload_n 0, 1) := by decide +kernel
theorem dX4_stateOf_1 : decode cX4_stateOf 1 = .ok (.aload_n 0, 1) := by decide +kernel
theorem dX4_stateOf_2 : decode cX4_stateOf 2 = .ok (.iload_n 1, 1) := by decide +kernel
theorem dX4_stateOf_3 : decode cX4_stateOf 3 = .ok (.invokevirtual 75, 3) := by decide +kernel
theorem dX4_stateOf_6 : decode cX4_stateOf 6 = .ok (.invokevirtual 78, 3) := by decide +kernel
theorem dX4_stateOf_9 : decode cX4_stateOf 9 = .ok (.ifCond .eq 12, 3) := by decide +kernel
theorem dX4_stateOf_12 : decode cX4_stateOf 12 = .ok (.aload_n 0, 1) := by decide +kernel
theorem dX4_stateOf_13 : decode cX4_stateOf 13 = .ok (.getfield 19, 3) := by decide +kernel
theorem dX4_stateOf_16 : decode cX4_stateOf 16 = .ok (.iload_n 1, 1) := by decide +kernel
theorem dX4_stateOf_17 : decode cX4_stateOf 17 = .ok (.iaload, 1) := by decide +kernel
theorem dX4_stateOf_18 : decode cX4_stateOf 18 = .ok (.goto 4, 3) := by decide +kernel
theorem dX4_stateOf_21 : decode cX4_stateOf 21 = .ok (.iconst 0, 1) := by decide +kernel
theorem dX4_stateOf_22 : decode cX4_stateOf 22 = .ok (.ireturn, 1) := by decide +kernel
theorem dX4_coins_0 : decode cX4_coins 0 = .ok (.aload_n 0, 1) := by decide +kernel
theorem dX4_coins_1 : decode cX4_coins 1 = .ok (.iload_n 1, 1) := by decide +kernel
theorem dX4_coins_2 : decode cX4_coins 2 = .ok (.invokestatic 64, 3) := by decide +kernel
theorem dX4_coins_5 : decode cX4_coins 5 = .ok (.invokevirtual 78, 3) := by decide +kernel
theorem dX4_coins_8 : decode cX4_coins 8 = .ok (.ifCond .eq 12, 3) := by decide +kernel
theorem dX4_coins_11 : decode cX4_coins 11 = .ok (.aload_n 0, 1) := by decide +kernel
theorem dX4_coins_12 : decode cX4_coins 12 = .ok (.getfield 7, 3) := by decide +kernel
theorem dX4_coins_15 : decode cX4_coins 15 = .ok (.iload_n 1, 1) := by decide +kernel
theorem dX4_coins_16 : decode cX4_coins 16 = .ok (.iaload, 1) := by decide +kernel
theorem dX4_coins_17 : decode cX4_coins 17 = .ok (.goto 4, 3) := by decide +kernel
theorem dX4_coins_20 : decode cX4_coins 20 = .ok (.iconst 0, 1) := by decide +kernel
theorem dX4_coins_21 : decode cX4_coins 21 = .ok (.ireturn, 1) := by decide +kernel
theorem dX4_bidder_0 : decode cX4_bidder 0 = .ok (.iconst (-1), 1) := by decide +kernel
theorem dX4_bidder_1 : decode cX4_bidder 1 = .ok (.istore_n 3, 1) := by decide +kernel
theorem dX4_bidder_2 : decode cX4_bidder 2 = .ok (.iconst 0, 1) := by decide +kernel
theorem dX4_bidder_3 : decode cX4_bidder 3 = .ok (.istore 4, 2) := by decide +kernel
theorem dX4_bidder_5 : decode cX4_bidder 5 = .ok (.iload 4, 2) := by decide +kernel
theorem dX4_bidder_7 : decode cX4_bidder 7 = .ok (.iconst 5, 1) := by decide +kernel
theorem dX4_bidder_8 : decode cX4_bidder 8 = .ok (.if_icmp .ge 102, 3) := by decide +kernel
theorem dX4_bidder_11 : decode cX4_bidder 11 = .ok (.bipush 8, 2) := by decide +kernel
theorem dX4_bidder_13 : decode cX4_bidder 13 = .ok (.iload 4, 2) := by decide +kernel
theorem dX4_bidder_15 : decode cX4_bidder 15 = .ok (.imul, 1) := by decide +kernel
theorem dX4_bidder_16 : decode cX4_bidder 16 = .ok (.iload_n 1, 1) := by decide +kernel
theorem dX4_bidder_17 : decode cX4_bidder 17 = .ok (.iadd, 1) := by decide +kernel
theorem dX4_bidder_18 : decode cX4_bidder 18 = .ok (.istore 5, 2) := by decide +kernel
theorem dX4_bidder_20 : decode cX4_bidder 20 = .ok (.iload 4, 2) := by decide +kernel
theorem dX4_bidder_22 : decode cX4_bidder 22 = .ok (.iload_n 2, 1) := by decide +kernel
theorem dX4_bidder_23 : decode cX4_bidder 23 = .ok (.if_icmp .eq 81, 3) := by decide +kernel
theorem dX4_bidder_26 : decode cX4_bidder 26 = .ok (.aload_n 0, 1) := by decide +kernel
theorem dX4_bidder_27 : decode cX4_bidder 27 = .ok (.getfield 37, 3) := by decide +kernel
theorem dX4_bidder_30 : decode cX4_bidder 30 = .ok (.iload 5, 2) := by decide +kernel
theorem dX4_bidder_32 : decode cX4_bidder 32 = .ok (.iaload, 1) := by decide +kernel
theorem dX4_bidder_33 : decode cX4_bidder 33 = .ok (.ifCond .le 71, 3) := by decide +kernel
theorem dX4_bidder_36 : decode cX4_bidder 36 = .ok (.iload_n 3, 1) := by decide +kernel
theorem dX4_bidder_37 : decode cX4_bidder 37 = .ok (.iconst (-1), 1) := by decide +kernel
theorem dX4_bidder_38 : decode cX4_bidder 38 = .ok (.if_icmp .ne 7, 3) := by decide +kernel
theorem dX4_bidder_41 : decode cX4_bidder 41 = .ok (.iconst 1, 1) := by decide +kernel
theorem dX4_bidder_42 : decode cX4_bidder 42 = .ok (.goto 22, 3) := by decide +kernel
theorem dX4_bidder_45 : decode cX4_bidder 45 = .ok (.aload_n 0, 1) := by decide +kernel
theorem dX4_bidder_46 : decode cX4_bidder 46 = .ok (.getfield 37, 3) := by decide +kernel
theorem dX4_bidder_49 : decode cX4_bidder 49 = .ok (.iload 5, 2) := by decide +kernel
theorem dX4_bidder_51 : decode cX4_bidder 51 = .ok (.iaload, 1) := by decide +kernel
theorem dX4_bidder_52 : decode cX4_bidder 52 = .ok (.aload_n 0, 1) := by decide +kernel
theorem dX4_bidder_53 : decode cX4_bidder 53 = .ok (.getfield 37, 3) := by decide +kernel
theorem dX4_bidder_56 : decode cX4_bidder 56 = .ok (.bipush 8, 2) := by decide +kernel
theorem dX4_bidder_58 : decode cX4_bidder 58 = .ok (.iload_n 3, 1) := by decide +kernel
theorem dX4_bidder_59 : decode cX4_bidder 59 = .ok (.imul, 1) := by decide +kernel
theorem dX4_bidder_60 : decode cX4_bidder 60 = .ok (.iload_n 1, 1) := by decide +kernel
theorem dX4_bidder_61 : decode cX4_bidder 61 = .ok (.iadd, 1) := by decide +kernel
theorem dX4_bidder_62 : decode cX4_bidder 62 = .ok (.iaload, 1) := by decide +kernel
theorem dX4_bidder_63 : decode cX4_bidder 63 = .ok (.isub, 1) := by decide +kernel
theorem dX4_bidder_64 : decode cX4_bidder 64 = .ok (.istore 6, 2) := by decide +kernel
theorem dX4_bidder_66 : decode cX4_bidder 66 = .ok (.iload 6, 2) := by decide +kernel
theorem dX4_bidder_68 : decode cX4_bidder 68 = .ok (.ifCond .gt 29, 3) := by decide +kernel
theorem dX4_bidder_71 : decode cX4_bidder 71 = .ok (.iload 6, 2) := by decide +kernel
theorem dX4_bidder_73 : decode cX4_bidder 73 = .ok (.ifCond .ne 29, 3) := by decide +kernel
theorem dX4_bidder_76 : decode cX4_bidder 76 = .ok (.aload_n 0, 1) := by decide +kernel
theorem dX4_bidder_77 : decode cX4_bidder 77 = .ok (.getfield 40, 3) := by decide +kernel
theorem dX4_bidder_80 : decode cX4_bidder 80 = .ok (.iload 5, 2) := by decide +kernel
theorem dX4_bidder_82 : decode cX4_bidder 82 = .ok (.iaload, 1) := by decide +kernel
theorem dX4_bidder_83 : decode cX4_bidder 83 = .ok (.aload_n 0, 1) := by decide +kernel
theorem dX4_bidder_84 : decode cX4_bidder 84 = .ok (.getfield 40, 3) := by decide +kernel
theorem dX4_bidder_87 : decode cX4_bidder 87 = .ok (.bipush 8, 2) := by decide +kernel
theorem dX4_bidder_89 : decode cX4_bidder 89 = .ok (.iload_n 3, 1) := by decide +kernel
theorem dX4_bidder_90 : decode cX4_bidder 90 = .ok (.imul, 1) := by decide +kernel
theorem dX4_bidder_91 : decode cX4_bidder 91 = .ok (.iload_n 1, 1) := by decide +kernel
theorem dX4_bidder_92 : decode cX4_bidder 92 = .ok (.iadd, 1) := by decide +kernel
theorem dX4_bidder_93 : decode cX4_bidder 93 = .ok (.iaload, 1) := by decide +kernel
theorem dX4_bidder_94 : decode cX4_bidder 94 = .ok (.if_icmp .ge 8, 3) := by decide +kernel
theorem dX4_bidder_97 : decode cX4_bidder 97 = .ok (.iload 4, 2) := by decide +kernel
theorem dX4_bidder_99 : decode cX4_bidder 99 = .ok (.goto 4, 3) := by decide +kernel
theorem dX4_bidder_102 : decode cX4_bidder 102 = .ok (.iload_n 3, 1) := by decide +kernel
theorem dX4_bidder_103 : decode cX4_bidder 103 = .ok (.istore_n 3, 1) := by decide +kernel
theorem dX4_bidder_104 : decode cX4_bidder 104 = .ok (.iinc 4 1, 3) := by decide +kernel
theorem dX4_bidder_107 : decode cX4_bidder 107 = .ok (.goto (-102), 3) := by decide +kernel
theorem dX4_bidder_110 : decode cX4_bidder 110 = .ok (.iload_n 3, 1) := by decide +kernel
theorem dX4_bidder_111 : decode cX4_bidder 111 = .ok (.ireturn, 1) := by decide +kernel
theorem dX4_offer_0 : decode cX4_offer 0 = .ok (.iconst (-1), 1) := by decide +kernel
theorem dX4_offer_1 : decode cX4_offer 1 = .ok (.istore_n 3, 1) := by decide +kernel
theorem dX4_offer_2 : decode cX4_offer 2 = .ok (.iconst 0, 1) := by decide +kernel
theorem dX4_offer_3 : decode cX4_offer 3 = .ok (.istore 4, 2) := by decide +kernel
theorem dX4_offer_5 : decode cX4_offer 5 = .ok (.iload 4, 2) := by decide +kernel
theorem dX4_offer_7 : decode cX4_offer 7 = .ok (.aload_n 0, 1) := by decide +kernel
theorem dX4_offer_8 : decode cX4_offer 8 = .ok (.getfield 58, 3) := by decide +kernel
theorem dX4_offer_11 : decode cX4_offer 11 = .ok (.if_icmp .ge 100, 3) := by decide +kernel
theorem dX4_offer_14 : decode cX4_offer 14 = .ok (.aload_n 0, 1) := by decide +kernel
theorem dX4_offer_15 : decode cX4_offer 15 = .ok (.getfield 19, 3) := by decide +kernel
theorem dX4_offer_18 : decode cX4_offer 18 = .ok (.iload 4, 2) := by decide +kernel
theorem dX4_offer_20 : decode cX4_offer 20 = .ok (.iaload, 1) := by decide +kernel
theorem dX4_offer_21 : decode cX4_offer 21 = .ok (.iconst 1, 1) := by decide +kernel
theorem dX4_offer_22 : decode cX4_offer 22 = .ok (.if_icmp .ne 83, 3) := by decide +kernel
theorem dX4_offer_25 : decode cX4_offer 25 = .ok (.aload_n 0, 1) := by decide +kernel
theorem dX4_offer_26 : decode cX4_offer 26 = .ok (.getfield 13, 3) := by decide +kernel
theorem dX4_offer_29 : decode cX4_offer 29 = .ok (.iload 4, 2) := by decide +kernel
theorem dX4_offer_31 : decode cX4_offer 31 = .ok (.iaload, 1) := by decide +kernel
theorem dX4_offer_32 : decode cX4_offer 32 = .ok (.iload_n 1, 1) := by decide +kernel
theorem dX4_offer_33 : decode cX4_offer 33 = .ok (.if_icmp .ne 72, 3) := by decide +kernel
theorem dX4_offer_36 : decode cX4_offer 36 = .ok (.aload_n 0, 1) := by decide +kernel
theorem dX4_offer_37 : decode cX4_offer 37 = .ok (.getfield 16, 3) := by decide +kernel
theorem dX4_offer_40 : decode cX4_offer 40 = .ok (.iload 4, 2) := by decide +kernel
theorem dX4_offer_42 : decode cX4_offer 42 = .ok (.iaload, 1) := by decide +kernel
theorem dX4_offer_43 : decode cX4_offer 43 = .ok (.iload_n 2, 1) := by decide +kernel
theorem dX4_offer_44 : decode cX4_offer 44 = .ok (.if_icmp .eq 61, 3) := by decide +kernel
theorem dX4_offer_47 : decode cX4_offer 47 = .ok (.iload_n 3, 1) := by decide +kernel
theorem dX4_offer_48 : decode cX4_offer 48 = .ok (.iconst (-1), 1) := by decide +kernel
theorem dX4_offer_49 : decode cX4_offer 49 = .ok (.if_icmp .ne 7, 3) := by decide +kernel
theorem dX4_offer_52 : decode cX4_offer 52 = .ok (.iconst 1, 1) := by decide +kernel
theorem dX4_offer_53 : decode cX4_offer 53 = .ok (.goto 17, 3) := by decide +kernel
theorem dX4_offer_56 : decode cX4_offer 56 = .ok (.aload_n 0, 1) := by decide +kernel
theorem dX4_offer_57 : decode cX4_offer 57 = .ok (.getfield 22, 3) := by decide +kernel
theorem dX4_offer_60 : decode cX4_offer 60 = .ok (.iload_n 3, 1) := by decide +kernel
theorem dX4_offer_61 : decode cX4_offer 61 = .ok (.iaload, 1) := by decide +kernel
theorem dX4_offer_62 : decode cX4_offer 62 = .ok (.aload_n 0, 1) := by decide +kernel
theorem dX4_offer_63 : decode cX4_offer 63 = .ok (.getfield 22, 3) := by decide +kernel
theorem dX4_offer_66 : decode cX4_offer 66 = .ok (.iload 4, 2) := by decide +kernel
theorem dX4_offer_68 : decode cX4_offer 68 = .ok (.iaload, 1) := by decide +kernel
theorem dX4_offer_69 : decode cX4_offer 69 = .ok (.isub, 1) := by decide +kernel
theorem dX4_offer_70 : decode cX4_offer 70 = .ok (.istore 5, 2) := by decide +kernel
theorem dX4_offer_72 : decode cX4_offer 72 = .ok (.iload 5, 2) := by decide +kernel
theorem dX4_offer_74 : decode cX4_offer 74 = .ok (.ifCond .gt 24, 3) := by decide +kernel
theorem dX4_offer_77 : decode cX4_offer 77 = .ok (.iload 5, 2) := by decide +kernel
theorem dX4_offer_79 : decode cX4_offer 79 = .ok (.ifCond .ne 24, 3) := by decide +kernel
theorem dX4_offer_82 : decode cX4_offer 82 = .ok (.aload_n 0, 1) := by decide +kernel
theorem dX4_offer_83 : decode cX4_offer 83 = .ok (.getfield 25, 3) := by decide +kernel
theorem dX4_offer_86 : decode cX4_offer 86 = .ok (.iload 4, 2) := by decide +kernel
theorem dX4_offer_88 : decode cX4_offer 88 = .ok (.iaload, 1) := by decide +kernel
theorem dX4_offer_89 : decode cX4_offer 89 = .ok (.aload_n 0, 1) := by decide +kernel
theorem dX4_offer_90 : decode cX4_offer 90 = .ok (.getfield 25, 3) := by decide +kernel
theorem dX4_offer_93 : decode cX4_offer 93 = .ok (.iload_n 3, 1) := by decide +kernel
theorem dX4_offer_94 : decode cX4_offer 94 = .ok (.iaload, 1) := by decide +kernel
theorem dX4_offer_95 : decode cX4_offer 95 = .ok (.if_icmp .ge 8, 3) := by decide +kernel
theorem dX4_offer_98 : decode cX4_offer 98 = .ok (.iload 4, 2) := by decide +kernel
theorem dX4_offer_100 : decode cX4_offer 100 = .ok (.goto 4, 3) := by decide +kernel
theorem dX4_offer_103 : decode cX4_offer 103 = .ok (.iload_n 3, 1) := by decide +kernel
theorem dX4_offer_104 : decode cX4_offer 104 = .ok (.istore_n 3, 1) := by decide +kernel
theorem dX4_offer_105 : decode cX4_offer 105 = .ok (.iinc 4 1, 3) := by decide +kernel
theorem dX4_offer_108 : decode cX4_offer 108 = .ok (.goto (-103), 3) := by decide +kernel
theorem dX4_offer_111 : decode cX4_offer 111 = .ok (.iload_n 3, 1) := by decide +kernel
theorem dX4_offer_112 : decode cX4_offer 112 = .ok (.ireturn, 1) := by decide +kernel
theorem dX4_sell_0 : decode cX4_sell 0 = .ok (.aload_n 0, 1) := by decide +kernel
theorem dX4_sell_1 : decode cX4_sell 1 = .ok (.iload_n 1, 1) := by decide +kernel
theorem dX4_sell_2 : decode cX4_sell 2 = .ok (.invokevirtual 75, 3) := by decide +kernel
theorem dX4_sell_5 : decode cX4_sell 5 = .ok (.istore_n 3, 1) := by decide +kernel
theorem dX4_sell_6 : decode cX4_sell 6 = .ok (.aload_n 0, 1) := by decide +kernel
theorem dX4_sell_7 : decode cX4_sell 7 = .ok (.iload_n 3, 1) := by decide +kernel
theorem dX4_sell_8 : decode cX4_sell 8 = .ok (.iload_n 2, 1) := by decide +kernel
theorem dX4_sell_9 : decode cX4_sell 9 = .ok (.iconst 1, 1) := by decide +kernel
theorem dX4_sell_10 : decode cX4_sell 10 = .ok (.sipush 1000, 3) := by decide +kernel
theorem dX4_sell_13 : decode cX4_sell 13 = .ok (.invokestatic 54, 3) := by decide +kernel
theorem dX4_sell_16 : decode cX4_sell 16 = .ok (.iload_n 3, 1) := by decide +kernel
theorem dX4_sell_17 : decode cX4_sell 17 = .ok (.ifCond .eq 29, 3) := by decide +kernel
theorem dX4_sell_20 : decode cX4_sell 20 = .ok (.aload_n 0, 1) := by decide +kernel
theorem dX4_sell_21 : decode cX4_sell 21 = .ok (.getfield 19, 3) := by decide +kernel
theorem dX4_sell_24 : decode cX4_sell 24 = .ok (.iload_n 1, 1) := by decide +kernel
theorem dX4_sell_25 : decode cX4_sell 25 = .ok (.iaload, 1) := by decide +kernel
theorem dX4_sell_26 : decode cX4_sell 26 = .ok (.ifCond .ne 20, 3) := by decide +kernel
theorem dX4_sell_29 : decode cX4_sell 29 = .ok (.aload_n 0, 1) := by decide +kernel
theorem dX4_sell_30 : decode cX4_sell 30 = .ok (.aload_n 0, 1) := by decide +kernel
theorem dX4_sell_31 : decode cX4_sell 31 = .ok (.getfield 13, 3) := by decide +kernel
theorem dX4_sell_34 : decode cX4_sell 34 = .ok (.iload_n 1, 1) := by decide +kernel
theorem dX4_sell_35 : decode cX4_sell 35 = .ok (.iaload, 1) := by decide +kernel
theorem dX4_sell_36 : decode cX4_sell 36 = .ok (.invokevirtual 87, 3) := by decide +kernel
theorem dX4_sell_39 : decode cX4_sell 39 = .ok (.ifCond .ne 7, 3) := by decide +kernel
theorem dX4_sell_42 : decode cX4_sell 42 = .ok (.iconst 1, 1) := by decide +kernel
theorem dX4_sell_43 : decode cX4_sell 43 = .ok (.goto 4, 3) := by decide +kernel
theorem dX4_sell_46 : decode cX4_sell 46 = .ok (.iconst 0, 1) := by decide +kernel
theorem dX4_sell_47 : decode cX4_sell 47 = .ok (.invokevirtual 90, 3) := by decide +kernel
theorem dX4_sell_50 : decode cX4_sell 50 = .ok (.ifCond .ne 5, 3) := by decide +kernel
theorem dX4_sell_53 : decode cX4_sell 53 = .ok (.iconst 0, 1) := by decide +kernel
theorem dX4_sell_54 : decode cX4_sell 54 = .ok (.ireturn, 1) := by decide +kernel
theorem dX4_sell_55 : decode cX4_sell 55 = .ok (.aload_n 0, 1) := by decide +kernel
theorem dX4_sell_56 : decode cX4_sell 56 = .ok (.dup, 1) := by decide +kernel
theorem dX4_sell_57 : decode cX4_sell 57 = .ok (.getfield 93, 3) := by decide +kernel
theorem dX4_sell_60 : decode cX4_sell 60 = .ok (.iconst 1, 1) := by decide +kernel
theorem dX4_sell_61 : decode cX4_sell 61 = .ok (.iadd, 1) := by decide +kernel
theorem dX4_sell_62 : decode cX4_sell 62 = .ok (.putfield 93, 3) := by decide +kernel
theorem dX4_sell_65 : decode cX4_sell 65 = .ok (.aload_n 0, 1) := by decide +kernel
theorem dX4_sell_66 : decode cX4_sell 66 = .ok (.aload_n 0, 1) := by decide +kernel
theorem dX4_sell_67 : decode cX4_sell 67 = .ok (.getfield 13, 3) := by decide +kernel
theorem dX4_sell_70 : decode cX4_sell 70 = .ok (.iload_n 1, 1) := by decide +kernel
theorem dX4_sell_71 : decode cX4_sell 71 = .ok (.iaload, 1) := by decide +kernel
theorem dX4_sell_72 : decode cX4_sell 72 = .ok (.aload_n 0, 1) := by decide +kernel
theorem dX4_sell_73 : decode cX4_sell 73 = .ok (.getfield 16, 3) := by decide +kernel
theorem dX4_sell_76 : decode cX4_sell 76 = .ok (.iload_n 1, 1) := by decide +kernel
theorem dX4_sell_77 : decode cX4_sell 77 = .ok (.iaload, 1) := by decide +kernel
theorem dX4_sell_78 : decode cX4_sell 78 = .ok (.invokevirtual 96, 3) := by decide +kernel
theorem dX4_sell_81 : decode cX4_sell 81 = .ok (.istore 4, 2) := by decide +kernel
theorem dX4_sell_83 : decode cX4_sell 83 = .ok (.iload 4, 2) := by decide +kernel
theorem dX4_sell_85 : decode cX4_sell 85 = .ok (.iconst (-1), 1) := by decide +kernel
theorem dX4_sell_86 : decode cX4_sell 86 = .ok (.if_icmp .ne 7, 3) := by decide +kernel
theorem dX4_sell_89 : decode cX4_sell 89 = .ok (.iconst 0, 1) := by decide +kernel
theorem dX4_sell_90 : decode cX4_sell 90 = .ok (.goto 15, 3) := by decide +kernel
theorem dX4_sell_93 : decode cX4_sell 93 = .ok (.bipush 8, 2) := by decide +kernel
theorem dX4_sell_95 : decode cX4_sell 95 = .ok (.iload 4, 2) := by decide +kernel
theorem dX4_sell_97 : decode cX4_sell 97 = .ok (.imul, 1) := by decide +kernel
theorem dX4_sell_98 : decode cX4_sell 98 = .ok (.aload_n 0, 1) := by decide +kernel
theorem dX4_sell_99 : decode cX4_sell 99 = .ok (.getfield 13, 3) := by decide +kernel
theorem dX4_sell_102 : decode cX4_sell 102 = .ok (.iload_n 1, 1) := by decide +kernel
theorem dX4_sell_103 : decode cX4_sell 103 = .ok (.iaload, 1) := by decide +kernel
theorem dX4_sell_104 : decode cX4_sell 104 = .ok (.iadd, 1) := by decide +kernel
theorem dX4_sell_105 : decode cX4_sell 105 = .ok (.istore 5, 2) := by decide +kernel
theorem dX4_sell_107 : decode cX4_sell 107 = .ok (.iload 4, 2) := by decide +kernel
theorem dX4_sell_109 : decode cX4_sell 109 = .ok (.iconst (-1), 1) := by decide +kernel
theorem dX4_sell_110 : decode cX4_sell 110 = .ok (.if_icmp .eq 58, 3) := by decide +kernel
theorem dX4_sell_113 : decode cX4_sell 113 = .ok (.aload_n 0, 1) := by decide +kernel
theorem dX4_sell_114 : decode cX4_sell 114 = .ok (.getfield 37, 3) := by decide +kernel
theorem dX4_sell_117 : decode cX4_sell 117 = .ok (.iload 5, 2) := by decide +kernel
theorem dX4_sell_119 : decode cX4_sell 119 = .ok (.iaload, 1) := by decide +kernel
theorem dX4_sell_120 : decode cX4_sell 120 = .ok (.iload_n 2, 1) := by decide +kernel
theorem dX4_sell_121 : decode cX4_sell 121 = .ok (.if_icmp .lt 47, 3) := by decide +kernel
theorem dX4_sell_124 : decode cX4_sell 124 = .ok (.aload_n 0, 1) := by decide +kernel
theorem dX4_sell_125 : decode cX4_sell 125 = .ok (.getfield 37, 3) := by decide +kernel
theorem dX4_sell_128 : decode cX4_sell 128 = .ok (.iload 5, 2) := by decide +kernel
theorem dX4_sell_130 : decode cX4_sell 130 = .ok (.iaload, 1) := by decide +kernel
theorem dX4_sell_131 : decode cX4_sell 131 = .ok (.istore 6, 2) := by decide +kernel
theorem dX4_sell_133 : decode cX4_sell 133 = .ok (.aload_n 0, 1) := by decide +kernel
theorem dX4_sell_134 : decode cX4_sell 134 = .ok (.getfield 7, 3) := by decide +kernel
theorem dX4_sell_137 : decode cX4_sell 137 = .ok (.aload_n 0, 1) := by decide +kernel
theorem dX4_sell_138 : decode cX4_sell 138 = .ok (.getfield 16, 3) := by decide +kernel
theorem dX4_sell_141 : decode cX4_sell 141 = .ok (.iload_n 1, 1) := by decide +kernel
theorem dX4_sell_142 : decode cX4_sell 142 = .ok (.iaload, 1) := by decide +kernel
theorem dX4_sell_143 : decode cX4_sell 143 = .ok (.dup2, 1) := by decide +kernel
theorem dX4_sell_144 : decode cX4_sell 144 = .ok (.iaload, 1) := by decide +kernel
theorem dX4_sell_145 : decode cX4_sell 145 = .ok (.iload 6, 2) := by decide +kernel
theorem dX4_sell_147 : decode cX4_sell 147 = .ok (.iadd, 1) := by decide +kernel
theorem dX4_sell_148 : decode cX4_sell 148 = .ok (.iastore, 1) := by decide +kernel
theorem dX4_sell_149 : decode cX4_sell 149 = .ok (.aload_n 0, 1) := by decide +kernel
theorem dX4_sell_150 : decode cX4_sell 150 = .ok (.getfield 16, 3) := by decide +kernel
theorem dX4_sell_153 : decode cX4_sell 153 = .ok (.iload_n 1, 1) := by decide +kernel
theorem dX4_sell_154 : decode cX4_sell 154 = .ok (.iload 4, 2) := by decide +kernel
theorem dX4_sell_156 : decode cX4_sell 156 = .ok (.iastore, 1) := by decide +kernel
theorem dX4_sell_157 : decode cX4_sell 157 = .ok (.aload_n 0, 1) := by decide +kernel
theorem dX4_sell_158 : decode cX4_sell 158 = .ok (.getfield 37, 3) := by decide +kernel
theorem dX4_sell_161 : decode cX4_sell 161 = .ok (.iload 5, 2) := by decide +kernel
theorem dX4_sell_163 : decode cX4_sell 163 = .ok (.iconst 0, 1) := by decide +kernel
theorem dX4_sell_164 : decode cX4_sell 164 = .ok (.iastore, 1) := by decide +kernel
theorem dX4_sell_165 : decode cX4_sell 165 = .ok (.iload 6, 2) := by decide +kernel
theorem dX4_sell_167 : decode cX4_sell 167 = .ok (.ireturn, 1) := by decide +kernel
theorem dX4_sell_168 : decode cX4_sell 168 = .ok (.aload_n 0, 1) := by decide +kernel
theorem dX4_sell_169 : decode cX4_sell 169 = .ok (.getfield 19, 3) := by decide +kernel
theorem dX4_sell_172 : decode cX4_sell 172 = .ok (.iload_n 1, 1) := by decide +kernel
theorem dX4_sell_173 : decode cX4_sell 173 = .ok (.iconst 1, 1) := by decide +kernel
theorem dX4_sell_174 : decode cX4_sell 174 = .ok (.iastore, 1) := by decide +kernel
theorem dX4_sell_175 : decode cX4_sell 175 = .ok (.aload_n 0, 1) := by decide +kernel
theorem dX4_sell_176 : decode cX4_sell 176 = .ok (.getfield 22, 3) := by decide +kernel
theorem dX4_sell_179 : decode cX4_sell 179 = .ok (.iload_n 1, 1) := by decide +kernel
theorem dX4_sell_180 : decode cX4_sell 180 = .ok (.iload_n 2, 1) := by decide +kernel
theorem dX4_sell_181 : decode cX4_sell 181 = .ok (.iastore, 1) := by decide +kernel
theorem dX4_sell_182 : decode cX4_sell 182 = .ok (.aload_n 0, 1) := by decide +kernel
theorem dX4_sell_183 : decode cX4_sell 183 = .ok (.getfield 25, 3) := by decide +kernel
theorem dX4_sell_186 : decode cX4_sell 186 = .ok (.iload_n 1, 1) := by decide +kernel
theorem dX4_sell_187 : decode cX4_sell 187 = .ok (.aload_n 0, 1) := by decide +kernel
theorem dX4_sell_188 : decode cX4_sell 188 = .ok (.getfield 93, 3) := by decide +kernel
theorem dX4_sell_191 : decode cX4_sell 191 = .ok (.iastore, 1) := by decide +kernel
theorem dX4_sell_192 : decode cX4_sell 192 = .ok (.iconst 0, 1) := by decide +kernel
theorem dX4_sell_193 : decode cX4_sell 193 = .ok (.ireturn, 1) := by decide +kernel
theorem dX4_bid_0 : decode cX4_bid 0 = .ok (.iload_n 1, 1) := by decide +kernel
theorem dX4_bid_1 : decode cX4_bid 1 = .ok (.invokestatic 64, 3) := by decide +kernel
theorem dX4_bid_4 : decode cX4_bid 4 = .ok (.ifCond .eq 14, 3) := by decide +kernel
theorem dX4_bid_7 : decode cX4_bid 7 = .ok (.iload_n 2, 1) := by decide +kernel
theorem dX4_bid_8 : decode cX4_bid 8 = .ok (.invokestatic 68, 3) := by decide +kernel
theorem dX4_bid_11 : decode cX4_bid 11 = .ok (.ifCond .eq 7, 3) := by decide +kernel
theorem dX4_bid_14 : decode cX4_bid 14 = .ok (.iconst 1, 1) := by decide +kernel
theorem dX4_bid_15 : decode cX4_bid 15 = .ok (.goto 4, 3) := by decide +kernel
theorem dX4_bid_18 : decode cX4_bid 18 = .ok (.iconst 0, 1) := by decide +kernel
theorem dX4_bid_19 : decode cX4_bid 19 = .ok (.istore 4, 2) := by decide +kernel
theorem dX4_bid_21 : decode cX4_bid 21 = .ok (.aload_n 0, 1) := by decide +kernel
theorem dX4_bid_22 : decode cX4_bid 22 = .ok (.iload 4, 2) := by decide +kernel
theorem dX4_bid_24 : decode cX4_bid 24 = .ok (.iload_n 3, 1) := by decide +kernel
theorem dX4_bid_25 : decode cX4_bid 25 = .ok (.iconst 1, 1) := by decide +kernel
theorem dX4_bid_26 : decode cX4_bid 26 = .ok (.sipush 1000, 3) := by decide +kernel
theorem dX4_bid_29 : decode cX4_bid 29 = .ok (.invokestatic 54, 3) := by decide +kernel
theorem dX4_bid_32 : decode cX4_bid 32 = .ok (.iload 4, 2) := by decide +kernel
theorem dX4_bid_34 : decode cX4_bid 34 = .ok (.ifCond .eq 39, 3) := by decide +kernel
theorem dX4_bid_37 : decode cX4_bid 37 = .ok (.aload_n 0, 1) := by decide +kernel
theorem dX4_bid_38 : decode cX4_bid 38 = .ok (.getfield 7, 3) := by decide +kernel
theorem dX4_bid_41 : decode cX4_bid 41 = .ok (.iload_n 1, 1) := by decide +kernel
theorem dX4_bid_42 : decode cX4_bid 42 = .ok (.iaload, 1) := by decide +kernel
theorem dX4_bid_43 : decode cX4_bid 43 = .ok (.iload_n 3, 1) := by decide +kernel
theorem dX4_bid_44 : decode cX4_bid 44 = .ok (.if_icmp .lt 29, 3) := by decide +kernel
theorem dX4_bid_47 : decode cX4_bid 47 = .ok (.aload_n 0, 1) := by decide +kernel
theorem dX4_bid_48 : decode cX4_bid 48 = .ok (.getfield 37, 3) := by decide +kernel
theorem dX4_bid_51 : decode cX4_bid 51 = .ok (.bipush 8, 2) := by decide +kernel
theorem dX4_bid_53 : decode cX4_bid 53 = .ok (.iload_n 1, 1) := by decide +kernel
theorem dX4_bid_54 : decode cX4_bid 54 = .ok (.imul, 1) := by decide +kernel
theorem dX4_bid_55 : decode cX4_bid 55 = .ok (.iload_n 2, 1) := by decide +kernel
theorem dX4_bid_56 : decode cX4_bid 56 = .ok (.iadd, 1) := by decide +kernel
theorem dX4_bid_57 : decode cX4_bid 57 = .ok (.iaload, 1) := by decide +kernel
theorem dX4_bid_58 : decode cX4_bid 58 = .ok (.ifCond .ne 15, 3) := by decide +kernel
theorem dX4_bid_61 : decode cX4_bid 61 = .ok (.aload_n 0, 1) := by decide +kernel
theorem dX4_bid_62 : decode cX4_bid 62 = .ok (.iload_n 2, 1) := by decide +kernel
theorem dX4_bid_63 : decode cX4_bid 63 = .ok (.invokevirtual 87, 3) := by decide +kernel
theorem dX4_bid_66 : decode cX4_bid 66 = .ok (.ifCond .ne 7, 3) := by decide +kernel
theorem dX4_bid_69 : decode cX4_bid 69 = .ok (.iconst 1, 1) := by decide +kernel
theorem dX4_bid_70 : decode cX4_bid 70 = .ok (.goto 4, 3) := by decide +kernel
theorem dX4_bid_73 : decode cX4_bid 73 = .ok (.iconst 0, 1) := by decide +kernel
theorem dX4_bid_74 : decode cX4_bid 74 = .ok (.invokevirtual 90, 3) := by decide +kernel
theorem dX4_bid_77 : decode cX4_bid 77 = .ok (.ifCond .ne 5, 3) := by decide +kernel
theorem dX4_bid_80 : decode cX4_bid 80 = .ok (.iconst 0, 1) := by decide +kernel
theorem dX4_bid_81 : decode cX4_bid 81 = .ok (.ireturn, 1) := by decide +kernel
theorem dX4_bid_82 : decode cX4_bid 82 = .ok (.aload_n 0, 1) := by decide +kernel
theorem dX4_bid_83 : decode cX4_bid 83 = .ok (.dup, 1) := by decide +kernel
theorem dX4_bid_84 : decode cX4_bid 84 = .ok (.getfield 93, 3) := by decide +kernel
theorem dX4_bid_87 : decode cX4_bid 87 = .ok (.iconst 1, 1) := by decide +kernel
theorem dX4_bid_88 : decode cX4_bid 88 = .ok (.iadd, 1) := by decide +kernel
theorem dX4_bid_89 : decode cX4_bid 89 = .ok (.putfield 93, 3) := by decide +kernel
theorem dX4_bid_92 : decode cX4_bid 92 = .ok (.aload_n 0, 1) := by decide +kernel
theorem dX4_bid_93 : decode cX4_bid 93 = .ok (.iload_n 2, 1) := by decide +kernel
theorem dX4_bid_94 : decode cX4_bid 94 = .ok (.iload_n 1, 1) := by decide +kernel
theorem dX4_bid_95 : decode cX4_bid 95 = .ok (.invokevirtual 100, 3) := by decide +kernel
theorem dX4_bid_98 : decode cX4_bid 98 = .ok (.istore 5, 2) := by decide +kernel
theorem dX4_bid_100 : decode cX4_bid 100 = .ok (.iload 5, 2) := by decide +kernel
theorem dX4_bid_102 : decode cX4_bid 102 = .ok (.iconst (-1), 1) := by decide +kernel
theorem dX4_bid_103 : decode cX4_bid 103 = .ok (.if_icmp .eq 71, 3) := by decide +kernel
theorem dX4_bid_106 : decode cX4_bid 106 = .ok (.aload_n 0, 1) := by decide +kernel
theorem dX4_bid_107 : decode cX4_bid 107 = .ok (.getfield 22, 3) := by decide +kernel
theorem dX4_bid_110 : decode cX4_bid 110 = .ok (.iload 5, 2) := by decide +kernel
theorem dX4_bid_112 : decode cX4_bid 112 = .ok (.iaload, 1) := by decide +kernel
theorem dX4_bid_113 : decode cX4_bid 113 = .ok (.iload_n 3, 1) := by decide +kernel
theorem dX4_bid_114 : decode cX4_bid 114 = .ok (.if_icmp .gt 60, 3) := by decide +kernel
theorem dX4_bid_117 : decode cX4_bid 117 = .ok (.aload_n 0, 1) := by decide +kernel
theorem dX4_bid_118 : decode cX4_bid 118 = .ok (.getfield 7, 3) := by decide +kernel
theorem dX4_bid_121 : decode cX4_bid 121 = .ok (.iload_n 1, 1) := by decide +kernel
theorem dX4_bid_122 : decode cX4_bid 122 = .ok (.dup2, 1) := by decide +kernel
theorem dX4_bid_123 : decode cX4_bid 123 = .ok (.iaload, 1) := by decide +kernel
theorem dX4_bid_124 : decode cX4_bid 124 = .ok (.aload_n 0, 1) := by decide +kernel
theorem dX4_bid_125 : decode cX4_bid 125 = .ok (.getfield 22, 3) := by decide +kernel
theorem dX4_bid_128 : decode cX4_bid 128 = .ok (.iload 5, 2) := by decide +kernel
theorem dX4_bid_130 : decode cX4_bid 130 = .ok (.iaload, 1) := by decide +kernel
theorem dX4_bid_131 : decode cX4_bid 131 = .ok (.isub, 1) := by decide +kernel
theorem dX4_bid_132 : decode cX4_bid 132 = .ok (.iastore, 1) := by decide +kernel
theorem dX4_bid_133 : decode cX4_bid 133 = .ok (.aload_n 0, 1) := by decide +kernel
theorem dX4_bid_134 : decode cX4_bid 134 = .ok (.getfield 7, 3) := by decide +kernel
theorem dX4_bid_137 : decode cX4_bid 137 = .ok (.aload_n 0, 1) := by decide +kernel
theorem dX4_bid_138 : decode cX4_bid 138 = .ok (.getfield 16, 3) := by decide +kernel
theorem dX4_bid_141 : decode cX4_bid 141 = .ok (.iload 5, 2) := by decide +kernel
theorem dX4_bid_143 : decode cX4_bid 143 = .ok (.iaload, 1) := by decide +kernel
theorem dX4_bid_144 : decode cX4_bid 144 = .ok (.dup2, 1) := by decide +kernel
theorem dX4_bid_145 : decode cX4_bid 145 = .ok (.iaload, 1) := by decide +kernel
theorem dX4_bid_146 : decode cX4_bid 146 = .ok (.aload_n 0, 1) := by decide +kernel
theorem dX4_bid_147 : decode cX4_bid 147 = .ok (.getfield 22, 3) := by decide +kernel
theorem dX4_bid_150 : decode cX4_bid 150 = .ok (.iload 5, 2) := by decide +kernel
theorem dX4_bid_152 : decode cX4_bid 152 = .ok (.iaload, 1) := by decide +kernel
theorem dX4_bid_153 : decode cX4_bid 153 = .ok (.iadd, 1) := by decide +kernel
theorem dX4_bid_154 : decode cX4_bid 154 = .ok (.iastore, 1) := by decide +kernel
theorem dX4_bid_155 : decode cX4_bid 155 = .ok (.aload_n 0, 1) := by decide +kernel
theorem dX4_bid_156 : decode cX4_bid 156 = .ok (.getfield 16, 3) := by decide +kernel
theorem dX4_bid_159 : decode cX4_bid 159 = .ok (.iload 5, 2) := by decide +kernel
theorem dX4_bid_161 : decode cX4_bid 161 = .ok (.iload_n 1, 1) := by decide +kernel
theorem dX4_bid_162 : decode cX4_bid 162 = .ok (.iastore, 1) := by decide +kernel
theorem dX4_bid_163 : decode cX4_bid 163 = .ok (.aload_n 0, 1) := by decide +kernel
theorem dX4_bid_164 : decode cX4_bid 164 = .ok (.getfield 19, 3) := by decide +kernel
theorem dX4_bid_167 : decode cX4_bid 167 = .ok (.iload 5, 2) := by decide +kernel
theorem dX4_bid_169 : decode cX4_bid 169 = .ok (.iconst 0, 1) := by decide +kernel
theorem dX4_bid_170 : decode cX4_bid 170 = .ok (.iastore, 1) := by decide +kernel
theorem dX4_bid_171 : decode cX4_bid 171 = .ok (.iload 5, 2) := by decide +kernel
theorem dX4_bid_173 : decode cX4_bid 173 = .ok (.ireturn, 1) := by decide +kernel
theorem dX4_bid_174 : decode cX4_bid 174 = .ok (.aload_n 0, 1) := by decide +kernel
theorem dX4_bid_175 : decode cX4_bid 175 = .ok (.getfield 7, 3) := by decide +kernel
theorem dX4_bid_178 : decode cX4_bid 178 = .ok (.iload_n 1, 1) := by decide +kernel
theorem dX4_bid_179 : decode cX4_bid 179 = .ok (.dup2, 1) := by decide +kernel
theorem dX4_bid_180 : decode cX4_bid 180 = .ok (.iaload, 1) := by decide +kernel
theorem dX4_bid_181 : decode cX4_bid 181 = .ok (.iload_n 3, 1) := by decide +kernel
theorem dX4_bid_182 : decode cX4_bid 182 = .ok (.isub, 1) := by decide +kernel
theorem dX4_bid_183 : decode cX4_bid 183 = .ok (.iastore, 1) := by decide +kernel
theorem dX4_bid_184 : decode cX4_bid 184 = .ok (.aload_n 0, 1) := by decide +kernel
theorem dX4_bid_185 : decode cX4_bid 185 = .ok (.getfield 37, 3) := by decide +kernel
theorem dX4_bid_188 : decode cX4_bid 188 = .ok (.bipush 8, 2) := by decide +kernel
theorem dX4_bid_190 : decode cX4_bid 190 = .ok (.iload_n 1, 1) := by decide +kernel
theorem dX4_bid_191 : decode cX4_bid 191 = .ok (.imul, 1) := by decide +kernel
theorem dX4_bid_192 : decode cX4_bid 192 = .ok (.iload_n 2, 1) := by decide +kernel
theorem dX4_bid_193 : decode cX4_bid 193 = .ok (.iadd, 1) := by decide +kernel
theorem dX4_bid_194 : decode cX4_bid 194 = .ok (.iload_n 3, 1) := by decide +kernel
theorem dX4_bid_195 : decode cX4_bid 195 = .ok (.iastore, 1) := by decide +kernel
theorem dX4_bid_196 : decode cX4_bid 196 = .ok (.aload_n 0, 1) := by decide +kernel
theorem dX4_bid_197 : decode cX4_bid 197 = .ok (.getfield 40, 3) := by decide +kernel
theorem dX4_bid_200 : decode cX4_bid 200 = .ok (.bipush 8, 2) := by decide +kernel
theorem dX4_bid_202 : decode cX4_bid 202 = .ok (.iload_n 1, 1) := by decide +kernel
theorem dX4_bid_203 : decode cX4_bid 203 = .ok (.imul, 1) := by decide +kernel
theorem dX4_bid_204 : decode cX4_bid 204 = .ok (.iload_n 2, 1) := by decide +kernel
theorem dX4_bid_205 : decode cX4_bid 205 = .ok (.iadd, 1) := by decide +kernel
theorem dX4_bid_206 : decode cX4_bid 206 = .ok (.aload_n 0, 1) := by decide +kernel
theorem dX4_bid_207 : decode cX4_bid 207 = .ok (.getfield 93, 3) := by decide +kernel
theorem dX4_bid_210 : decode cX4_bid 210 = .ok (.iastore, 1) := by decide +kernel
theorem dX4_bid_211 : decode cX4_bid 211 = .ok (.iconst (-1), 1) := by decide +kernel
theorem dX4_bid_212 : decode cX4_bid 212 = .ok (.ireturn, 1) := by decide +kernel
theorem dX4_cancelSale_0 : decode cX4_cancelSale 0 = .ok (.aload_n 0, 1) := by decide +kernel
theorem dX4_cancelSale_1 : decode cX4_cancelSale 1 = .ok (.iload_n 1, 1) := by decide +kernel
theorem dX4_cancelSale_2 : decode cX4_cancelSale 2 = .ok (.invokevirtual 75, 3) := by decide +kernel
theorem dX4_cancelSale_5 : decode cX4_cancelSale 5 = .ok (.istore_n 2, 1) := by decide +kernel
theorem dX4_cancelSale_6 : decode cX4_cancelSale 6 = .ok (.aload_n 0, 1) := by decide +kernel
theorem dX4_cancelSale_7 : decode cX4_cancelSale 7 = .ok (.iload_n 2, 1) := by decide +kernel
theorem dX4_cancelSale_8 : decode cX4_cancelSale 8 = .ok (.iload_n 2, 1) := by decide +kernel
theorem dX4_cancelSale_9 : decode cX4_cancelSale 9 = .ok (.ifCond .eq 17, 3) := by decide +kernel
theorem dX4_cancelSale_12 : decode cX4_cancelSale 12 = .ok (.aload_n 0, 1) := by decide +kernel
theorem dX4_cancelSale_13 : decode cX4_cancelSale 13 = .ok (.getfield 19, 3) := by decide +kernel
theorem dX4_cancelSale_16 : decode cX4_cancelSale 16 = .ok (.iload_n 1, 1) := by decide +kernel
theorem dX4_cancelSale_17 : decode cX4_cancelSale 17 = .ok (.iaload, 1) := by decide +kernel
theorem dX4_cancelSale_18 : decode cX4_cancelSale 18 = .ok (.iconst 1, 1) := by decide +kernel
theorem dX4_cancelSale_19 : decode cX4_cancelSale 19 = .ok (.if_icmp .ne 7, 3) := by decide +kernel
theorem dX4_cancelSale_22 : decode cX4_cancelSale 22 = .ok (.iconst 1, 1) := by decide +kernel
theorem dX4_cancelSale_23 : decode cX4_cancelSale 23 = .ok (.goto 4, 3) := by decide +kernel
theorem dX4_cancelSale_26 : decode cX4_cancelSale 26 = .ok (.iconst 0, 1) := by decide +kernel
theorem dX4_cancelSale_27 : decode cX4_cancelSale 27 = .ok (.invokevirtual 71, 3) := by decide +kernel
theorem dX4_cancelSale_30 : decode cX4_cancelSale 30 = .ok (.ifCond .ne 5, 3) := by decide +kernel
theorem dX4_cancelSale_33 : decode cX4_cancelSale 33 = .ok (.iconst 0, 1) := by decide +kernel
theorem dX4_cancelSale_34 : decode cX4_cancelSale 34 = .ok (.ireturn, 1) := by decide +kernel
theorem dX4_cancelSale_35 : decode cX4_cancelSale 35 = .ok (.aload_n 0, 1) := by decide +kernel
theorem dX4_cancelSale_36 : decode cX4_cancelSale 36 = .ok (.getfield 19, 3) := by decide +kernel
theorem dX4_cancelSale_39 : decode cX4_cancelSale 39 = .ok (.iload_n 1, 1) := by decide +kernel
theorem dX4_cancelSale_40 : decode cX4_cancelSale 40 = .ok (.iconst 0, 1) := by decide +kernel
theorem dX4_cancelSale_41 : decode cX4_cancelSale 41 = .ok (.iastore, 1) := by decide +kernel
theorem dX4_cancelSale_42 : decode cX4_cancelSale 42 = .ok (.aload_n 0, 1) := by decide +kernel
theorem dX4_cancelSale_43 : decode cX4_cancelSale 43 = .ok (.getfield 22, 3) := by decide +kernel
theorem dX4_cancelSale_46 : decode cX4_cancelSale 46 = .ok (.iload_n 1, 1) := by decide +kernel
theorem dX4_cancelSale_47 : decode cX4_cancelSale 47 = .ok (.iaload, 1) := by decide +kernel
theorem dX4_cancelSale_48 : decode cX4_cancelSale 48 = .ok (.ireturn, 1) := by decide +kernel
theorem dX4_cancelBid_0 : decode cX4_cancelBid 0 = .ok (.iload_n 1, 1) := by decide +kernel
theorem dX4_cancelBid_1 : decode cX4_cancelBid 1 = .ok (.invokestatic 64, 3) := by decide +kernel
theorem dX4_cancelBid_4 : decode cX4_cancelBid 4 = .ok (.ifCond .eq 14, 3) := by decide +kernel
theorem dX4_cancelBid_7 : decode cX4_cancelBid 7 = .ok (.iload_n 2, 1) := by decide +kernel
theorem dX4_cancelBid_8 : decode cX4_cancelBid 8 = .ok (.invokestatic 68, 3) := by decide +kernel
theorem dX4_cancelBid_11 : decode cX4_cancelBid 11 = .ok (.ifCond .eq 7, 3) := by decide +kernel
theorem dX4_cancelBid_14 : decode cX4_cancelBid 14 = .ok (.iconst 1, 1) := by decide +kernel
theorem dX4_cancelBid_15 : decode cX4_cancelBid 15 = .ok (.goto 4, 3) := by decide +kernel
theorem dX4_cancelBid_18 : decode cX4_cancelBid 18 = .ok (.iconst 0, 1) := by decide +kernel
theorem dX4_cancelBid_19 : decode cX4_cancelBid 19 = .ok (.istore_n 3, 1) := by decide +kernel
theorem dX4_cancelBid_20 : decode cX4_cancelBid 20 = .ok (.aload_n 0, 1) := by decide +kernel
theorem dX4_cancelBid_21 : decode cX4_cancelBid 21 = .ok (.iload_n 3, 1) := by decide +kernel
theorem dX4_cancelBid_22 : decode cX4_cancelBid 22 = .ok (.iload_n 3, 1) := by decide +kernel
theorem dX4_cancelBid_23 : decode cX4_cancelBid 23 = .ok (.ifCond .eq 21, 3) := by decide +kernel
theorem dX4_cancelBid_26 : decode cX4_cancelBid 26 = .ok (.aload_n 0, 1) := by decide +kernel
theorem dX4_cancelBid_27 : decode cX4_cancelBid 27 = .ok (.getfield 37, 3) := by decide +kernel
theorem dX4_cancelBid_30 : decode cX4_cancelBid 30 = .ok (.bipush 8, 2) := by decide +kernel
theorem dX4_cancelBid_32 : decode cX4_cancelBid 32 = .ok (.iload_n 1, 1) := by decide +kernel
theorem dX4_cancelBid_33 : decode cX4_cancelBid 33 = .ok (.imul, 1) := by decide +kernel
theorem dX4_cancelBid_34 : decode cX4_cancelBid 34 = .ok (.iload_n 2, 1) := by decide +kernel
theorem dX4_cancelBid_35 : decode cX4_cancelBid 35 = .ok (.iadd, 1) := by decide +kernel
theorem dX4_cancelBid_36 : decode cX4_cancelBid 36 = .ok (.iaload, 1) := by decide +kernel
theorem dX4_cancelBid_37 : decode cX4_cancelBid 37 = .ok (.ifCond .le 7, 3) := by decide +kernel
theorem dX4_cancelBid_40 : decode cX4_cancelBid 40 = .ok (.iconst 1, 1) := by decide +kernel
theorem dX4_cancelBid_41 : decode cX4_cancelBid 41 = .ok (.goto 4, 3) := by decide +kernel
theorem dX4_cancelBid_44 : decode cX4_cancelBid 44 = .ok (.iconst 0, 1) := by decide +kernel
theorem dX4_cancelBid_45 : decode cX4_cancelBid 45 = .ok (.invokevirtual 71, 3) := by decide +kernel
theorem dX4_cancelBid_48 : decode cX4_cancelBid 48 = .ok (.ifCond .ne 5, 3) := by decide +kernel
theorem dX4_cancelBid_51 : decode cX4_cancelBid 51 = .ok (.iconst 0, 1) := by decide +kernel
theorem dX4_cancelBid_52 : decode cX4_cancelBid 52 = .ok (.ireturn, 1) := by decide +kernel
theorem dX4_cancelBid_53 : decode cX4_cancelBid 53 = .ok (.aload_n 0, 1) := by decide +kernel
theorem dX4_cancelBid_54 : decode cX4_cancelBid 54 = .ok (.getfield 37, 3) := by decide +kernel
theorem dX4_cancelBid_57 : decode cX4_cancelBid 57 = .ok (.bipush 8, 2) := by decide +kernel
theorem dX4_cancelBid_59 : decode cX4_cancelBid 59 = .ok (.iload_n 1, 1) := by decide +kernel
theorem dX4_cancelBid_60 : decode cX4_cancelBid 60 = .ok (.imul, 1) := by decide +kernel
theorem dX4_cancelBid_61 : decode cX4_cancelBid 61 = .ok (.iload_n 2, 1) := by decide +kernel
theorem dX4_cancelBid_62 : decode cX4_cancelBid 62 = .ok (.iadd, 1) := by decide +kernel
theorem dX4_cancelBid_63 : decode cX4_cancelBid 63 = .ok (.iaload, 1) := by decide +kernel
theorem dX4_cancelBid_64 : decode cX4_cancelBid 64 = .ok (.istore 4, 2) := by decide +kernel
theorem dX4_cancelBid_66 : decode cX4_cancelBid 66 = .ok (.aload_n 0, 1) := by decide +kernel
theorem dX4_cancelBid_67 : decode cX4_cancelBid 67 = .ok (.getfield 7, 3) := by decide +kernel
theorem dX4_cancelBid_70 : decode cX4_cancelBid 70 = .ok (.iload_n 1, 1) := by decide +kernel
theorem dX4_cancelBid_71 : decode cX4_cancelBid 71 = .ok (.dup2, 1) := by decide +kernel
theorem dX4_cancelBid_72 : decode cX4_cancelBid 72 = .ok (.iaload, 1) := by decide +kernel
theorem dX4_cancelBid_73 : decode cX4_cancelBid 73 = .ok (.iload 4, 2) := by decide +kernel
theorem dX4_cancelBid_75 : decode cX4_cancelBid 75 = .ok (.iadd, 1) := by decide +kernel
theorem dX4_cancelBid_76 : decode cX4_cancelBid 76 = .ok (.iastore, 1) := by decide +kernel
theorem dX4_cancelBid_77 : decode cX4_cancelBid 77 = .ok (.aload_n 0, 1) := by decide +kernel
theorem dX4_cancelBid_78 : decode cX4_cancelBid 78 = .ok (.getfield 37, 3) := by decide +kernel
theorem dX4_cancelBid_81 : decode cX4_cancelBid 81 = .ok (.bipush 8, 2) := by decide +kernel
theorem dX4_cancelBid_83 : decode cX4_cancelBid 83 = .ok (.iload_n 1, 1) := by decide +kernel
theorem dX4_cancelBid_84 : decode cX4_cancelBid 84 = .ok (.imul, 1) := by decide +kernel
theorem dX4_cancelBid_85 : decode cX4_cancelBid 85 = .ok (.iload_n 2, 1) := by decide +kernel
theorem dX4_cancelBid_86 : decode cX4_cancelBid 86 = .ok (.iadd, 1) := by decide +kernel
theorem dX4_cancelBid_87 : decode cX4_cancelBid 87 = .ok (.iconst 0, 1) := by decide +kernel
theorem dX4_cancelBid_88 : decode cX4_cancelBid 88 = .ok (.iastore, 1) := by decide +kernel
theorem dX4_cancelBid_89 : decode cX4_cancelBid 89 = .ok (.iload 4, 2) := by decide +kernel
theorem dX4_cancelBid_91 : decode cX4_cancelBid 91 = .ok (.ireturn, 1) := by decide +kernel
theorem dX4_leastSale_0 : decode cX4_leastSale 0 = .ok (.aload_n 0, 1) := by decide +kernel
theorem dX4_leastSale_1 : decode cX4_leastSale 1 = .ok (.iload_n 1, 1) := by decide +kernel
theorem dX4_leastSale_2 : decode cX4_leastSale 2 = .ok (.invokestatic 68, 3) := by decide +kernel
theorem dX4_leastSale_5 : decode cX4_leastSale 5 = .ok (.invokevirtual 78, 3) := by decide +kernel
theorem dX4_leastSale_8 : decode cX4_leastSale 8 = .ok (.ifCond .ne 5, 3) := by decide +kernel
theorem dX4_leastSale_11 : decode cX4_leastSale 11 = .ok (.iconst 0, 1) := by decide +kernel
theorem dX4_leastSale_12 : decode cX4_leastSale 12 = .ok (.ireturn, 1) := by decide +kernel
theorem dX4_leastSale_13 : decode cX4_leastSale 13 = .ok (.aload_n 0, 1) := by decide +kernel
theorem dX4_leastSale_14 : decode cX4_leastSale 14 = .ok (.iload_n 1, 1) := by decide +kernel
theorem dX4_leastSale_15 : decode cX4_leastSale 15 = .ok (.iconst (-1), 1) := by decide +kernel
theorem dX4_leastSale_16 : decode cX4_leastSale 16 = .ok (.invokevirtual 100, 3) := by decide +kernel
theorem dX4_leastSale_19 : decode cX4_leastSale 19 = .ok (.istore_n 2, 1) := by decide +kernel
theorem dX4_leastSale_20 : decode cX4_leastSale 20 = .ok (.iload_n 2, 1) := by decide +kernel
theorem dX4_leastSale_21 : decode cX4_leastSale 21 = .ok (.iconst (-1), 1) := by decide +kernel
theorem dX4_leastSale_22 : decode cX4_leastSale 22 = .ok (.if_icmp .ne 7, 3) := by decide +kernel
theorem dX4_leastSale_25 : decode cX4_leastSale 25 = .ok (.iconst (-1), 1) := by decide +kernel
theorem dX4_leastSale_26 : decode cX4_leastSale 26 = .ok (.goto 9, 3) := by decide +kernel
theorem dX4_leastSale_29 : decode cX4_leastSale 29 = .ok (.aload_n 0, 1) := by decide +kernel
theorem dX4_leastSale_30 : decode cX4_leastSale 30 = .ok (.getfield 22, 3) := by decide +kernel
theorem dX4_leastSale_33 : decode cX4_leastSale 33 = .ok (.iload_n 2, 1) := by decide +kernel
theorem dX4_leastSale_34 : decode cX4_leastSale 34 = .ok (.iaload, 1) := by decide +kernel
theorem dX4_leastSale_35 : decode cX4_leastSale 35 = .ok (.ireturn, 1) := by decide +kernel
theorem dX4_greatestBid_0 : decode cX4_greatestBid 0 = .ok (.aload_n 0, 1) := by decide +kernel
theorem dX4_greatestBid_1 : decode cX4_greatestBid 1 = .ok (.iload_n 1, 1) := by decide +kernel
theorem dX4_greatestBid_2 : decode cX4_greatestBid 2 = .ok (.invokestatic 68, 3) := by decide +kernel
theorem dX4_greatestBid_5 : decode cX4_greatestBid 5 = .ok (.invokevirtual 78, 3) := by decide +kernel
theorem dX4_greatestBid_8 : decode cX4_greatestBid 8 = .ok (.ifCond .ne 5, 3) := by decide +kernel
theorem dX4_greatestBid_11 : decode cX4_greatestBid 11 = .ok (.iconst 0, 1) := by decide +kernel
theorem dX4_greatestBid_12 : decode cX4_greatestBid 12 = .ok (.ireturn, 1) := by decide +kernel
theorem dX4_greatestBid_13 : decode cX4_greatestBid 13 = .ok (.aload_n 0, 1) := by decide +kernel
theorem dX4_greatestBid_14 : decode cX4_greatestBid 14 = .ok (.iload_n 1, 1) := by decide +kernel
theorem dX4_greatestBid_15 : decode cX4_greatestBid 15 = .ok (.iconst (-1), 1) := by decide +kernel
theorem dX4_greatestBid_16 : decode cX4_greatestBid 16 = .ok (.invokevirtual 96, 3) := by decide +kernel
theorem dX4_greatestBid_19 : decode cX4_greatestBid 19 = .ok (.istore_n 2, 1) := by decide +kernel
theorem dX4_greatestBid_20 : decode cX4_greatestBid 20 = .ok (.iload_n 2, 1) := by decide +kernel
theorem dX4_greatestBid_21 : decode cX4_greatestBid 21 = .ok (.iconst (-1), 1) := by decide +kernel
theorem dX4_greatestBid_22 : decode cX4_greatestBid 22 = .ok (.if_icmp .ne 7, 3) := by decide +kernel
theorem dX4_greatestBid_25 : decode cX4_greatestBid 25 = .ok (.iconst (-1), 1) := by decide +kernel
theorem dX4_greatestBid_26 : decode cX4_greatestBid 26 = .ok (.goto 14, 3) := by decide +kernel
theorem dX4_greatestBid_29 : decode cX4_greatestBid 29 = .ok (.aload_n 0, 1) := by decide +kernel
theorem dX4_greatestBid_30 : decode cX4_greatestBid 30 = .ok (.getfield 37, 3) := by decide +kernel
theorem dX4_greatestBid_33 : decode cX4_greatestBid 33 = .ok (.bipush 8, 2) := by decide +kernel
theorem dX4_greatestBid_35 : decode cX4_greatestBid 35 = .ok (.iload_n 2, 1) := by decide +kernel
theorem dX4_greatestBid_36 : decode cX4_greatestBid 36 = .ok (.imul, 1) := by decide +kernel
theorem dX4_greatestBid_37 : decode cX4_greatestBid 37 = .ok (.iload_n 1, 1) := by decide +kernel
theorem dX4_greatestBid_38 : decode cX4_greatestBid 38 = .ok (.iadd, 1) := by decide +kernel
theorem dX4_greatestBid_39 : decode cX4_greatestBid 39 = .ok (.iaload, 1) := by decide +kernel
theorem dX4_greatestBid_40 : decode cX4_greatestBid 40 = .ok (.ireturn, 1) := by decide +kernel
theorem dX4_swap_0 : decode cX4_swap 0 = .ok (.aload_n 0, 1) := by decide +kernel
theorem dX4_swap_1 : decode cX4_swap 1 = .ok (.iload_n 1, 1) := by decide +kernel
theorem dX4_swap_2 : decode cX4_swap 2 = .ok (.invokevirtual 75, 3) := by decide +kernel
theorem dX4_swap_5 : decode cX4_swap 5 = .ok (.ifCond .eq 15, 3) := by decide +kernel
theorem dX4_swap_8 : decode cX4_swap 8 = .ok (.aload_n 0, 1) := by decide +kernel
theorem dX4_swap_9 : decode cX4_swap 9 = .ok (.iload_n 2, 1) := by decide +kernel
theorem dX4_swap_10 : decode cX4_swap 10 = .ok (.invokevirtual 75, 3) := by decide +kernel
theorem dX4_swap_13 : decode cX4_swap 13 = .ok (.ifCond .eq 7, 3) := by decide +kernel
theorem dX4_swap_16 : decode cX4_swap 16 = .ok (.iconst 1, 1) := by decide +kernel
theorem dX4_swap_17 : decode cX4_swap 17 = .ok (.goto 4, 3) := by decide +kernel
theorem dX4_swap_20 : decode cX4_swap 20 = .ok (.iconst 0, 1) := by decide +kernel
theorem dX4_swap_21 : decode cX4_swap 21 = .ok (.istore_n 3, 1) := by decide +kernel
theorem dX4_swap_22 : decode cX4_swap 22 = .ok (.aload_n 0, 1) := by decide +kernel
theorem dX4_swap_23 : decode cX4_swap 23 = .ok (.iload_n 3, 1) := by decide +kernel
theorem dX4_swap_24 : decode cX4_swap 24 = .ok (.iload_n 3, 1) := by decide +kernel
theorem dX4_swap_25 : decode cX4_swap 25 = .ok (.ifCond .eq 22, 3) := by decide +kernel
theorem dX4_swap_28 : decode cX4_swap 28 = .ok (.aload_n 0, 1) := by decide +kernel
theorem dX4_swap_29 : decode cX4_swap 29 = .ok (.getfield 16, 3) := by decide +kernel
theorem dX4_swap_32 : decode cX4_swap 32 = .ok (.iload_n 1, 1) := by decide +kernel
theorem dX4_swap_33 : decode cX4_swap 33 = .ok (.iaload, 1) := by decide +kernel
theorem dX4_swap_34 : decode cX4_swap 34 = .ok (.aload_n 0, 1) := by decide +kernel
theorem dX4_swap_35 : decode cX4_swap 35 = .ok (.getfield 16, 3) := by decide +kernel
theorem dX4_swap_38 : decode cX4_swap 38 = .ok (.iload_n 2, 1) := by decide +kernel
theorem dX4_swap_39 : decode cX4_swap 39 = .ok (.iaload, 1) := by decide +kernel
theorem dX4_swap_40 : decode cX4_swap 40 = .ok (.if_icmp .eq 7, 3) := by decide +kernel
theorem dX4_swap_43 : decode cX4_swap 43 = .ok (.iconst 1, 1) := by decide +kernel
theorem dX4_swap_44 : decode cX4_swap 44 = .ok (.goto 4, 3) := by decide +kernel
theorem dX4_swap_47 : decode cX4_swap 47 = .ok (.iconst 0, 1) := by decide +kernel
theorem dX4_swap_48 : decode cX4_swap 48 = .ok (.iload_n 3, 1) := by decide +kernel
theorem dX4_swap_49 : decode cX4_swap 49 = .ok (.ifCond .eq 16, 3) := by decide +kernel
theorem dX4_swap_52 : decode cX4_swap 52 = .ok (.aload_n 0, 1) := by decide +kernel
theorem dX4_swap_53 : decode cX4_swap 53 = .ok (.getfield 19, 3) := by decide +kernel
theorem dX4_swap_56 : decode cX4_swap 56 = .ok (.iload_n 1, 1) := by decide +kernel
theorem dX4_swap_57 : decode cX4_swap 57 = .ok (.iaload, 1) := by decide +kernel
theorem dX4_swap_58 : decode cX4_swap 58 = .ok (.ifCond .ne 7, 3) := by decide +kernel
theorem dX4_swap_61 : decode cX4_swap 61 = .ok (.iconst 1, 1) := by decide +kernel
theorem dX4_swap_62 : decode cX4_swap 62 = .ok (.goto 4, 3) := by decide +kernel
theorem dX4_swap_65 : decode cX4_swap 65 = .ok (.iconst 0, 1) := by decide +kernel
theorem dX4_swap_66 : decode cX4_swap 66 = .ok (.invokevirtual 90, 3) := by decide +kernel
theorem dX4_swap_69 : decode cX4_swap 69 = .ok (.ifCond .eq 17, 3) := by decide +kernel
theorem dX4_swap_72 : decode cX4_swap 72 = .ok (.aload_n 0, 1) := by decide +kernel
theorem dX4_swap_73 : decode cX4_swap 73 = .ok (.getfield 19, 3) := by decide +kernel
theorem dX4_swap_76 : decode cX4_swap 76 = .ok (.iload_n 1, 1) := by decide +kernel
theorem dX4_swap_77 : decode cX4_swap 77 = .ok (.iconst 2, 1) := by decide +kernel
theorem dX4_swap_78 : decode cX4_swap 78 = .ok (.iastore, 1) := by decide +kernel
theorem dX4_swap_79 : decode cX4_swap 79 = .ok (.aload_n 0, 1) := by decide +kernel
theorem dX4_swap_80 : decode cX4_swap 80 = .ok (.getfield 28, 3) := by decide +kernel
theorem dX4_swap_83 : decode cX4_swap 83 = .ok (.iload_n 1, 1) := by decide +kernel
theorem dX4_swap_84 : decode cX4_swap 84 = .ok (.iload_n 2, 1) := by decide +kernel
theorem dX4_swap_85 : decode cX4_swap 85 = .ok (.iastore, 1) := by decide +kernel
theorem dX4_swap_86 : decode cX4_swap 86 = .ok (.return_, 1) := by decide +kernel
theorem dX4_agree_0 : decode cX4_agree 0 = .ok (.aload_n 0, 1) := by decide +kernel
theorem dX4_agree_1 : decode cX4_agree 1 = .ok (.iload_n 1, 1) := by decide +kernel
theorem dX4_agree_2 : decode cX4_agree 2 = .ok (.invokevirtual 75, 3) := by decide +kernel
theorem dX4_agree_5 : decode cX4_agree 5 = .ok (.istore_n 2, 1) := by decide +kernel
theorem dX4_agree_6 : decode cX4_agree 6 = .ok (.iload_n 2, 1) := by decide +kernel
theorem dX4_agree_7 : decode cX4_agree 7 = .ok (.ifCond .eq 17, 3) := by decide +kernel
theorem dX4_agree_10 : decode cX4_agree 10 = .ok (.aload_n 0, 1) := by decide +kernel
theorem dX4_agree_11 : decode cX4_agree 11 = .ok (.getfield 19, 3) := by decide +kernel
theorem dX4_agree_14 : decode cX4_agree 14 = .ok (.iload_n 1, 1) := by decide +kernel
theorem dX4_agree_15 : decode cX4_agree 15 = .ok (.iaload, 1) := by decide +kernel
theorem dX4_agree_16 : decode cX4_agree 16 = .ok (.iconst 2, 1) := by decide +kernel
theorem dX4_agree_17 : decode cX4_agree 17 = .ok (.if_icmp .ne 7, 3) := by decide +kernel
theorem dX4_agree_20 : decode cX4_agree 20 = .ok (.iconst 1, 1) := by decide +kernel
theorem dX4_agree_21 : decode cX4_agree 21 = .ok (.goto 4, 3) := by decide +kernel
theorem dX4_agree_24 : decode cX4_agree 24 = .ok (.iconst 0, 1) := by decide +kernel
theorem dX4_agree_25 : decode cX4_agree 25 = .ok (.istore_n 3, 1) := by decide +kernel
theorem dX4_agree_26 : decode cX4_agree 26 = .ok (.iload_n 3, 1) := by decide +kernel
theorem dX4_agree_27 : decode cX4_agree 27 = .ok (.ifCond .eq 12, 3) := by decide +kernel
theorem dX4_agree_30 : decode cX4_agree 30 = .ok (.aload_n 0, 1) := by decide +kernel
theorem dX4_agree_31 : decode cX4_agree 31 = .ok (.getfield 28, 3) := by decide +kernel
theorem dX4_agree_34 : decode cX4_agree 34 = .ok (.iload_n 1, 1) := by decide +kernel
theorem dX4_agree_35 : decode cX4_agree 35 = .ok (.iaload, 1) := by decide +kernel
theorem dX4_agree_36 : decode cX4_agree 36 = .ok (.goto 4, 3) := by decide +kernel
theorem dX4_agree_39 : decode cX4_agree 39 = .ok (.iconst 0, 1) := by decide +kernel
theorem dX4_agree_40 : decode cX4_agree 40 = .ok (.istore 4, 2) := by decide +kernel
theorem dX4_agree_42 : decode cX4_agree 42 = .ok (.aload_n 0, 1) := by decide +kernel
theorem dX4_agree_43 : decode cX4_agree 43 = .ok (.iload_n 2, 1) := by decide +kernel
theorem dX4_agree_44 : decode cX4_agree 44 = .ok (.iload_n 3, 1) := by decide +kernel
theorem dX4_agree_45 : decode cX4_agree 45 = .ok (.ifCond .eq 33, 3) := by decide +kernel
theorem dX4_agree_48 : decode cX4_agree 48 = .ok (.aload_n 0, 1) := by decide +kernel
theorem dX4_agree_49 : decode cX4_agree 49 = .ok (.getfield 19, 3) := by decide +kernel
theorem dX4_agree_52 : decode cX4_agree 52 = .ok (.iload 4, 2) := by decide +kernel
theorem dX4_agree_54 : decode cX4_agree 54 = .ok (.iaload, 1) := by decide +kernel
theorem dX4_agree_55 : decode cX4_agree 55 = .ok (.ifCond .ne 23, 3) := by decide +kernel
theorem dX4_agree_58 : decode cX4_agree 58 = .ok (.aload_n 0, 1) := by decide +kernel
theorem dX4_agree_59 : decode cX4_agree 59 = .ok (.getfield 16, 3) := by decide +kernel
theorem dX4_agree_62 : decode cX4_agree 62 = .ok (.iload_n 1, 1) := by decide +kernel
theorem dX4_agree_63 : decode cX4_agree 63 = .ok (.iaload, 1) := by decide +kernel
theorem dX4_agree_64 : decode cX4_agree 64 = .ok (.aload_n 0, 1) := by decide +kernel
theorem dX4_agree_65 : decode cX4_agree 65 = .ok (.getfield 16, 3) := by decide +kernel
theorem dX4_agree_68 : decode cX4_agree 68 = .ok (.iload 4, 2) := by decide +kernel
theorem dX4_agree_70 : decode cX4_agree 70 = .ok (.iaload, 1) := by decide +kernel
theorem dX4_agree_71 : decode cX4_agree 71 = .ok (.if_icmp .eq 7, 3) := by decide +kernel
theorem dX4_agree_74 : decode cX4_agree 74 = .ok (.iconst 1, 1) := by decide +kernel
theorem dX4_agree_75 : decode cX4_agree 75 = .ok (.goto 4, 3) := by decide +kernel
theorem dX4_agree_78 : decode cX4_agree 78 = .ok (.iconst 0, 1) := by decide +kernel
theorem dX4_agree_79 : decode cX4_agree 79 = .ok (.invokevirtual 71, 3) := by decide +kernel
theorem dX4_agree_82 : decode cX4_agree 82 = .ok (.ifCond .ne 5, 3) := by decide +kernel
theorem dX4_agree_85 : decode cX4_agree 85 = .ok (.iconst 0, 1) := by decide +kernel
theorem dX4_agree_86 : decode cX4_agree 86 = .ok (.ireturn, 1) := by decide +kernel
theorem dX4_agree_87 : decode cX4_agree 87 = .ok (.aload_n 0, 1) := by decide +kernel
theorem dX4_agree_88 : decode cX4_agree 88 = .ok (.getfield 16, 3) := by decide +kernel
theorem dX4_agree_91 : decode cX4_agree 91 = .ok (.iload_n 1, 1) := by decide +kernel
theorem dX4_agree_92 : decode cX4_agree 92 = .ok (.iaload, 1) := by decide +kernel
theorem dX4_agree_93 : decode cX4_agree 93 = .ok (.istore 5, 2) := by decide +kernel
theorem dX4_agree_95 : decode cX4_agree 95 = .ok (.aload_n 0, 1) := by decide +kernel
theorem dX4_agree_96 : decode cX4_agree 96 = .ok (.getfield 16, 3) := by decide +kernel
theorem dX4_agree_99 : decode cX4_agree 99 = .ok (.iload_n 1, 1) := by decide +kernel
theorem dX4_agree_100 : decode cX4_agree 100 = .ok (.aload_n 0, 1) := by decide +kernel
theorem dX4_agree_101 : decode cX4_agree 101 = .ok (.getfield 16, 3) := by decide +kernel
theorem dX4_agree_104 : decode cX4_agree 104 = .ok (.iload 4, 2) := by decide +kernel
theorem dX4_agree_106 : decode cX4_agree 106 = .ok (.iaload, 1) := by decide +kernel
theorem dX4_agree_107 : decode cX4_agree 107 = .ok (.iastore, 1) := by decide +kernel
theorem dX4_agree_108 : decode cX4_agree 108 = .ok (.aload_n 0, 1) := by decide +kernel
theorem dX4_agree_109 : decode cX4_agree 109 = .ok (.getfield 16, 3) := by decide +kernel
theorem dX4_agree_112 : decode cX4_agree 112 = .ok (.iload 4, 2) := by decide +kernel
theorem dX4_agree_114 : decode cX4_agree 114 = .ok (.iload 5, 2) := by decide +kernel
theorem dX4_agree_116 : decode cX4_agree 116 = .ok (.iastore, 1) := by decide +kernel
theorem dX4_agree_117 : decode cX4_agree 117 = .ok (.aload_n 0, 1) := by decide +kernel
theorem dX4_agree_118 : decode cX4_agree 118 = .ok (.getfield 19, 3) := by decide +kernel
theorem dX4_agree_121 : decode cX4_agree 121 = .ok (.iload_n 1, 1) := by decide +kernel
theorem dX4_agree_122 : decode cX4_agree 122 = .ok (.iconst 0, 1) := by decide +kernel
theorem dX4_agree_123 : decode cX4_agree 123 = .ok (.iastore, 1) := by decide +kernel
theorem dX4_agree_124 : decode cX4_agree 124 = .ok (.iload 4, 2) := by decide +kernel
theorem dX4_agree_126 : decode cX4_agree 126 = .ok (.ireturn, 1) := by decide +kernel
theorem dX4_cancelSwap_0 : decode cX4_cancelSwap 0 = .ok (.aload_n 0, 1) := by decide +kernel
theorem dX4_cancelSwap_1 : decode cX4_cancelSwap 1 = .ok (.iload_n 1, 1) := by decide +kernel
theorem dX4_cancelSwap_2 : decode cX4_cancelSwap 2 = .ok (.invokevirtual 75, 3) := by decide +kernel
theorem dX4_cancelSwap_5 : decode cX4_cancelSwap 5 = .ok (.istore_n 2, 1) := by decide +kernel
theorem dX4_cancelSwap_6 : decode cX4_cancelSwap 6 = .ok (.aload_n 0, 1) := by decide +kernel
theorem dX4_cancelSwap_7 : decode cX4_cancelSwap 7 = .ok (.iload_n 2, 1) := by decide +kernel
theorem dX4_cancelSwap_8 : decode cX4_cancelSwap 8 = .ok (.iload_n 2, 1) := by decide +kernel
theorem dX4_cancelSwap_9 : decode cX4_cancelSwap 9 = .ok (.ifCond .eq 17, 3) := by decide +kernel
theorem dX4_cancelSwap_12 : decode cX4_cancelSwap 12 = .ok (.aload_n 0, 1) := by decide +kernel
theorem dX4_cancelSwap_13 : decode cX4_cancelSwap 13 = .ok (.getfield 19, 3) := by decide +kernel
theorem dX4_cancelSwap_16 : decode cX4_cancelSwap 16 = .ok (.iload_n 1, 1) := by decide +kernel
theorem dX4_cancelSwap_17 : decode cX4_cancelSwap 17 = .ok (.iaload, 1) := by decide +kernel
theorem dX4_cancelSwap_18 : decode cX4_cancelSwap 18 = .ok (.iconst 2, 1) := by decide +kernel
theorem dX4_cancelSwap_19 : decode cX4_cancelSwap 19 = .ok (.if_icmp .ne 7, 3) := by decide +kernel
theorem dX4_cancelSwap_22 : decode cX4_cancelSwap 22 = .ok (.iconst 1, 1) := by decide +kernel
theorem dX4_cancelSwap_23 : decode cX4_cancelSwap 23 = .ok (.goto 4, 3) := by decide +kernel
theorem dX4_cancelSwap_26 : decode cX4_cancelSwap 26 = .ok (.iconst 0, 1) := by decide +kernel
theorem dX4_cancelSwap_27 : decode cX4_cancelSwap 27 = .ok (.invokevirtual 71, 3) := by decide +kernel
theorem dX4_cancelSwap_30 : decode cX4_cancelSwap 30 = .ok (.ifCond .eq 10, 3) := by decide +kernel
theorem dX4_cancelSwap_33 : decode cX4_cancelSwap 33 = .ok (.aload_n 0, 1) := by decide +kernel
theorem dX4_cancelSwap_34 : decode cX4_cancelSwap 34 = .ok (.getfield 19, 3) := by decide +kernel
theorem dX4_cancelSwap_37 : decode cX4_cancelSwap 37 = .ok (.iload_n 1, 1) := by decide +kernel
theorem dX4_cancelSwap_38 : decode cX4_cancelSwap 38 = .ok (.iconst 0, 1) := by decide +kernel
theorem dX4_cancelSwap_39 : decode cX4_cancelSwap 39 = .ok (.iastore, 1) := by decide +kernel
theorem dX4_cancelSwap_40 : decode cX4_cancelSwap 40 = .ok (.return_, 1) := by decide +kernel
theorem dX4_lend_0 : decode cX4_lend 0 = .ok (.aload_n 0, 1) := by decide +kernel
theorem dX4_lend_1 : decode cX4_lend 1 = .ok (.iload_n 1, 1) := by decide +kernel
theorem dX4_lend_2 : decode cX4_lend 2 = .ok (.invokevirtual 75, 3) := by decide +kernel
theorem dX4_lend_5 : decode cX4_lend 5 = .ok (.ifCond .eq 14, 3) := by decide +kernel
theorem dX4_lend_8 : decode cX4_lend 8 = .ok (.iload_n 2, 1) := by decide +kernel
theorem dX4_lend_9 : decode cX4_lend 9 = .ok (.invokestatic 64, 3) := by decide +kernel
theorem dX4_lend_12 : decode cX4_lend 12 = .ok (.ifCond .eq 7, 3) := by decide +kernel
theorem dX4_lend_15 : decode cX4_lend 15 = .ok (.iconst 1, 1) := by decide +kernel
theorem dX4_lend_16 : decode cX4_lend 16 = .ok (.goto 4, 3) := by decide +kernel
theorem dX4_lend_19 : decode cX4_lend 19 = .ok (.iconst 0, 1) := by decide +kernel
theorem dX4_lend_20 : decode cX4_lend 20 = .ok (.istore 4, 2) := by decide +kernel
theorem dX4_lend_22 : decode cX4_lend 22 = .ok (.aload_n 0, 1) := by decide +kernel
theorem dX4_lend_23 : decode cX4_lend 23 = .ok (.iload 4, 2) := by decide +kernel
theorem dX4_lend_25 : decode cX4_lend 25 = .ok (.iload 4, 2) := by decide +kernel
theorem dX4_lend_27 : decode cX4_lend 27 = .ok (.ifCond .eq 27, 3) := by decide +kernel
theorem dX4_lend_30 : decode cX4_lend 30 = .ok (.iload_n 3, 1) := by decide +kernel
theorem dX4_lend_31 : decode cX4_lend 31 = .ok (.iconst 1, 1) := by decide +kernel
theorem dX4_lend_32 : decode cX4_lend 32 = .ok (.bipush 50, 2) := by decide +kernel
theorem dX4_lend_34 : decode cX4_lend 34 = .ok (.invokestatic 54, 3) := by decide +kernel
theorem dX4_lend_37 : decode cX4_lend 37 = .ok (.ifCond .eq 17, 3) := by decide +kernel
theorem dX4_lend_40 : decode cX4_lend 40 = .ok (.aload_n 0, 1) := by decide +kernel
theorem dX4_lend_41 : decode cX4_lend 41 = .ok (.getfield 16, 3) := by decide +kernel
theorem dX4_lend_44 : decode cX4_lend 44 = .ok (.iload_n 1, 1) := by decide +kernel
theorem dX4_lend_45 : decode cX4_lend 45 = .ok (.iaload, 1) := by decide +kernel
theorem dX4_lend_46 : decode cX4_lend 46 = .ok (.iload_n 2, 1) := by decide +kernel
theorem dX4_lend_47 : decode cX4_lend 47 = .ok (.if_icmp .eq 7, 3) := by decide +kernel
theorem dX4_lend_50 : decode cX4_lend 50 = .ok (.iconst 1, 1) := by decide +kernel
theorem dX4_lend_51 : decode cX4_lend 51 = .ok (.goto 4, 3) := by decide +kernel
theorem dX4_lend_54 : decode cX4_lend 54 = .ok (.iconst 0, 1) := by decide +kernel
theorem dX4_lend_55 : decode cX4_lend 55 = .ok (.iload 4, 2) := by decide +kernel
theorem dX4_lend_57 : decode cX4_lend 57 = .ok (.ifCond .eq 16, 3) := by decide +kernel
theorem dX4_lend_60 : decode cX4_lend 60 = .ok (.aload_n 0, 1) := by decide +kernel
theorem dX4_lend_61 : decode cX4_lend 61 = .ok (.getfield 19, 3) := by decide +kernel
theorem dX4_lend_64 : decode cX4_lend 64 = .ok (.iload_n 1, 1) := by decide +kernel
theorem dX4_lend_65 : decode cX4_lend 65 = .ok (.iaload, 1) := by decide +kernel
theorem dX4_lend_66 : decode cX4_lend 66 = .ok (.ifCond .ne 7, 3) := by decide +kernel
theorem dX4_lend_69 : decode cX4_lend 69 = .ok (.iconst 1, 1) := by decide +kernel
theorem dX4_lend_70 : decode cX4_lend 70 = .ok (.goto 4, 3) := by decide +kernel
theorem dX4_lend_73 : decode cX4_lend 73 = .ok (.iconst 0, 1) := by decide +kernel
theorem dX4_lend_74 : decode cX4_lend 74 = .ok (.invokevirtual 90, 3) := by decide +kernel
theorem dX4_lend_77 : decode cX4_lend 77 = .ok (.ifCond .ne 5, 3) := by decide +kernel
theorem dX4_lend_80 : decode cX4_lend 80 = .ok (.iconst 0, 1) := by decide +kernel
theorem dX4_lend_81 : decode cX4_lend 81 = .ok (.ireturn, 1) := by decide +kernel
theorem dX4_lend_82 : decode cX4_lend 82 = .ok (.aload_n 0, 1) := by decide +kernel
theorem dX4_lend_83 : decode cX4_lend 83 = .ok (.getfield 19, 3) := by decide +kernel
theorem dX4_lend_86 : decode cX4_lend 86 = .ok (.iload_n 1, 1) := by decide +kernel
theorem dX4_lend_87 : decode cX4_lend 87 = .ok (.iconst 3, 1) := by decide +kernel
theorem dX4_lend_88 : decode cX4_lend 88 = .ok (.iastore, 1) := by decide +kernel
theorem dX4_lend_89 : decode cX4_lend 89 = .ok (.aload_n 0, 1) := by decide +kernel
theorem dX4_lend_90 : decode cX4_lend 90 = .ok (.getfield 31, 3) := by decide +kernel
theorem dX4_lend_93 : decode cX4_lend 93 = .ok (.iload_n 1, 1) := by decide +kernel
theorem dX4_lend_94 : decode cX4_lend 94 = .ok (.iload_n 2, 1) := by decide +kernel
theorem dX4_lend_95 : decode cX4_lend 95 = .ok (.iastore, 1) := by decide +kernel
theorem dX4_lend_96 : decode cX4_lend 96 = .ok (.aload_n 0, 1) := by decide +kernel
theorem dX4_lend_97 : decode cX4_lend 97 = .ok (.getfield 34, 3) := by decide +kernel
theorem dX4_lend_100 : decode cX4_lend 100 = .ok (.iload_n 1, 1) := by decide +kernel
theorem dX4_lend_101 : decode cX4_lend 101 = .ok (.aload_n 0, 1) := by decide +kernel
theorem dX4_lend_102 : decode cX4_lend 102 = .ok (.getfield 61, 3) := by decide +kernel
theorem dX4_lend_105 : decode cX4_lend 105 = .ok (.iload_n 3, 1) := by decide +kernel
theorem dX4_lend_106 : decode cX4_lend 106 = .ok (.iadd, 1) := by decide +kernel
theorem dX4_lend_107 : decode cX4_lend 107 = .ok (.iastore, 1) := by decide +kernel
theorem dX4_lend_108 : decode cX4_lend 108 = .ok (.aload_n 0, 1) := by decide +kernel
theorem dX4_lend_109 : decode cX4_lend 109 = .ok (.getfield 34, 3) := by decide +kernel
theorem dX4_lend_112 : decode cX4_lend 112 = .ok (.iload_n 1, 1) := by decide +kernel
theorem dX4_lend_113 : decode cX4_lend 113 = .ok (.iaload, 1) := by decide +kernel
theorem dX4_lend_114 : decode cX4_lend 114 = .ok (.ireturn, 1) := by decide +kernel
theorem dX4_clears_0 : decode cX4_clears 0 = .ok (.iconst 0, 1) := by decide +kernel
theorem dX4_clears_1 : decode cX4_clears 1 = .ok (.istore_n 2, 1) := by decide +kernel
theorem dX4_clears_2 : decode cX4_clears 2 = .ok (.iconst 0, 1) := by decide +kernel
theorem dX4_clears_3 : decode cX4_clears 3 = .ok (.istore_n 3, 1) := by decide +kernel
theorem dX4_clears_4 : decode cX4_clears 4 = .ok (.iload_n 3, 1) := by decide +kernel
theorem dX4_clears_5 : decode cX4_clears 5 = .ok (.aload_n 0, 1) := by decide +kernel
theorem dX4_clears_6 : decode cX4_clears 6 = .ok (.getfield 58, 3) := by decide +kernel
theorem dX4_clears_9 : decode cX4_clears 9 = .ok (.if_icmp .ge 39, 3) := by decide +kernel
theorem dX4_clears_12 : decode cX4_clears 12 = .ok (.aload_n 0, 1) := by decide +kernel
theorem dX4_clears_13 : decode cX4_clears 13 = .ok (.getfield 19, 3) := by decide +kernel
theorem dX4_clears_16 : decode cX4_clears 16 = .ok (.iload_n 3, 1) := by decide +kernel
theorem dX4_clears_17 : decode cX4_clears 17 = .ok (.iaload, 1) := by decide +kernel
theorem dX4_clears_18 : decode cX4_clears 18 = .ok (.iconst 1, 1) := by decide +kernel
theorem dX4_clears_19 : decode cX4_clears 19 = .ok (.if_icmp .ne 23, 3) := by decide +kernel
theorem dX4_clears_22 : decode cX4_clears 22 = .ok (.aload_n 0, 1) := by decide +kernel
theorem dX4_clears_23 : decode cX4_clears 23 = .ok (.getfield 13, 3) := by decide +kernel
theorem dX4_clears_26 : decode cX4_clears 26 = .ok (.iload_n 3, 1) := by decide +kernel
theorem dX4_clears_27 : decode cX4_clears 27 = .ok (.iaload, 1) := by decide +kernel
theorem dX4_clears_28 : decode cX4_clears 28 = .ok (.iload_n 1, 1) := by decide +kernel
theorem dX4_clears_29 : decode cX4_clears 29 = .ok (.if_icmp .ne 13, 3) := by decide +kernel
theorem dX4_clears_32 : decode cX4_clears 32 = .ok (.aload_n 0, 1) := by decide +kernel
theorem dX4_clears_33 : decode cX4_clears 33 = .ok (.getfield 19, 3) := by decide +kernel
theorem dX4_clears_36 : decode cX4_clears 36 = .ok (.iload_n 3, 1) := by decide +kernel
theorem dX4_clears_37 : decode cX4_clears 37 = .ok (.iconst 0, 1) := by decide +kernel
theorem dX4_clears_38 : decode cX4_clears 38 = .ok (.iastore, 1) := by decide +kernel
theorem dX4_clears_39 : decode cX4_clears 39 = .ok (.iinc 2 1, 3) := by decide +kernel
theorem dX4_clears_42 : decode cX4_clears 42 = .ok (.iinc 3 1, 3) := by decide +kernel
theorem dX4_clears_45 : decode cX4_clears 45 = .ok (.goto (-41), 3) := by decide +kernel
theorem dX4_clears_48 : decode cX4_clears 48 = .ok (.iconst 0, 1) := by decide +kernel
theorem dX4_clears_49 : decode cX4_clears 49 = .ok (.istore_n 3, 1) := by decide +kernel
theorem dX4_clears_50 : decode cX4_clears 50 = .ok (.iload_n 3, 1) := by decide +kernel
theorem dX4_clears_51 : decode cX4_clears 51 = .ok (.iconst 5, 1) := by decide +kernel
theorem dX4_clears_52 : decode cX4_clears 52 = .ok (.if_icmp .ge 59, 3) := by decide +kernel
theorem dX4_clears_55 : decode cX4_clears 55 = .ok (.bipush 8, 2) := by decide +kernel
theorem dX4_clears_57 : decode cX4_clears 57 = .ok (.iload_n 3, 1) := by decide +kernel
theorem dX4_clears_58 : decode cX4_clears 58 = .ok (.imul, 1) := by decide +kernel
theorem dX4_clears_59 : decode cX4_clears 59 = .ok (.iload_n 1, 1) := by decide +kernel
theorem dX4_clears_60 : decode cX4_clears 60 = .ok (.iadd, 1) := by decide +kernel
theorem dX4_clears_61 : decode cX4_clears 61 = .ok (.istore 4, 2) := by decide +kernel
theorem dX4_clears_63 : decode cX4_clears 63 = .ok (.iload_n 2, 1) := by decide +kernel
theorem dX4_clears_64 : decode cX4_clears 64 = .ok (.aload_n 0, 1) := by decide +kernel
theorem dX4_clears_65 : decode cX4_clears 65 = .ok (.getfield 37, 3) := by decide +kernel
theorem dX4_clears_68 : decode cX4_clears 68 = .ok (.iload 4, 2) := by decide +kernel
theorem dX4_clears_70 : decode cX4_clears 70 = .ok (.iaload, 1) := by decide +kernel
theorem dX4_clears_71 : decode cX4_clears 71 = .ok (.ifCond .le 7, 3) := by decide +kernel
theorem dX4_clears_74 : decode cX4_clears 74 = .ok (.iconst 1, 1) := by decide +kernel
theorem dX4_clears_75 : decode cX4_clears 75 = .ok (.goto 4, 3) := by decide +kernel
theorem dX4_clears_78 : decode cX4_clears 78 = .ok (.iconst 0, 1) := by decide +kernel
theorem dX4_clears_79 : decode cX4_clears 79 = .ok (.iadd, 1) := by decide +kernel
theorem dX4_clears_80 : decode cX4_clears 80 = .ok (.istore_n 2, 1) := by decide +kernel
theorem dX4_clears_81 : decode cX4_clears 81 = .ok (.aload_n 0, 1) := by decide +kernel
theorem dX4_clears_82 : decode cX4_clears 82 = .ok (.getfield 7, 3) := by decide +kernel
theorem dX4_clears_85 : decode cX4_clears 85 = .ok (.iload_n 3, 1) := by decide +kernel
theorem dX4_clears_86 : decode cX4_clears 86 = .ok (.dup2, 1) := by decide +kernel
theorem dX4_clears_87 : decode cX4_clears 87 = .ok (.iaload, 1) := by decide +kernel
theorem dX4_clears_88 : decode cX4_clears 88 = .ok (.aload_n 0, 1) := by decide +kernel
theorem dX4_clears_89 : decode cX4_clears 89 = .ok (.getfield 37, 3) := by decide +kernel
theorem dX4_clears_92 : decode cX4_clears 92 = .ok (.iload 4, 2) := by decide +kernel
theorem dX4_clears_94 : decode cX4_clears 94 = .ok (.iaload, 1) := by decide +kernel
theorem dX4_clears_95 : decode cX4_clears 95 = .ok (.iadd, 1) := by decide +kernel
theorem dX4_clears_96 : decode cX4_clears 96 = .ok (.iastore, 1) := by decide +kernel
theorem dX4_clears_97 : decode cX4_clears 97 = .ok (.aload_n 0, 1) := by decide +kernel
theorem dX4_clears_98 : decode cX4_clears 98 = .ok (.getfield 37, 3) := by decide +kernel
theorem dX4_clears_101 : decode cX4_clears 101 = .ok (.iload 4, 2) := by decide +kernel
theorem dX4_clears_103 : decode cX4_clears 103 = .ok (.iconst 0, 1) := by decide +kernel
theorem dX4_clears_104 : decode cX4_clears 104 = .ok (.iastore, 1) := by decide +kernel
theorem dX4_clears_105 : decode cX4_clears 105 = .ok (.iinc 3 1, 3) := by decide +kernel
theorem dX4_clears_108 : decode cX4_clears 108 = .ok (.goto (-58), 3) := by decide +kernel
theorem dX4_clears_111 : decode cX4_clears 111 = .ok (.iload_n 2, 1) := by decide +kernel
theorem dX4_clears_112 : decode cX4_clears 112 = .ok (.ireturn, 1) := by decide +kernel
theorem dX4_ban_0 : decode cX4_ban 0 = .ok (.aload_n 0, 1) := by decide +kernel
theorem dX4_ban_1 : decode cX4_ban 1 = .ok (.iload_n 1, 1) := by decide +kernel
theorem dX4_ban_2 : decode cX4_ban 2 = .ok (.invokestatic 68, 3) := by decide +kernel
theorem dX4_ban_5 : decode cX4_ban 5 = .ok (.iload_n 2, 1) := by decide +kernel
theorem dX4_ban_6 : decode cX4_ban 6 = .ok (.aload_n 0, 1) := by decide +kernel
theorem dX4_ban_7 : decode cX4_ban 7 = .ok (.getfield 61, 3) := by decide +kernel
theorem dX4_ban_10 : decode cX4_ban 10 = .ok (.if_icmp .lt 18, 3) := by decide +kernel
theorem dX4_ban_13 : decode cX4_ban 13 = .ok (.iload_n 2, 1) := by decide +kernel
theorem dX4_ban_14 : decode cX4_ban 14 = .ok (.aload_n 0, 1) := by decide +kernel
theorem dX4_ban_15 : decode cX4_ban 15 = .ok (.getfield 61, 3) := by decide +kernel
theorem dX4_ban_18 : decode cX4_ban 18 = .ok (.isub, 1) := by decide +kernel
theorem dX4_ban_19 : decode cX4_ban 19 = .ok (.bipush 50, 2) := by decide +kernel
theorem dX4_ban_21 : decode cX4_ban 21 = .ok (.if_icmp .gt 7, 3) := by decide +kernel
theorem dX4_ban_24 : decode cX4_ban 24 = .ok (.iconst 1, 1) := by decide +kernel
theorem dX4_ban_25 : decode cX4_ban 25 = .ok (.goto 4, 3) := by decide +kernel
theorem dX4_ban_28 : decode cX4_ban 28 = .ok (.iconst 0, 1) := by decide +kernel
theorem dX4_ban_29 : decode cX4_ban 29 = .ok (.invokevirtual 71, 3) := by decide +kernel
theorem dX4_ban_32 : decode cX4_ban 32 = .ok (.ifCond .ne 5, 3) := by decide +kernel
theorem dX4_ban_35 : decode cX4_ban 35 = .ok (.iconst 0, 1) := by decide +kernel
theorem dX4_ban_36 : decode cX4_ban 36 = .ok (.ireturn, 1) := by decide +kernel
theorem dX4_ban_37 : decode cX4_ban 37 = .ok (.aload_n 0, 1) := by decide +kernel
theorem dX4_ban_38 : decode cX4_ban 38 = .ok (.getfield 43, 3) := by decide +kernel
theorem dX4_ban_41 : decode cX4_ban 41 = .ok (.iload_n 1, 1) := by decide +kernel
theorem dX4_ban_42 : decode cX4_ban 42 = .ok (.iload_n 2, 1) := by decide +kernel
theorem dX4_ban_43 : decode cX4_ban 43 = .ok (.iastore, 1) := by decide +kernel
theorem dX4_ban_44 : decode cX4_ban 44 = .ok (.aload_n 0, 1) := by decide +kernel
theorem dX4_ban_45 : decode cX4_ban 45 = .ok (.iload_n 1, 1) := by decide +kernel
theorem dX4_ban_46 : decode cX4_ban 46 = .ok (.invokevirtual 87, 3) := by decide +kernel
theorem dX4_ban_49 : decode cX4_ban 49 = .ok (.ifCond .eq 11, 3) := by decide +kernel
theorem dX4_ban_52 : decode cX4_ban 52 = .ok (.aload_n 0, 1) := by decide +kernel
theorem dX4_ban_53 : decode cX4_ban 53 = .ok (.iload_n 1, 1) := by decide +kernel
theorem dX4_ban_54 : decode cX4_ban 54 = .ok (.invokevirtual 103, 3) := by decide +kernel
theorem dX4_ban_57 : decode cX4_ban 57 = .ok (.goto 4, 3) := by decide +kernel
theorem dX4_ban_60 : decode cX4_ban 60 = .ok (.iconst 0, 1) := by decide +kernel
theorem dX4_ban_61 : decode cX4_ban 61 = .ok (.ireturn, 1) := by decide +kernel
theorem dX4_lift_0 : decode cX4_lift 0 = .ok (.aload_n 0, 1) := by decide +kernel
theorem dX4_lift_1 : decode cX4_lift 1 = .ok (.iload_n 1, 1) := by decide +kernel
theorem dX4_lift_2 : decode cX4_lift 2 = .ok (.invokestatic 68, 3) := by decide +kernel
theorem dX4_lift_5 : decode cX4_lift 5 = .ok (.invokevirtual 78, 3) := by decide +kernel
theorem dX4_lift_8 : decode cX4_lift 8 = .ok (.ifCond .ne 5, 3) := by decide +kernel
theorem dX4_lift_11 : decode cX4_lift 11 = .ok (.iconst 0, 1) := by decide +kernel
theorem dX4_lift_12 : decode cX4_lift 12 = .ok (.ireturn, 1) := by decide +kernel
theorem dX4_lift_13 : decode cX4_lift 13 = .ok (.aload_n 0, 1) := by decide +kernel
theorem dX4_lift_14 : decode cX4_lift 14 = .ok (.getfield 43, 3) := by decide +kernel
theorem dX4_lift_17 : decode cX4_lift 17 = .ok (.iload_n 1, 1) := by decide +kernel
theorem dX4_lift_18 : decode cX4_lift 18 = .ok (.iaload, 1) := by decide +kernel
theorem dX4_lift_19 : decode cX4_lift 19 = .ok (.ldc 49, 2) := by decide +kernel
theorem dX4_lift_21 : decode cX4_lift 21 = .ok (.if_icmp .eq 7, 3) := by decide +kernel
theorem dX4_lift_24 : decode cX4_lift 24 = .ok (.iconst 1, 1) := by decide +kernel
theorem dX4_lift_25 : decode cX4_lift 25 = .ok (.goto 4, 3) := by decide +kernel
theorem dX4_lift_28 : decode cX4_lift 28 = .ok (.iconst 0, 1) := by decide +kernel
theorem dX4_lift_29 : decode cX4_lift 29 = .ok (.istore_n 2, 1) := by decide +kernel
theorem dX4_lift_30 : decode cX4_lift 30 = .ok (.aload_n 0, 1) := by decide +kernel
theorem dX4_lift_31 : decode cX4_lift 31 = .ok (.getfield 43, 3) := by decide +kernel
theorem dX4_lift_34 : decode cX4_lift 34 = .ok (.iload_n 1, 1) := by decide +kernel
theorem dX4_lift_35 : decode cX4_lift 35 = .ok (.ldc 49, 2) := by decide +kernel
theorem dX4_lift_37 : decode cX4_lift 37 = .ok (.iastore, 1) := by decide +kernel
theorem dX4_lift_38 : decode cX4_lift 38 = .ok (.iload_n 2, 1) := by decide +kernel
theorem dX4_lift_39 : decode cX4_lift 39 = .ok (.ireturn, 1) := by decide +kernel
theorem dX4_isBanned_0 : decode cX4_isBanned 0 = .ok (.aload_n 0, 1) := by decide +kernel
theorem dX4_isBanned_1 : decode cX4_isBanned 1 = .ok (.iload_n 1, 1) := by decide +kernel
theorem dX4_isBanned_2 : decode cX4_isBanned 2 = .ok (.invokestatic 68, 3) := by decide +kernel
theorem dX4_isBanned_5 : decode cX4_isBanned 5 = .ok (.invokevirtual 78, 3) := by decide +kernel
theorem dX4_isBanned_8 : decode cX4_isBanned 8 = .ok (.ifCond .eq 15, 3) := by decide +kernel
theorem dX4_isBanned_11 : decode cX4_isBanned 11 = .ok (.aload_n 0, 1) := by decide +kernel
theorem dX4_isBanned_12 : decode cX4_isBanned 12 = .ok (.iload_n 1, 1) := by decide +kernel
theorem dX4_isBanned_13 : decode cX4_isBanned 13 = .ok (.invokevirtual 87, 3) := by decide +kernel
theorem dX4_isBanned_16 : decode cX4_isBanned 16 = .ok (.ifCond .eq 7, 3) := by decide +kernel
theorem dX4_isBanned_19 : decode cX4_isBanned 19 = .ok (.iconst 1, 1) := by decide +kernel
theorem dX4_isBanned_20 : decode cX4_isBanned 20 = .ok (.goto 4, 3) := by decide +kernel
theorem dX4_isBanned_23 : decode cX4_isBanned 23 = .ok (.iconst 0, 1) := by decide +kernel
theorem dX4_isBanned_24 : decode cX4_isBanned 24 = .ok (.ireturn, 1) := by decide +kernel
theorem dX4_pass_0 : decode cX4_pass 0 = .ok (.aload_n 0, 1) := by decide +kernel
theorem dX4_pass_1 : decode cX4_pass 1 = .ok (.iload_n 1, 1) := by decide +kernel
theorem dX4_pass_2 : decode cX4_pass 2 = .ok (.iconst 1, 1) := by decide +kernel
theorem dX4_pass_3 : decode cX4_pass 3 = .ok (.bipush 100, 2) := by decide +kernel
theorem dX4_pass_5 : decode cX4_pass 5 = .ok (.invokestatic 54, 3) := by decide +kernel
theorem dX4_pass_8 : decode cX4_pass 8 = .ok (.invokevirtual 78, 3) := by decide +kernel
theorem dX4_pass_11 : decode cX4_pass 11 = .ok (.ifCond .ne 5, 3) := by decide +kernel
theorem dX4_pass_14 : decode cX4_pass 14 = .ok (.iconst 0, 1) := by decide +kernel
theorem dX4_pass_15 : decode cX4_pass 15 = .ok (.ireturn, 1) := by decide +kernel
theorem dX4_pass_16 : decode cX4_pass 16 = .ok (.aload_n 0, 1) := by decide +kernel
theorem dX4_pass_17 : decode cX4_pass 17 = .ok (.dup, 1) := by decide +kernel
theorem dX4_pass_18 : decode cX4_pass 18 = .ok (.getfield 61, 3) := by decide +kernel
theorem dX4_pass_21 : decode cX4_pass 21 = .ok (.iload_n 1, 1) := by decide +kernel
theorem dX4_pass_22 : decode cX4_pass 22 = .ok (.iadd, 1) := by decide +kernel
theorem dX4_pass_23 : decode cX4_pass 23 = .ok (.putfield 61, 3) := by decide +kernel
theorem dX4_pass_26 : decode cX4_pass 26 = .ok (.iconst 0, 1) := by decide +kernel
theorem dX4_pass_27 : decode cX4_pass 27 = .ok (.istore_n 2, 1) := by decide +kernel
theorem dX4_pass_28 : decode cX4_pass 28 = .ok (.iload_n 2, 1) := by decide +kernel
theorem dX4_pass_29 : decode cX4_pass 29 = .ok (.aload_n 0, 1) := by decide +kernel
theorem dX4_pass_30 : decode cX4_pass 30 = .ok (.getfield 58, 3) := by decide +kernel
theorem dX4_pass_33 : decode cX4_pass 33 = .ok (.if_icmp .ge 48, 3) := by decide +kernel
theorem dX4_pass_36 : decode cX4_pass 36 = .ok (.aload_n 0, 1) := by decide +kernel
theorem dX4_pass_37 : decode cX4_pass 37 = .ok (.getfield 19, 3) := by decide +kernel
theorem dX4_pass_40 : decode cX4_pass 40 = .ok (.iload_n 2, 1) := by decide +kernel
theorem dX4_pass_41 : decode cX4_pass 41 = .ok (.aload_n 0, 1) := by decide +kernel
theorem dX4_pass_42 : decode cX4_pass 42 = .ok (.getfield 19, 3) := by decide +kernel
theorem dX4_pass_45 : decode cX4_pass 45 = .ok (.iload_n 2, 1) := by decide +kernel
theorem dX4_pass_46 : decode cX4_pass 46 = .ok (.iaload, 1) := by decide +kernel
theorem dX4_pass_47 : decode cX4_pass 47 = .ok (.iconst 3, 1) := by decide +kernel
theorem dX4_pass_48 : decode cX4_pass 48 = .ok (.if_icmp .ne 20, 3) := by decide +kernel
theorem dX4_pass_51 : decode cX4_pass 51 = .ok (.aload_n 0, 1) := by decide +kernel
theorem dX4_pass_52 : decode cX4_pass 52 = .ok (.getfield 34, 3) := by decide +kernel
theorem dX4_pass_55 : decode cX4_pass 55 = .ok (.iload_n 2, 1) := by decide +kernel
theorem dX4_pass_56 : decode cX4_pass 56 = .ok (.iaload, 1) := by decide +kernel
theorem dX4_pass_57 : decode cX4_pass 57 = .ok (.aload_n 0, 1) := by decide +kernel
theorem dX4_pass_58 : decode cX4_pass 58 = .ok (.getfield 61, 3) := by decide +kernel
theorem dX4_pass_61 : decode cX4_pass 61 = .ok (.if_icmp .gt 7, 3) := by decide +kernel
theorem dX4_pass_64 : decode cX4_pass 64 = .ok (.iconst 0, 1) := by decide +kernel
theorem dX4_pass_65 : decode cX4_pass 65 = .ok (.goto 9, 3) := by decide +kernel
theorem dX4_pass_68 : decode cX4_pass 68 = .ok (.aload_n 0, 1) := by decide +kernel
theorem dX4_pass_69 : decode cX4_pass 69 = .ok (.getfield 19, 3) := by decide +kernel
theorem dX4_pass_72 : decode cX4_pass 72 = .ok (.iload_n 2, 1) := by decide +kernel
theorem dX4_pass_73 : decode cX4_pass 73 = .ok (.iaload, 1) := by decide +kernel
theorem dX4_pass_74 : decode cX4_pass 74 = .ok (.iastore, 1) := by decide +kernel
theorem dX4_pass_75 : decode cX4_pass 75 = .ok (.iinc 2 1, 3) := by decide +kernel
theorem dX4_pass_78 : decode cX4_pass 78 = .ok (.goto (-50), 3) := by decide +kernel
theorem dX4_pass_81 : decode cX4_pass 81 = .ok (.iconst 0, 1) := by decide +kernel
theorem dX4_pass_82 : decode cX4_pass 82 = .ok (.istore_n 2, 1) := by decide +kernel
theorem dX4_pass_83 : decode cX4_pass 83 = .ok (.iload_n 2, 1) := by decide +kernel
theorem dX4_pass_84 : decode cX4_pass 84 = .ok (.bipush 8, 2) := by decide +kernel
theorem dX4_pass_86 : decode cX4_pass 86 = .ok (.if_icmp .ge 23, 3) := by decide +kernel
theorem dX4_pass_89 : decode cX4_pass 89 = .ok (.aload_n 0, 1) := by decide +kernel
theorem dX4_pass_90 : decode cX4_pass 90 = .ok (.iload_n 2, 1) := by decide +kernel
theorem dX4_pass_91 : decode cX4_pass 91 = .ok (.invokevirtual 87, 3) := by decide +kernel
theorem dX4_pass_94 : decode cX4_pass 94 = .ok (.ifCond .eq 9, 3) := by decide +kernel
theorem dX4_pass_97 : decode cX4_pass 97 = .ok (.aload_n 0, 1) := by decide +kernel
theorem dX4_pass_98 : decode cX4_pass 98 = .ok (.iload_n 2, 1) := by decide +kernel
theorem dX4_pass_99 : decode cX4_pass 99 = .ok (.invokevirtual 103, 3) := by decide +kernel
theorem dX4_pass_102 : decode cX4_pass 102 = .ok (.pop, 1) := by decide +kernel
theorem dX4_pass_103 : decode cX4_pass 103 = .ok (.iinc 2 1, 3) := by decide +kernel
theorem dX4_pass_106 : decode cX4_pass 106 = .ok (.goto (-23), 3) := by decide +kernel
theorem dX4_pass_109 : decode cX4_pass 109 = .ok (.aload_n 0, 1) := by decide +kernel
theorem dX4_pass_110 : decode cX4_pass 110 = .ok (.getfield 61, 3) := by decide +kernel
theorem dX4_pass_113 : decode cX4_pass 113 = .ok (.ireturn, 1) := by decide +kernel
theorem dX4_size_0 : decode cX4_size 0 = .ok (.iconst 0, 1) := by decide +kernel
theorem dX4_size_1 : decode cX4_size 1 = .ok (.istore_n 2, 1) := by decide +kernel
theorem dX4_size_2 : decode cX4_size 2 = .ok (.iconst 0, 1) := by decide +kernel
theorem dX4_size_3 : decode cX4_size 3 = .ok (.istore_n 3, 1) := by decide +kernel
theorem dX4_size_4 : decode cX4_size 4 = .ok (.iload_n 3, 1) := by decide +kernel
theorem dX4_size_5 : decode cX4_size 5 = .ok (.aload_n 0, 1) := by decide +kernel
theorem dX4_size_6 : decode cX4_size 6 = .ok (.getfield 58, 3) := by decide +kernel
theorem dX4_size_9 : decode cX4_size 9 = .ok (.if_icmp .ge 22, 3) := by decide +kernel
theorem dX4_size_12 : decode cX4_size 12 = .ok (.iload_n 2, 1) := by decide +kernel
theorem dX4_size_13 : decode cX4_size 13 = .ok (.aload_n 0, 1) := by decide +kernel
theorem dX4_size_14 : decode cX4_size 14 = .ok (.getfield 46, 3) := by decide +kernel
theorem dX4_size_17 : decode cX4_size 17 = .ok (.iload_n 1, 1) := by decide +kernel
theorem dX4_size_18 : decode cX4_size 18 = .ok (.iaload, 1) := by decide +kernel
theorem dX4_size_19 : decode cX4_size 19 = .ok (.iload_n 3, 1) := by decide +kernel
theorem dX4_size_20 : decode cX4_size 20 = .ok (.ishr, 1) := by decide +kernel
theorem dX4_size_21 : decode cX4_size 21 = .ok (.iconst 1, 1) := by decide +kernel
theorem dX4_size_22 : decode cX4_size 22 = .ok (.iand, 1) := by decide +kernel
theorem dX4_size_23 : decode cX4_size 23 = .ok (.iadd, 1) := by decide +kernel
theorem dX4_size_24 : decode cX4_size 24 = .ok (.istore_n 2, 1) := by decide +kernel
theorem dX4_size_25 : decode cX4_size 25 = .ok (.iinc 3 1, 3) := by decide +kernel
theorem dX4_size_28 : decode cX4_size 28 = .ok (.goto (-24), 3) := by decide +kernel
theorem dX4_size_31 : decode cX4_size 31 = .ok (.iload_n 2, 1) := by decide +kernel
theorem dX4_size_32 : decode cX4_size 32 = .ok (.ireturn, 1) := by decide +kernel
theorem dX4_toggleDeck_0 : decode cX4_toggleDeck 0 = .ok (.aload_n 0, 1) := by decide +kernel
theorem dX4_toggleDeck_1 : decode cX4_toggleDeck 1 = .ok (.iload_n 1, 1) := by decide +kernel
theorem dX4_toggleDeck_2 : decode cX4_toggleDeck 2 = .ok (.invokestatic 64, 3) := by decide +kernel
theorem dX4_toggleDeck_5 : decode cX4_toggleDeck 5 = .ok (.ifCond .eq 15, 3) := by decide +kernel
theorem dX4_toggleDeck_8 : decode cX4_toggleDeck 8 = .ok (.aload_n 0, 1) := by decide +kernel
theorem dX4_toggleDeck_9 : decode cX4_toggleDeck 9 = .ok (.iload_n 2, 1) := by decide +kernel
theorem dX4_toggleDeck_10 : decode cX4_toggleDeck 10 = .ok (.invokevirtual 75, 3) := by decide +kernel
theorem dX4_toggleDeck_13 : decode cX4_toggleDeck 13 = .ok (.ifCond .eq 7, 3) := by decide +kernel
theorem dX4_toggleDeck_16 : decode cX4_toggleDeck 16 = .ok (.iconst 1, 1) := by decide +kernel
theorem dX4_toggleDeck_17 : decode cX4_toggleDeck 17 = .ok (.goto 4, 3) := by decide +kernel
theorem dX4_toggleDeck_20 : decode cX4_toggleDeck 20 = .ok (.iconst 0, 1) := by decide +kernel
theorem dX4_toggleDeck_21 : decode cX4_toggleDeck 21 = .ok (.invokevirtual 78, 3) := by decide +kernel
theorem dX4_toggleDeck_24 : decode cX4_toggleDeck 24 = .ok (.ifCond .ne 5, 3) := by decide +kernel
theorem dX4_toggleDeck_27 : decode cX4_toggleDeck 27 = .ok (.iconst 0, 1) := by decide +kernel
theorem dX4_toggleDeck_28 : decode cX4_toggleDeck 28 = .ok (.ireturn, 1) := by decide +kernel
theorem dX4_toggleDeck_29 : decode cX4_toggleDeck 29 = .ok (.aload_n 0, 1) := by decide +kernel
theorem dX4_toggleDeck_30 : decode cX4_toggleDeck 30 = .ok (.getfield 46, 3) := by decide +kernel
theorem dX4_toggleDeck_33 : decode cX4_toggleDeck 33 = .ok (.iload_n 1, 1) := by decide +kernel
theorem dX4_toggleDeck_34 : decode cX4_toggleDeck 34 = .ok (.dup2, 1) := by decide +kernel
theorem dX4_toggleDeck_35 : decode cX4_toggleDeck 35 = .ok (.iaload, 1) := by decide +kernel
theorem dX4_toggleDeck_36 : decode cX4_toggleDeck 36 = .ok (.iconst 1, 1) := by decide +kernel
theorem dX4_toggleDeck_37 : decode cX4_toggleDeck 37 = .ok (.iload_n 2, 1) := by decide +kernel
theorem dX4_toggleDeck_38 : decode cX4_toggleDeck 38 = .ok (.ishl, 1) := by decide +kernel
theorem dX4_toggleDeck_39 : decode cX4_toggleDeck 39 = .ok (.ixor, 1) := by decide +kernel
theorem dX4_toggleDeck_40 : decode cX4_toggleDeck 40 = .ok (.iastore, 1) := by decide +kernel
theorem dX4_toggleDeck_41 : decode cX4_toggleDeck 41 = .ok (.aload_n 0, 1) := by decide +kernel
theorem dX4_toggleDeck_42 : decode cX4_toggleDeck 42 = .ok (.iload_n 1, 1) := by decide +kernel
theorem dX4_toggleDeck_43 : decode cX4_toggleDeck 43 = .ok (.invokevirtual 106, 3) := by decide +kernel
theorem dX4_toggleDeck_46 : decode cX4_toggleDeck 46 = .ok (.ireturn, 1) := by decide +kernel
theorem dX4_right_0 : decode cX4_right 0 = .ok (.aload_n 0, 1) := by decide +kernel
theorem dX4_right_1 : decode cX4_right 1 = .ok (.iload_n 1, 1) := by decide +kernel
theorem dX4_right_2 : decode cX4_right 2 = .ok (.invokevirtual 106, 3) := by decide +kernel
theorem dX4_right_5 : decode cX4_right 5 = .ok (.iconst 1, 1) := by decide +kernel
theorem dX4_right_6 : decode cX4_right 6 = .ok (.iconst 5, 1) := by decide +kernel
theorem dX4_right_7 : decode cX4_right 7 = .ok (.invokestatic 54, 3) := by decide +kernel
theorem dX4_right_10 : decode cX4_right 10 = .ok (.istore_n 2, 1) := by decide +kernel
theorem dX4_right_11 : decode cX4_right 11 = .ok (.iconst 0, 1) := by decide +kernel
theorem dX4_right_12 : decode cX4_right 12 = .ok (.istore_n 3, 1) := by decide +kernel
theorem dX4_right_13 : decode cX4_right 13 = .ok (.iload_n 3, 1) := by decide +kernel
theorem dX4_right_14 : decode cX4_right 14 = .ok (.aload_n 0, 1) := by decide +kernel
theorem dX4_right_15 : decode cX4_right 15 = .ok (.getfield 58, 3) := by decide +kernel
theorem dX4_right_18 : decode cX4_right 18 = .ok (.if_icmp .ge 87, 3) := by decide +kernel
theorem dX4_right_21 : decode cX4_right 21 = .ok (.aload_n 0, 1) := by decide +kernel
theorem dX4_right_22 : decode cX4_right 22 = .ok (.getfield 46, 3) := by decide +kernel
theorem dX4_right_25 : decode cX4_right 25 = .ok (.iload_n 1, 1) := by decide +kernel
theorem dX4_right_26 : decode cX4_right 26 = .ok (.iaload, 1) := by decide +kernel
theorem dX4_right_27 : decode cX4_right 27 = .ok (.iload_n 3, 1) := by decide +kernel
theorem dX4_right_28 : decode cX4_right 28 = .ok (.ishr, 1) := by decide +kernel
theorem dX4_right_29 : decode cX4_right 29 = .ok (.iconst 1, 1) := by decide +kernel
theorem dX4_right_30 : decode cX4_right 30 = .ok (.iand, 1) := by decide +kernel
theorem dX4_right_31 : decode cX4_right 31 = .ok (.iconst 1, 1) := by decide +kernel
theorem dX4_right_32 : decode cX4_right 32 = .ok (.if_icmp .ne 7, 3) := by decide +kernel
theorem dX4_right_35 : decode cX4_right 35 = .ok (.iconst 1, 1) := by decide +kernel
theorem dX4_right_36 : decode cX4_right 36 = .ok (.goto 4, 3) := by decide +kernel
theorem dX4_right_39 : decode cX4_right 39 = .ok (.iconst 0, 1) := by decide +kernel
theorem dX4_right_40 : decode cX4_right 40 = .ok (.istore 4, 2) := by decide +kernel
theorem dX4_right_42 : decode cX4_right 42 = .ok (.iload_n 2, 1) := by decide +kernel
theorem dX4_right_43 : decode cX4_right 43 = .ok (.ifCond .eq 54, 3) := by decide +kernel
theorem dX4_right_46 : decode cX4_right 46 = .ok (.iload 4, 2) := by decide +kernel
theorem dX4_right_48 : decode cX4_right 48 = .ok (.ifCond .eq 45, 3) := by decide +kernel
theorem dX4_right_51 : decode cX4_right 51 = .ok (.aload_n 0, 1) := by decide +kernel
theorem dX4_right_52 : decode cX4_right 52 = .ok (.iload_n 3, 1) := by decide +kernel
theorem dX4_right_53 : decode cX4_right 53 = .ok (.invokevirtual 84, 3) := by decide +kernel
theorem dX4_right_56 : decode cX4_right 56 = .ok (.iload_n 1, 1) := by decide +kernel
theorem dX4_right_57 : decode cX4_right 57 = .ok (.if_icmp .ne 40, 3) := by decide +kernel
theorem dX4_right_60 : decode cX4_right 60 = .ok (.aload_n 0, 1) := by decide +kernel
theorem dX4_right_61 : decode cX4_right 61 = .ok (.getfield 19, 3) := by decide +kernel
theorem dX4_right_64 : decode cX4_right 64 = .ok (.iload_n 3, 1) := by decide +kernel
theorem dX4_right_65 : decode cX4_right 65 = .ok (.iaload, 1) := by decide +kernel
theorem dX4_right_66 : decode cX4_right 66 = .ok (.iconst 1, 1) := by decide +kernel
theorem dX4_right_67 : decode cX4_right 67 = .ok (.if_icmp .eq 30, 3) := by decide +kernel
theorem dX4_right_70 : decode cX4_right 70 = .ok (.aload_n 0, 1) := by decide +kernel
theorem dX4_right_71 : decode cX4_right 71 = .ok (.getfield 19, 3) := by decide +kernel
theorem dX4_right_74 : decode cX4_right 74 = .ok (.iload_n 3, 1) := by decide +kernel
theorem dX4_right_75 : decode cX4_right 75 = .ok (.iaload, 1) := by decide +kernel
theorem dX4_right_76 : decode cX4_right 76 = .ok (.iconst 2, 1) := by decide +kernel
theorem dX4_right_77 : decode cX4_right 77 = .ok (.if_icmp .eq 20, 3) := by decide +kernel
theorem dX4_right_80 : decode cX4_right 80 = .ok (.aload_n 0, 1) := by decide +kernel
theorem dX4_right_81 : decode cX4_right 81 = .ok (.aload_n 0, 1) := by decide +kernel
theorem dX4_right_82 : decode cX4_right 82 = .ok (.getfield 13, 3) := by decide +kernel
theorem dX4_right_85 : decode cX4_right 85 = .ok (.iload_n 3, 1) := by decide +kernel
theorem dX4_right_86 : decode cX4_right 86 = .ok (.iaload, 1) := by decide +kernel
theorem dX4_right_87 : decode cX4_right 87 = .ok (.invokevirtual 87, 3) := by decide +kernel
theorem dX4_right_90 : decode cX4_right 90 = .ok (.ifCond .ne 7, 3) := by decide +kernel
theorem dX4_right_93 : decode cX4_right 93 = .ok (.iconst 1, 1) := by decide +kernel
theorem dX4_right_94 : decode cX4_right 94 = .ok (.goto 4, 3) := by decide +kernel
theorem dX4_right_97 : decode cX4_right 97 = .ok (.iconst 0, 1) := by decide +kernel
theorem dX4_right_98 : decode cX4_right 98 = .ok (.istore_n 2, 1) := by decide +kernel
theorem dX4_right_99 : decode cX4_right 99 = .ok (.iinc 3 1, 3) := by decide +kernel
theorem dX4_right_102 : decode cX4_right 102 = .ok (.goto (-89), 3) := by decide +kernel
theorem dX4_right_105 : decode cX4_right 105 = .ok (.iload_n 2, 1) := by decide +kernel
theorem dX4_right_106 : decode cX4_right 106 = .ok (.ireturn, 1) := by decide +kernel
theorem dX4_strengthOf_0 : decode cX4_strengthOf 0 = .ok (.iconst 0, 1) := by decide +kernel
theorem dX4_strengthOf_1 : decode cX4_strengthOf 1 = .ok (.istore_n 2, 1) := by decide +kernel
theorem dX4_strengthOf_2 : decode cX4_strengthOf 2 = .ok (.iconst 0, 1) := by decide +kernel
theorem dX4_strengthOf_3 : decode cX4_strengthOf 3 = .ok (.istore_n 3, 1) := by decide +kernel
theorem dX4_strengthOf_4 : decode cX4_strengthOf 4 = .ok (.iload_n 3, 1) := by decide +kernel
theorem dX4_strengthOf_5 : decode cX4_strengthOf 5 = .ok (.aload_n 0, 1) := by decide +kernel
theorem dX4_strengthOf_6 : decode cX4_strengthOf 6 = .ok (.getfield 58, 3) := by decide +kernel
theorem dX4_strengthOf_9 : decode cX4_strengthOf 9 = .ok (.if_icmp .ge 38, 3) := by decide +kernel
theorem dX4_strengthOf_12 : decode cX4_strengthOf 12 = .ok (.iload_n 2, 1) := by decide +kernel
theorem dX4_strengthOf_13 : decode cX4_strengthOf 13 = .ok (.aload_n 0, 1) := by decide +kernel
theorem dX4_strengthOf_14 : decode cX4_strengthOf 14 = .ok (.getfield 46, 3) := by decide +kernel
theorem dX4_strengthOf_17 : decode cX4_strengthOf 17 = .ok (.iload_n 1, 1) := by decide +kernel
theorem dX4_strengthOf_18 : decode cX4_strengthOf 18 = .ok (.iaload, 1) := by decide +kernel
theorem dX4_strengthOf_19 : decode cX4_strengthOf 19 = .ok (.iload_n 3, 1) := by decide +kernel
theorem dX4_strengthOf_20 : decode cX4_strengthOf 20 = .ok (.ishr, 1) := by decide +kernel
theorem dX4_strengthOf_21 : decode cX4_strengthOf 21 = .ok (.iconst 1, 1) := by decide +kernel
theorem dX4_strengthOf_22 : decode cX4_strengthOf 22 = .ok (.iand, 1) := by decide +kernel
theorem dX4_strengthOf_23 : decode cX4_strengthOf 23 = .ok (.iconst 1, 1) := by decide +kernel
theorem dX4_strengthOf_24 : decode cX4_strengthOf 24 = .ok (.if_icmp .ne 14, 3) := by decide +kernel
theorem dX4_strengthOf_27 : decode cX4_strengthOf 27 = .ok (.aload_n 0, 1) := by decide +kernel
theorem dX4_strengthOf_28 : decode cX4_strengthOf 28 = .ok (.getfield 13, 3) := by decide +kernel
theorem dX4_strengthOf_31 : decode cX4_strengthOf 31 = .ok (.iload_n 3, 1) := by decide +kernel
theorem dX4_strengthOf_32 : decode cX4_strengthOf 32 = .ok (.iaload, 1) := by decide +kernel
theorem dX4_strengthOf_33 : decode cX4_strengthOf 33 = .ok (.iconst 1, 1) := by decide +kernel
theorem dX4_strengthOf_34 : decode cX4_strengthOf 34 = .ok (.iadd, 1) := by decide +kernel
theorem dX4_strengthOf_35 : decode cX4_strengthOf 35 = .ok (.goto 4, 3) := by decide +kernel
theorem dX4_strengthOf_38 : decode cX4_strengthOf 38 = .ok (.iconst 0, 1) := by decide +kernel
theorem dX4_strengthOf_39 : decode cX4_strengthOf 39 = .ok (.iadd, 1) := by decide +kernel
theorem dX4_strengthOf_40 : decode cX4_strengthOf 40 = .ok (.istore_n 2, 1) := by decide +kernel
theorem dX4_strengthOf_41 : decode cX4_strengthOf 41 = .ok (.iinc 3 1, 3) := by decide +kernel
theorem dX4_strengthOf_44 : decode cX4_strengthOf 44 = .ok (.goto (-40), 3) := by decide +kernel
theorem dX4_strengthOf_47 : decode cX4_strengthOf 47 = .ok (.iload_n 2, 1) := by decide +kernel
theorem dX4_strengthOf_48 : decode cX4_strengthOf 48 = .ok (.ireturn, 1) := by decide +kernel
theorem dX4_isRight_0 : decode cX4_isRight 0 = .ok (.aload_n 0, 1) := by decide +kernel
theorem dX4_isRight_1 : decode cX4_isRight 1 = .ok (.iload_n 1, 1) := by decide +kernel
theorem dX4_isRight_2 : decode cX4_isRight 2 = .ok (.invokestatic 64, 3) := by decide +kernel
theorem dX4_isRight_5 : decode cX4_isRight 5 = .ok (.invokevirtual 78, 3) := by decide +kernel
theorem dX4_isRight_8 : decode cX4_isRight 8 = .ok (.ifCond .eq 15, 3) := by decide +kernel
theorem dX4_isRight_11 : decode cX4_isRight 11 = .ok (.aload_n 0, 1) := by decide +kernel
theorem dX4_isRight_12 : decode cX4_isRight 12 = .ok (.iload_n 1, 1) := by decide +kernel
theorem dX4_isRight_13 : decode cX4_isRight 13 = .ok (.invokevirtual 109, 3) := by decide +kernel
theorem dX4_isRight_16 : decode cX4_isRight 16 = .ok (.ifCond .eq 7, 3) := by decide +kernel
theorem dX4_isRight_19 : decode cX4_isRight 19 = .ok (.iconst 1, 1) := by decide +kernel
theorem dX4_isRight_20 : decode cX4_isRight 20 = .ok (.goto 4, 3) := by decide +kernel
theorem dX4_isRight_23 : decode cX4_isRight 23 = .ok (.iconst 0, 1) := by decide +kernel
theorem dX4_isRight_24 : decode cX4_isRight 24 = .ok (.ireturn, 1) := by decide +kernel
theorem dX4_strength_0 : decode cX4_strength 0 = .ok (.aload_n 0, 1) := by decide +kernel
theorem dX4_strength_1 : decode cX4_strength 1 = .ok (.iload_n 1, 1) := by decide +kernel
theorem dX4_strength_2 : decode cX4_strength 2 = .ok (.invokestatic 64, 3) := by decide +kernel
theorem dX4_strength_5 : decode cX4_strength 5 = .ok (.invokevirtual 78, 3) := by decide +kernel
theorem dX4_strength_8 : decode cX4_strength 8 = .ok (.ifCond .eq 11, 3) := by decide +kernel
theorem dX4_strength_11 : decode cX4_strength 11 = .ok (.aload_n 0, 1) := by decide +kernel
theorem dX4_strength_12 : decode cX4_strength 12 = .ok (.iload_n 1, 1) := by decide +kernel
theorem dX4_strength_13 : decode cX4_strength 13 = .ok (.invokevirtual 112, 3) := by decide +kernel
theorem dX4_strength_16 : decode cX4_strength 16 = .ok (.goto 4, 3) := by decide +kernel
theorem dX4_strength_19 : decode cX4_strength 19 = .ok (.iconst 0, 1) := by decide +kernel
theorem dX4_strength_20 : decode cX4_strength 20 = .ok (.ireturn, 1) := by decide +kernel
theorem dX4_play_0 : decode cX4_play 0 = .ok (.iload_n 1, 1) := by decide +kernel
theorem dX4_play_1 : decode cX4_play 1 = .ok (.invokestatic 64, 3) := by decide +kernel
theorem dX4_play_4 : decode cX4_play 4 = .ok (.ifCond .eq 14, 3) := by decide +kernel
theorem dX4_play_7 : decode cX4_play 7 = .ok (.iload_n 2, 1) := by decide +kernel
theorem dX4_play_8 : decode cX4_play 8 = .ok (.invokestatic 64, 3) := by decide +kernel
theorem dX4_play_11 : decode cX4_play 11 = .ok (.ifCond .eq 7, 3) := by decide +kernel
theorem dX4_play_14 : decode cX4_play 14 = .ok (.iconst 1, 1) := by decide +kernel
theorem dX4_play_15 : decode cX4_play 15 = .ok (.goto 4, 3) := by decide +kernel
theorem dX4_play_18 : decode cX4_play 18 = .ok (.iconst 0, 1) := by decide +kernel
theorem dX4_play_19 : decode cX4_play 19 = .ok (.istore_n 3, 1) := by decide +kernel
theorem dX4_play_20 : decode cX4_play 20 = .ok (.aload_n 0, 1) := by decide +kernel
theorem dX4_play_21 : decode cX4_play 21 = .ok (.iload_n 3, 1) := by decide +kernel
theorem dX4_play_22 : decode cX4_play 22 = .ok (.iload_n 1, 1) := by decide +kernel
theorem dX4_play_23 : decode cX4_play 23 = .ok (.iload_n 2, 1) := by decide +kernel
theorem dX4_play_24 : decode cX4_play 24 = .ok (.if_icmp .eq 7, 3) := by decide +kernel
theorem dX4_play_27 : decode cX4_play 27 = .ok (.iconst 1, 1) := by decide +kernel
theorem dX4_play_28 : decode cX4_play 28 = .ok (.goto 4, 3) := by decide +kernel
theorem dX4_play_31 : decode cX4_play 31 = .ok (.iconst 0, 1) := by decide +kernel
theorem dX4_play_32 : decode cX4_play 32 = .ok (.iload_n 3, 1) := by decide +kernel
theorem dX4_play_33 : decode cX4_play 33 = .ok (.ifCond .eq 23, 3) := by decide +kernel
theorem dX4_play_36 : decode cX4_play 36 = .ok (.aload_n 0, 1) := by decide +kernel
theorem dX4_play_37 : decode cX4_play 37 = .ok (.iload_n 1, 1) := by decide +kernel
theorem dX4_play_38 : decode cX4_play 38 = .ok (.invokevirtual 109, 3) := by decide +kernel
theorem dX4_play_41 : decode cX4_play 41 = .ok (.ifCond .eq 15, 3) := by decide +kernel
theorem dX4_play_44 : decode cX4_play 44 = .ok (.aload_n 0, 1) := by decide +kernel
theorem dX4_play_45 : decode cX4_play 45 = .ok (.iload_n 2, 1) := by decide +kernel
theorem dX4_play_46 : decode cX4_play 46 = .ok (.invokevirtual 109, 3) := by decide +kernel
theorem dX4_play_49 : decode cX4_play 49 = .ok (.ifCond .eq 7, 3) := by decide +kernel
theorem dX4_play_52 : decode cX4_play 52 = .ok (.iconst 1, 1) := by decide +kernel
theorem dX4_play_53 : decode cX4_play 53 = .ok (.goto 4, 3) := by decide +kernel
theorem dX4_play_56 : decode cX4_play 56 = .ok (.iconst 0, 1) := by decide +kernel
theorem dX4_play_57 : decode cX4_play 57 = .ok (.invokevirtual 90, 3) := by decide +kernel
theorem dX4_play_60 : decode cX4_play 60 = .ok (.ifCond .ne 5, 3) := by decide +kernel
theorem dX4_play_63 : decode cX4_play 63 = .ok (.iconst 0, 1) := by decide +kernel
theorem dX4_play_64 : decode cX4_play 64 = .ok (.ireturn, 1) := by decide +kernel
theorem dX4_play_65 : decode cX4_play 65 = .ok (.aload_n 0, 1) := by decide +kernel
theorem dX4_play_66 : decode cX4_play 66 = .ok (.iload_n 2, 1) := by decide +kernel
theorem dX4_play_67 : decode cX4_play 67 = .ok (.invokevirtual 112, 3) := by decide +kernel
theorem dX4_play_70 : decode cX4_play 70 = .ok (.aload_n 0, 1) := by decide +kernel
theorem dX4_play_71 : decode cX4_play 71 = .ok (.iload_n 1, 1) := by decide +kernel
theorem dX4_play_72 : decode cX4_play 72 = .ok (.invokevirtual 112, 3) := by decide +kernel
theorem dX4_play_75 : decode cX4_play 75 = .ok (.if_icmp .le 7, 3) := by decide +kernel
theorem dX4_play_78 : decode cX4_play 78 = .ok (.iload_n 2, 1) := by decide +kernel
theorem dX4_play_79 : decode cX4_play 79 = .ok (.goto 4, 3) := by decide +kernel
theorem dX4_play_82 : decode cX4_play 82 = .ok (.iload_n 1, 1) := by decide +kernel
theorem dX4_play_83 : decode cX4_play 83 = .ok (.istore 4, 2) := by decide +kernel
theorem dX4_play_85 : decode cX4_play 85 = .ok (.aload_n 0, 1) := by decide +kernel
theorem dX4_play_86 : decode cX4_play 86 = .ok (.getfield 7, 3) := by decide +kernel
theorem dX4_play_89 : decode cX4_play 89 = .ok (.iload 4, 2) := by decide +kernel
theorem dX4_play_91 : decode cX4_play 91 = .ok (.dup2, 1) := by decide +kernel
theorem dX4_play_92 : decode cX4_play 92 = .ok (.iaload, 1) := by decide +kernel
theorem dX4_play_93 : decode cX4_play 93 = .ok (.iconst 5, 1) := by decide +kernel
theorem dX4_play_94 : decode cX4_play 94 = .ok (.iadd, 1) := by decide +kernel
theorem dX4_play_95 : decode cX4_play 95 = .ok (.iastore, 1) := by decide +kernel
theorem dX4_play_96 : decode cX4_play 96 = .ok (.iload 4, 2) := by decide +kernel
theorem dX4_play_98 : decode cX4_play 98 = .ok (.ireturn, 1) := by decide +kernel
theorem dJ6_bitCount_0f7a4_0 : decode cJ6_bitCount_0f7a4 0 = .ok (.iload_n 0, 1) := by decide +kernel
theorem dJ6_bitCount_0f7a4_1 : decode cJ6_bitCount_0f7a4 1 = .ok (.iload_n 0, 1) := by decide +kernel
theorem dJ6_bitCount_0f7a4_2 : decode cJ6_bitCount_0f7a4 2 = .ok (.iconst 1, 1) := by decide +kernel
theorem dJ6_bitCount_0f7a4_3 : decode cJ6_bitCount_0f7a4 3 = .ok (.iushr, 1) := by decide +kernel
theorem dJ6_bitCount_0f7a4_4 : decode cJ6_bitCount_0f7a4 4 = .ok (.ldc_w 265, 3) := by decide +kernel
theorem dJ6_bitCount_0f7a4_7 : decode cJ6_bitCount_0f7a4 7 = .ok (.iand, 1) := by decide +kernel
theorem dJ6_bitCount_0f7a4_8 : decode cJ6_bitCount_0f7a4 8 = .ok (.isub, 1) := by decide +kernel
theorem dJ6_bitCount_0f7a4_9 : decode cJ6_bitCount_0f7a4 9 = .ok (.istore_n 0, 1) := by decide +kernel
theorem dJ6_bitCount_0f7a4_10 : decode cJ6_bitCount_0f7a4 10 = .ok (.iload_n 0, 1) := by decide +kernel
theorem dJ6_bitCount_0f7a4_11 : decode cJ6_bitCount_0f7a4 11 = .ok (.ldc_w 266, 3) := by decide +kernel
theorem dJ6_bitCount_0f7a4_14 : decode cJ6_bitCount_0f7a4 14 = .ok (.iand, 1) := by decide +kernel
theorem dJ6_bitCount_0f7a4_15 : decode cJ6_bitCount_0f7a4 15 = .ok (.iload_n 0, 1) := by decide +kernel
theorem dJ6_bitCount_0f7a4_16 : decode cJ6_bitCount_0f7a4 16 = .ok (.iconst 2, 1) := by decide +kernel
theorem dJ6_bitCount_0f7a4_17 : decode cJ6_bitCount_0f7a4 17 = .ok (.iushr, 1) := by decide +kernel
theorem dJ6_bitCount_0f7a4_18 : decode cJ6_bitCount_0f7a4 18 = .ok (.ldc_w 266, 3) := by decide +kernel
theorem dJ6_bitCount_0f7a4_21 : decode cJ6_bitCount_0f7a4 21 = .ok (.iand, 1) := by decide +kernel
theorem dJ6_bitCount_0f7a4_22 : decode cJ6_bitCount_0f7a4 22 = .ok (.iadd, 1) := by decide +kernel
theorem dJ6_bitCount_0f7a4_23 : decode cJ6_bitCount_0f7a4 23 = .ok (.istore_n 0, 1) := by decide +kernel
theorem dJ6_bitCount_0f7a4_24 : decode cJ6_bitCount_0f7a4 24 = .ok (.iload_n 0, 1) := by decide +kernel
theorem dJ6_bitCount_0f7a4_25 : decode cJ6_bitCount_0f7a4 25 = .ok (.iload_n 0, 1) := by decide +kernel
theorem dJ6_bitCount_0f7a4_26 : decode cJ6_bitCount_0f7a4 26 = .ok (.iconst 4, 1) := by decide +kernel
theorem dJ6_bitCount_0f7a4_27 : decode cJ6_bitCount_0f7a4 27 = .ok (.iushr, 1) := by decide +kernel
theorem dJ6_bitCount_0f7a4_28 : decode cJ6_bitCount_0f7a4 28 = .ok (.iadd, 1) := by decide +kernel
theorem dJ6_bitCount_0f7a4_29 : decode cJ6_bitCount_0f7a4 29 = .ok (.ldc_w 267, 3) := by decide +kernel
theorem dJ6_bitCount_0f7a4_32 : decode cJ6_bitCount_0f7a4 32 = .ok (.iand, 1) := by decide +kernel
theorem dJ6_bitCount_0f7a4_33 : decode cJ6_bitCount_0f7a4 33 = .ok (.istore_n 0, 1) := by decide +kernel
theorem dJ6_bitCount_0f7a4_34 : decode cJ6_bitCount_0f7a4 34 = .ok (.iload_n 0, 1) := by decide +kernel
theorem dJ6_bitCount_0f7a4_35 : decode cJ6_bitCount_0f7a4 35 = .ok (.iload_n 0, 1) := by decide +kernel
theorem dJ6_bitCount_0f7a4_36 : decode cJ6_bitCount_0f7a4 36 = .ok (.bipush 8, 2) := by decide +kernel
theorem dJ6_bitCount_0f7a4_38 : decode cJ6_bitCount_0f7a4 38 = .ok (.iushr, 1) := by decide +kernel
theorem dJ6_bitCount_0f7a4_39 : decode cJ6_bitCount_0f7a4 39 = .ok (.iadd, 1) := by decide +kernel
theorem dJ6_bitCount_0f7a4_40 : decode cJ6_bitCount_0f7a4 40 = .ok (.istore_n 0, 1) := by decide +kernel
theorem dJ6_bitCount_0f7a4_41 : decode cJ6_bitCount_0f7a4 41 = .ok (.iload_n 0, 1) := by decide +kernel
theorem dJ6_bitCount_0f7a4_42 : decode cJ6_bitCount_0f7a4 42 = .ok (.iload_n 0, 1) := by decide +kernel
theorem dJ6_bitCount_0f7a4_43 : decode cJ6_bitCount_0f7a4 43 = .ok (.bipush 16, 2) := by decide +kernel
theorem dJ6_bitCount_0f7a4_45 : decode cJ6_bitCount_0f7a4 45 = .ok (.iushr, 1) := by decide +kernel
theorem dJ6_bitCount_0f7a4_46 : decode cJ6_bitCount_0f7a4 46 = .ok (.iadd, 1) := by decide +kernel
theorem dJ6_bitCount_0f7a4_47 : decode cJ6_bitCount_0f7a4 47 = .ok (.istore_n 0, 1) := by decide +kernel
theorem dJ6_bitCount_0f7a4_48 : decode cJ6_bitCount_0f7a4 48 = .ok (.iload_n 0, 1) := by decide +kernel
theorem dJ6_bitCount_0f7a4_49 : decode cJ6_bitCount_0f7a4 49 = .ok (.bipush 63, 2) := by decide +kernel
theorem dJ6_bitCount_0f7a4_51 : decode cJ6_bitCount_0f7a4 51 = .ok (.iand, 1) := by decide +kernel
theorem dJ6_bitCount_0f7a4_52 : decode cJ6_bitCount_0f7a4 52 = .ok (.ireturn, 1) := by decide +kernel
theorem dJ7_fill_53178_0 : decode cJ7_fill_53178 0 = .ok (.iconst 0, 1) := by decide +kernel
theorem dJ7_fill_53178_1 : decode cJ7_fill_53178 1 = .ok (.istore_n 2, 1) := by decide +kernel
theorem dJ7_fill_53178_2 : decode cJ7_fill_53178 2 = .ok (.aload_n 0, 1) := by decide +kernel
theorem dJ7_fill_53178_3 : decode cJ7_fill_53178 3 = .ok (.arraylength, 1) := by decide +kernel
theorem dJ7_fill_53178_4 : decode cJ7_fill_53178 4 = .ok (.istore_n 3, 1) := by decide +kernel
theorem dJ7_fill_53178_5 : decode cJ7_fill_53178 5 = .ok (.iload_n 2, 1) := by decide +kernel
theorem dJ7_fill_53178_6 : decode cJ7_fill_53178 6 = .ok (.iload_n 3, 1) := by decide +kernel
theorem dJ7_fill_53178_7 : decode cJ7_fill_53178 7 = .ok (.if_icmp .ge 13, 3) := by decide +kernel
theorem dJ7_fill_53178_10 : decode cJ7_fill_53178 10 = .ok (.aload_n 0, 1) := by decide +kernel
theorem dJ7_fill_53178_11 : decode cJ7_fill_53178 11 = .ok (.iload_n 2, 1) := by decide +kernel
theorem dJ7_fill_53178_12 : decode cJ7_fill_53178 12 = .ok (.iload_n 1, 1) := by decide +kernel
theorem dJ7_fill_53178_13 : decode cJ7_fill_53178 13 = .ok (.iastore, 1) := by decide +kernel
theorem dJ7_fill_53178_14 : decode cJ7_fill_53178 14 = .ok (.iinc 2 1, 3) := by decide +kernel
theorem dJ7_fill_53178_17 : decode cJ7_fill_53178 17 = .ok (.goto (-12), 3) := by decide +kernel
theorem dJ7_fill_53178_20 : decode cJ7_fill_53178 20 = .ok (.return_, 1) := by decide +kernel
end
section
set_option maxRecDepth 20000 in
theorem ggX0_bestBidder_X0_has : GoodIn wsX0_bestBidder wsX0_has := goodIn_r _ [5, 6, 12, 13] (by decide +kernel) (by decide +kernel)
set_option maxRecDepth 20000 in
theorem gX0_bestBidder_X0_has : GoodIn wsX0_bestBidder (wsV RX0 19 RX0 yX0_has wsX0_has) := goodIn_app (goodIn_of _ (by decide +kernel)) ggX0_bestBidder_X0_has
set_option maxRecDepth 20000 in
theorem ggX0_bestBidder_X0_isBefore : GoodIn wsX0_bestBidder wsX0_isBefore := goodIn_r _ [10, 6, 11, 12, 13] (by decide +kernel) (by decide +kernel)
set_option maxRecDepth 20000 in
theorem gX0_bestBidder_X0_isBefore : GoodIn wsX0_bestBidder (wsV RX0 23 RX0 yX0_isBefore wsX0_isBefore) := goodIn_app (goodIn_of _ (by decide +kernel)) ggX0_bestBidder_X0_isBefore
set_option maxRecDepth 20000 in
theorem ggX1_takeSalesOf_X1_isOnSale : GoodIn wsX1_takeSalesOf wsX1_isOnSale := goodIn_r _ [6, 7, 8, 14, 15, 16, 17, 18, 19, 20, 21, 22] (by decide +kernel) (by decide +kernel)
set_option maxRecDepth 20000 in
theorem gX1_takeSalesOf_X1_isOnSale : GoodIn wsX1_takeSalesOf (wsV RX1 40 RX1 yX1_isOnSale wsX1_isOnSale) := goodIn_app (goodIn_of _ (by decide +kernel)) ggX1_takeSalesOf_X1_isOnSale
set_option maxRecDepth 20000 in
theorem ggX1_takeSalesOf_X1_takeSale : GoodIn wsX1_takeSalesOf wsX1_takeSale := goodIn_r _ [12, 7, 13, 14, 15, 16, 17, 18, 19, 20, 21, 22] (by decide +kernel) (by decide +kernel)
set_option maxRecDepth 20000 in
theorem gX1_takeSalesOf_X1_takeSale : GoodIn wsX1_takeSalesOf (wsV RX1 44 RX1 yX1_takeSale wsX1_takeSale) := goodIn_app (goodIn_of _ (by decide +kernel)) ggX1_takeSalesOf_X1_takeSale
set_option maxRecDepth 20000 in
theorem ggX1_bestSale_X1_isOnSale : GoodIn wsX1_bestSale wsX1_isOnSale := goodIn_r _ [7, 8, 9, 16, 17, 18, 19, 20, 21, 22, 23, 24] (by decide +kernel) (by decide +kernel)
set_option maxRecDepth 20000 in
theorem gX1_bestSale_X1_isOnSale : GoodIn wsX1_bestSale (wsV RX1 40 RX1 yX1_isOnSale wsX1_isOnSale) := goodIn_app (goodIn_of _ (by decide +kernel)) ggX1_bestSale_X1_isOnSale
set_option maxRecDepth 20000 in
theorem ggX1_bestSale_X1_saleIsBefore : GoodIn wsX1_bestSale wsX1_saleIsBefore := goodIn_r _ [13, 14, 15, 16, 17, 18, 19, 20, 21, 22, 23, 24] (by decide +kernel) (by decide +kernel)
set_option maxRecDepth 20000 in
theorem gX1_bestSale_X1_saleIsBefore : GoodIn wsX1_bestSale (wsV RX1 48 RX1 yX1_saleIsBefore wsX1_saleIsBefore) := goodIn_app (goodIn_of _ (by decide +kernel)) ggX1_bestSale_X1_saleIsBefore
set_option maxRecDepth 20000 in
theorem ggX1_canBeSwapped_X1_has : GoodIn wsX1_canBeSwapped wsX1_has := goodIn_r _ [8, 9, 10, 11, 12, 13, 14, 15, 16, 17, 18] (by decide +kernel) (by decide +kernel)
set_option maxRecDepth 20000 in
theorem gX1_canBeSwapped_X1_has : GoodIn wsX1_canBeSwapped (wsV RX1 51 RX1 yX1_has wsX1_has) := goodIn_app (goodIn_of _ (by decide +kernel)) ggX1_canBeSwapped_X1_has
set_option maxRecDepth 20000 in
theorem ggX3_init_X1_init : GoodIn wsX3_init wsX1_init := goodIn_r _ [23, 24, 2, 3, 16, 25, 26, 27, 28, 29, 30, 31, 32, 33, 50, 51, 52, 53, 54, 55, 56, 57, 58] (by decide +kernel) (by decide +kernel)
set_option maxRecDepth 20000 in
theorem gX3_init_X1_init_n9 : GoodIn wsX3_init (wsX1_init) := ggX3_init_X1_init
set_option maxRecDepth 20000 in
theorem ggX3_init_X0_init : GoodIn wsX3_init wsX0_init := goodIn_r _ [35, 36, 2, 3, 37, 16, 38, 39, 67, 68] (by decide +kernel) (by decide +kernel)
set_option maxRecDepth 20000 in
theorem gX3_init_X0_init_n18 : GoodIn wsX3_init (wsX0_init) := ggX3_init_X0_init
set_option maxRecDepth 20000 in
theorem ggX3_init_X2_init : GoodIn wsX3_init wsX2_init := goodIn_r _ [41, 42, 2, 3, 16, 43, 44, 45, 69, 70, 71] (by decide +kernel) (by decide +kernel)
set_option maxRecDepth 20000 in
theorem gX3_init_X2_init_n25 : GoodIn wsX3_init (wsX2_init) := ggX3_init_X2_init
set_option maxRecDepth 20000 in
theorem ggX3_init_J7_fill_53178 : GoodIn wsX3_init wsJ7_fill_53178 := goodIn_r _ [49] (by decide +kernel) (by decide +kernel)
set_option maxRecDepth 20000 in
theorem gX3_init_J7_fill_53178 : GoodIn wsX3_init (va_wsS RX3 34 yJ7_fill_53178 wsJ7_fill_53178) := goodIn_app (goodIn_of _ (by decide +kernel)) ggX3_init_J7_fill_53178
set_option maxRecDepth 20000 in
theorem ggX3_mint_X3_needPlayer : GoodIn wsX3_mint wsX3_needPlayer := goodIn_ca (goodIn_r _ [8, 9, 10] (by decide +kernel) (by decide +kernel)) (goodIn_sub (fun _ h => List.mem_cons_of_mem _ (List.mem_append_right _ h)) (by decide +kernel))
set_option maxRecDepth 20000 in
theorem gX3_mint_X3_needPlayer : GoodIn wsX3_mint (va_wsS RX3 53 yX3_needPlayer wsX3_needPlayer) := goodIn_app (goodIn_of _ (by decide +kernel)) ggX3_mint_X3_needPlayer
set_option maxRecDepth 20000 in
theorem ggX3_mint_X3_needKind : GoodIn wsX3_mint wsX3_needKind := goodIn_ca (goodIn_r _ [13, 9, 10] (by decide +kernel) (by decide +kernel)) (goodIn_sub (fun _ h => List.mem_cons_of_mem _ (List.mem_append_right _ h)) (by decide +kernel))
set_option maxRecDepth 20000 in
theorem gX3_mint_X3_needKind : GoodIn wsX3_mint (va_wsS RX3 57 yX3_needKind wsX3_needKind) := goodIn_app (goodIn_of _ (by decide +kernel)) ggX3_mint_X3_needKind
set_option maxRecDepth 20000 in
theorem ggX3_mint_X1_isFull : GoodIn wsX3_mint wsX1_isFull := goodIn_r _ [18, 19, 43, 44, 45, 46, 47, 48, 49, 50, 51] (by decide +kernel) (by decide +kernel)
set_option maxRecDepth 20000 in
theorem gX3_mint_X1_isFull : GoodIn wsX3_mint (wsV RX3 60 RX1 yX1_isFull wsX1_isFull) := goodIn_app (goodIn_of _ (by decide +kernel)) ggX3_mint_X1_isFull
set_option maxRecDepth 20000 in
theorem ggX3_mint_X1_add : GoodIn wsX3_mint wsX1_add := goodIn_r _ [23, 19, 24, 25, 26, 43, 44, 45, 46, 47, 48, 49, 50, 51] (by decide +kernel) (by decide +kernel)
set_option maxRecDepth 20000 in
theorem gX3_mint_X1_add : GoodIn wsX3_mint (wsV RX3 71 RX1 yX1_add wsX1_add) := goodIn_app (goodIn_of _ (by decide +kernel)) ggX3_mint_X1_add
set_option maxRecDepth 20000 in
theorem ggX3_mint_X2_record : GoodIn wsX3_mint wsX2_record := goodIn_r _ [31, 32, 33, 34, 52, 53, 54] (by decide +kernel) (by decide +kernel)
set_option maxRecDepth 20000 in
theorem gX3_mint_X2_record : GoodIn wsX3_mint (wsV RX3 75 RX2 yX2_record wsX2_record) := goodIn_app (goodIn_of _ (by decide +kernel)) ggX3_mint_X2_record
set_option maxRecDepth 20000 in
theorem ggX3_owner_X3_needCard : GoodIn wsX3_owner wsX3_needCard := goodIn_ca (goodIn_r _ [7, 8, 9, 1, 10, 11, 12, 13, 14, 15, 16, 17, 18, 19, 20, 21, 22, 23, 24, 25, 26, 27, 28, 29, 30, 31, 32] (by decide +kernel) (by decide +kernel)) (goodIn_sub (fun _ h => List.mem_cons_of_mem _ (List.mem_append_right _ h)) (by decide +kernel))
set_option maxRecDepth 20000 in
theorem gX3_owner_X3_needCard : GoodIn wsX3_owner (wsV RX3 79 RX3 yX3_needCard wsX3_needCard) := goodIn_app (goodIn_of _ (by decide +kernel)) ggX3_owner_X3_needCard
set_option maxRecDepth 20000 in
theorem ggX3_ownerByHistory_X3_needCard : GoodIn wsX3_ownerByHistory wsX3_needCard := goodIn_ca (goodIn_r _ [6, 7, 8, 9, 10, 11, 12, 13, 14, 15, 24, 25, 26, 27, 28, 29, 30, 31, 32, 33, 34, 35, 36, 37, 38, 39, 40] (by decide +kernel) (by decide +kernel)) (goodIn_sub (fun _ h => List.mem_cons_of_mem _ (List.mem_append_right _ h)) (by decide +kernel))
set_option maxRecDepth 20000 in
theorem gX3_ownerByHistory_X3_needCard : GoodIn wsX3_ownerByHistory (wsV RX3 79 RX3 yX3_needCard wsX3_needCard) := goodIn_app (goodIn_of _ (by decide +kernel)) ggX3_ownerByHistory_X3_needCard
set_option maxRecDepth 20000 in
theorem ggX3_ownerByHistory_X2_lastOwner : GoodIn wsX3_ownerByHistory wsX2_lastOwner := goodIn_r _ [20, 21, 22, 23, 41, 42, 43] (by decide +kernel) (by decide +kernel)
set_option maxRecDepth 20000 in
theorem gX3_ownerByHistory_X2_lastOwner : GoodIn wsX3_ownerByHistory (wsV RX3 85 RX2 yX2_lastOwner wsX2_lastOwner) := goodIn_app (goodIn_of _ (by decide +kernel)) ggX3_ownerByHistory_X2_lastOwner
set_option maxRecDepth 20000 in
theorem ggX3_holder_X3_needCard : GoodIn wsX3_holder wsX3_needCard := goodIn_ca (goodIn_r _ [6, 7, 8, 1, 9, 10, 11, 12, 13, 14, 22, 23, 24, 25, 26, 27, 28, 29, 30, 31, 32, 33, 34, 35, 36, 37, 38] (by decide +kernel) (by decide +kernel)) (goodIn_sub (fun _ h => List.mem_cons_of_mem _ (List.mem_append_right _ h)) (by decide +kernel))
set_option maxRecDepth 20000 in
theorem gX3_holder_X3_needCard : GoodIn wsX3_holder (wsV RX3 79 RX3 yX3_needCard wsX3_needCard) := goodIn_app (goodIn_of _ (by decide +kernel)) ggX3_holder_X3_needCard
set_option maxRecDepth 20000 in
theorem ggX3_holder_X1_holderOf : GoodIn wsX3_holder wsX1_holderOf := goodIn_r _ [18, 19, 20, 21, 30, 31, 32, 33, 34, 35, 36, 37, 38] (by decide +kernel) (by decide +kernel)
set_option maxRecDepth 20000 in
theorem gX3_holder_X1_holderOf : GoodIn wsX3_holder (wsV RX3 89 RX1 yX1_holderOf wsX1_holderOf) := goodIn_app (goodIn_of _ (by decide +kernel)) ggX3_holder_X1_holderOf
set_option maxRecDepth 20000 in
theorem ggX3_stateOf_X3_needCard : GoodIn wsX3_stateOf wsX3_needCard := goodIn_ca (goodIn_r _ [7, 8, 9, 1, 10, 11, 12, 13, 14, 15, 16, 17, 18, 19, 20, 21, 22, 23, 24, 25, 26, 27, 28, 29, 30, 31, 32] (by decide +kernel) (by decide +kernel)) (goodIn_sub (fun _ h => List.mem_cons_of_mem _ (List.mem_append_right _ h)) (by decide +kernel))
set_option maxRecDepth 20000 in
theorem gX3_stateOf_X3_needCard : GoodIn wsX3_stateOf (wsV RX3 79 RX3 yX3_needCard wsX3_needCard) := goodIn_app (goodIn_of _ (by decide +kernel)) ggX3_stateOf_X3_needCard
set_option maxRecDepth 20000 in
theorem ggX3_coins_X3_needPlayer : GoodIn wsX3_coins wsX3_needPlayer := goodIn_ca (goodIn_r _ [5, 6, 7] (by decide +kernel) (by decide +kernel)) (goodIn_sub (fun _ h => List.mem_cons_of_mem _ (List.mem_append_right _ h)) (by decide +kernel))
set_option maxRecDepth 20000 in
theorem gX3_coins_X3_needPlayer : GoodIn wsX3_coins (va_wsS RX3 53 yX3_needPlayer wsX3_needPlayer) := goodIn_app (goodIn_of _ (by decide +kernel)) ggX3_coins_X3_needPlayer
set_option maxRecDepth 20000 in
theorem ggX3_sell_X3_needCard : GoodIn wsX3_sell wsX3_needCard := goodIn_ca (goodIn_r _ [15, 16, 17, 3, 18, 19, 20, 21, 22, 23, 74, 75, 76, 77, 78, 79, 80, 81, 82, 83, 84, 85, 86, 87, 88, 89, 90] (by decide +kernel) (by decide +kernel)) (goodIn_sub (fun _ h => List.mem_cons_of_mem _ (List.mem_append_left _ (List.mem_append_right _ h))) (by decide +kernel))
set_option maxRecDepth 20000 in
theorem gX3_sell_X3_needCard : GoodIn wsX3_sell (wsV RX3 79 RX3 yX3_needCard wsX3_needCard) := goodIn_app (goodIn_of _ (by decide +kernel)) ggX3_sell_X3_needCard
set_option maxRecDepth 20000 in
theorem ggX3_sell_X3_needPrice : GoodIn wsX3_sell wsX3_needPrice := goodIn_ca (goodIn_r _ [26, 27, 28] (by decide +kernel) (by decide +kernel)) (goodIn_sub (fun _ h => List.mem_cons_of_mem _ (List.mem_append_right _ h)) (by decide +kernel))
set_option maxRecDepth 20000 in
theorem gX3_sell_X3_needPrice : GoodIn wsX3_sell (va_wsS RX3 95 yX3_needPrice wsX3_needPrice) := goodIn_app (goodIn_of _ (by decide +kernel)) ggX3_sell_X3_needPrice
set_option maxRecDepth 20000 in
theorem ggX3_sell_X3_bannedToday : GoodIn wsX3_sell wsX3_bannedToday := goodIn_r _ [32, 33, 34, 74, 75, 76, 77, 78, 79, 80, 81] (by decide +kernel) (by decide +kernel)
set_option maxRecDepth 20000 in
theorem gX3_sell_X3_bannedToday : GoodIn wsX3_sell (wsV RX3 101 RX3 yX3_bannedToday wsX3_bannedToday) := goodIn_app (goodIn_of _ (by decide +kernel)) ggX3_sell_X3_bannedToday
set_option maxRecDepth 20000 in
theorem ggX3_sell_X0_bestBidder : GoodIn wsX3_sell wsX0_bestBidder := goodIn_r _ [39, 40, 41, 42, 38, 43, 44, 45, 46, 47, 48, 49, 91, 92] (by decide +kernel) (by decide +kernel)
set_option maxRecDepth 20000 in
theorem gX3_sell_X0_bestBidder : GoodIn wsX3_sell (wsV RX3 107 RX0 yX0_bestBidder wsX0_bestBidder) := goodIn_app (goodIn_of _ (by decide +kernel)) ggX3_sell_X0_bestBidder
set_option maxRecDepth 20000 in
theorem ggX3_sell_X1_putSale : GoodIn wsX3_sell wsX1_putSale := goodIn_r _ [53, 54, 55, 56, 82, 83, 84, 85, 86, 87, 88, 89, 90] (by decide +kernel) (by decide +kernel)
set_option maxRecDepth 20000 in
theorem gX3_sell_X1_putSale : GoodIn wsX3_sell (wsV RX3 114 RX1 yX1_putSale wsX1_putSale) := goodIn_app (goodIn_of _ (by decide +kernel)) ggX3_sell_X1_putSale
set_option maxRecDepth 20000 in
theorem ggX3_sell_X0_take : GoodIn wsX3_sell wsX0_take := goodIn_r _ [60, 44, 91, 92] (by decide +kernel) (by decide +kernel)
set_option maxRecDepth 20000 in
theorem gX3_sell_X0_take : GoodIn wsX3_sell (wsV RX3 118 RX0 yX0_take wsX0_take) := goodIn_app (goodIn_of _ (by decide +kernel)) ggX3_sell_X0_take
set_option maxRecDepth 20000 in
theorem ggX3_sell_X3_giveTo : GoodIn wsX3_sell wsX3_giveTo := goodIn_r _ [64, 3, 7, 5, 65, 66, 67, 68, 69, 70, 71, 72, 73, 74, 75, 76, 77, 78, 79, 80, 81, 82, 83, 84, 85, 86, 87, 88, 89, 90, 93, 94, 95] (by decide +kernel) (by decide +kernel)
set_option maxRecDepth 20000 in
theorem gX3_sell_X3_giveTo : GoodIn wsX3_sell (wsV RX3 121 RX3 yX3_giveTo wsX3_giveTo) := goodIn_app (goodIn_of _ (by decide +kernel)) ggX3_sell_X3_giveTo
set_option maxRecDepth 20000 in
theorem ggX3_bid_X3_needPlayer : GoodIn wsX3_bid wsX3_needPlayer := goodIn_ca (goodIn_r _ [12, 13, 14] (by decide +kernel) (by decide +kernel)) (goodIn_sub (fun _ h => List.mem_cons_of_mem _ (List.mem_append_left _ (List.mem_append_right _ h))) (by decide +kernel))
set_option maxRecDepth 20000 in
theorem gX3_bid_X3_needPlayer : GoodIn wsX3_bid (va_wsS RX3 53 yX3_needPlayer wsX3_needPlayer) := goodIn_app (goodIn_of _ (by decide +kernel)) ggX3_bid_X3_needPlayer
set_option maxRecDepth 20000 in
theorem ggX3_bid_X3_needKind : GoodIn wsX3_bid wsX3_needKind := goodIn_ca (goodIn_r _ [17, 13, 14] (by decide +kernel) (by decide +kernel)) (goodIn_sub (fun _ h => List.mem_cons_of_mem _ (List.mem_append_left _ (List.mem_append_right _ h))) (by decide +kernel))
set_option maxRecDepth 20000 in
theorem gX3_bid_X3_needKind : GoodIn wsX3_bid (va_wsS RX3 57 yX3_needKind wsX3_needKind) := goodIn_app (goodIn_of _ (by decide +kernel)) ggX3_bid_X3_needKind
set_option maxRecDepth 20000 in
theorem ggX3_bid_X3_needPrice : GoodIn wsX3_bid wsX3_needPrice := goodIn_ca (goodIn_r _ [20, 21, 22] (by decide +kernel) (by decide +kernel)) (goodIn_sub (fun _ h => List.mem_cons_of_mem _ (List.mem_append_right _ h)) (by decide +kernel))
set_option maxRecDepth 20000 in
theorem gX3_bid_X3_needPrice : GoodIn wsX3_bid (va_wsS RX3 95 yX3_needPrice wsX3_needPrice) := goodIn_app (goodIn_of _ (by decide +kernel)) ggX3_bid_X3_needPrice
set_option maxRecDepth 20000 in
theorem ggX3_bid_X0_has : GoodIn wsX3_bid wsX0_has := goodIn_r _ [27, 28, 94, 95] (by decide +kernel) (by decide +kernel)
set_option maxRecDepth 20000 in
theorem gX3_bid_X0_has : GoodIn wsX3_bid (wsV RX3 124 RX0 yX0_has wsX0_has) := goodIn_app (goodIn_of _ (by decide +kernel)) ggX3_bid_X0_has
set_option maxRecDepth 20000 in
theorem ggX3_bid_X3_bannedToday : GoodIn wsX3_bid wsX3_bannedToday := goodIn_r _ [32, 33, 34, 77, 78, 79, 80, 81, 82, 83, 84] (by decide +kernel) (by decide +kernel)
set_option maxRecDepth 20000 in
theorem gX3_bid_X3_bannedToday : GoodIn wsX3_bid (wsV RX3 101 RX3 yX3_bannedToday wsX3_bannedToday) := goodIn_app (goodIn_of _ (by decide +kernel)) ggX3_bid_X3_bannedToday
set_option maxRecDepth 20000 in
theorem ggX3_bid_X1_bestSale : GoodIn wsX3_bid wsX1_bestSale := goodIn_r _ [39, 40, 41, 42, 43, 44, 38, 45, 46, 47, 48, 49, 50, 51, 52, 53, 85, 86, 87, 88, 89, 90, 91, 92, 93] (by decide +kernel) (by decide +kernel)
set_option maxRecDepth 20000 in
theorem gX3_bid_X1_bestSale : GoodIn wsX3_bid (wsV RX3 130 RX1 yX1_bestSale wsX1_bestSale) := goodIn_app (goodIn_of _ (by decide +kernel)) ggX3_bid_X1_bestSale
set_option maxRecDepth 20000 in
theorem ggX3_bid_X0_put : GoodIn wsX3_bid wsX0_put := goodIn_r _ [57, 28, 58, 94, 95] (by decide +kernel) (by decide +kernel)
set_option maxRecDepth 20000 in
theorem gX3_bid_X0_put : GoodIn wsX3_bid (wsV RX3 136 RX0 yX0_put wsX0_put) := goodIn_app (goodIn_of _ (by decide +kernel)) ggX3_bid_X0_put
set_option maxRecDepth 20000 in
theorem ggX3_bid_X1_takeSale : GoodIn wsX3_bid wsX1_takeSale := goodIn_r _ [62, 46, 52, 85, 86, 87, 88, 89, 90, 91, 92, 93] (by decide +kernel) (by decide +kernel)
set_option maxRecDepth 20000 in
theorem gX3_bid_X1_takeSale : GoodIn wsX3_bid (wsV RX3 140 RX1 yX1_takeSale wsX1_takeSale) := goodIn_app (goodIn_of _ (by decide +kernel)) ggX3_bid_X1_takeSale
set_option maxRecDepth 20000 in
theorem ggX3_bid_X3_giveTo : GoodIn wsX3_bid wsX3_giveTo := goodIn_r _ [66, 5, 8, 67, 68, 69, 70, 71, 72, 73, 74, 75, 76, 77, 78, 79, 80, 81, 82, 83, 84, 85, 86, 87, 88, 89, 90, 91, 92, 93, 96, 97, 98] (by decide +kernel) (by decide +kernel)
set_option maxRecDepth 20000 in
theorem gX3_bid_X3_giveTo : GoodIn wsX3_bid (wsV RX3 121 RX3 yX3_giveTo wsX3_giveTo) := goodIn_app (goodIn_of _ (by decide +kernel)) ggX3_bid_X3_giveTo
set_option maxRecDepth 20000 in
theorem ggX3_cancelSale_X3_needCard : GoodIn wsX3_cancelSale wsX3_needCard := goodIn_ca (goodIn_r _ [9, 10, 11, 3, 12, 13, 14, 15, 16, 17, 24, 25, 26, 27, 28, 29, 30, 31, 32, 33, 34, 35, 36, 37, 38, 39, 40] (by decide +kernel) (by decide +kernel)) (goodIn_sub (fun _ h => List.mem_cons_of_mem _ (List.mem_append_right _ h)) (by decide +kernel))
set_option maxRecDepth 20000 in
theorem gX3_cancelSale_X3_needCard : GoodIn wsX3_cancelSale (wsV RX3 79 RX3 yX3_needCard wsX3_needCard) := goodIn_app (goodIn_of _ (by decide +kernel)) ggX3_cancelSale_X3_needCard
set_option maxRecDepth 20000 in
theorem ggX3_cancelSale_X1_takeSale : GoodIn wsX3_cancelSale wsX1_takeSale := goodIn_r _ [21, 22, 23, 32, 33, 34, 35, 36, 37, 38, 39, 40] (by decide +kernel) (by decide +kernel)
set_option maxRecDepth 20000 in
theorem gX3_cancelSale_X1_takeSale : GoodIn wsX3_cancelSale (wsV RX3 140 RX1 yX1_takeSale wsX1_takeSale) := goodIn_app (goodIn_of _ (by decide +kernel)) ggX3_cancelSale_X1_takeSale
set_option maxRecDepth 20000 in
theorem ggX3_cancelBid_X3_needPlayer : GoodIn wsX3_cancelBid wsX3_needPlayer := goodIn_ca (goodIn_r _ [7, 8, 9] (by decide +kernel) (by decide +kernel)) (goodIn_sub (fun _ h => List.mem_cons_of_mem _ (List.mem_append_right _ h)) (by decide +kernel))
set_option maxRecDepth 20000 in
theorem gX3_cancelBid_X3_needPlayer : GoodIn wsX3_cancelBid (va_wsS RX3 53 yX3_needPlayer wsX3_needPlayer) := goodIn_app (goodIn_of _ (by decide +kernel)) ggX3_cancelBid_X3_needPlayer
set_option maxRecDepth 20000 in
theorem ggX3_cancelBid_X3_needKind : GoodIn wsX3_cancelBid wsX3_needKind := goodIn_ca (goodIn_r _ [12, 8, 9] (by decide +kernel) (by decide +kernel)) (goodIn_sub (fun _ h => List.mem_cons_of_mem _ (List.mem_append_right _ h)) (by decide +kernel))
set_option maxRecDepth 20000 in
theorem gX3_cancelBid_X3_needKind : GoodIn wsX3_cancelBid (va_wsS RX3 57 yX3_needKind wsX3_needKind) := goodIn_app (goodIn_of _ (by decide +kernel)) ggX3_cancelBid_X3_needKind
set_option maxRecDepth 20000 in
theorem ggX3_cancelBid_X0_has : GoodIn wsX3_cancelBid wsX0_has := goodIn_r _ [17, 18, 36, 37] (by decide +kernel) (by decide +kernel)
set_option maxRecDepth 20000 in
theorem gX3_cancelBid_X0_has : GoodIn wsX3_cancelBid (wsV RX3 124 RX0 yX0_has wsX0_has) := goodIn_app (goodIn_of _ (by decide +kernel)) ggX3_cancelBid_X0_has
set_option maxRecDepth 20000 in
theorem ggX3_cancelBid_X3_giveBidBack : GoodIn wsX3_cancelBid wsX3_giveBidBack := goodIn_r _ [22, 3, 23, 24, 25, 26, 16, 27, 18, 28, 29, 30, 31, 32, 33, 34, 35, 36, 37] (by decide +kernel) (by decide +kernel)
set_option maxRecDepth 20000 in
theorem gX3_cancelBid_X3_giveBidBack : GoodIn wsX3_cancelBid (wsV RX3 147 RX3 yX3_giveBidBack wsX3_giveBidBack) := goodIn_app (goodIn_of _ (by decide +kernel)) ggX3_cancelBid_X3_giveBidBack
set_option maxRecDepth 20000 in
theorem ggX3_leastSale_X3_needKind : GoodIn wsX3_leastSale wsX3_needKind := goodIn_ca (goodIn_r _ [6, 7, 8] (by decide +kernel) (by decide +kernel)) (goodIn_sub (fun _ h => List.mem_cons_of_mem _ (List.mem_append_right _ h)) (by decide +kernel))
set_option maxRecDepth 20000 in
theorem gX3_leastSale_X3_needKind : GoodIn wsX3_leastSale (va_wsS RX3 57 yX3_needKind wsX3_needKind) := goodIn_app (goodIn_of _ (by decide +kernel)) ggX3_leastSale_X3_needKind
set_option maxRecDepth 20000 in
theorem ggX3_leastSale_X1_bestSale : GoodIn wsX3_leastSale wsX1_bestSale := goodIn_r _ [13, 14, 15, 16, 17, 18, 12, 19, 20, 21, 22, 23, 24, 25, 26, 27, 36, 37, 38, 39, 40, 41, 42, 43, 44] (by decide +kernel) (by decide +kernel)
set_option maxRecDepth 20000 in
theorem gX3_leastSale_X1_bestSale : GoodIn wsX3_leastSale (wsV RX3 130 RX1 yX1_bestSale wsX1_bestSale) := goodIn_app (goodIn_of _ (by decide +kernel)) ggX3_leastSale_X1_bestSale
set_option maxRecDepth 20000 in
theorem ggX3_greatestBid_X3_needKind : GoodIn wsX3_greatestBid wsX3_needKind := goodIn_ca (goodIn_r _ [6, 7, 8] (by decide +kernel) (by decide +kernel)) (goodIn_sub (fun _ h => List.mem_cons_of_mem _ (List.mem_append_right _ h)) (by decide +kernel))
set_option maxRecDepth 20000 in
theorem gX3_greatestBid_X3_needKind : GoodIn wsX3_greatestBid (va_wsS RX3 57 yX3_needKind wsX3_needKind) := goodIn_app (goodIn_of _ (by decide +kernel)) ggX3_greatestBid_X3_needKind
set_option maxRecDepth 20000 in
theorem ggX3_greatestBid_X0_bestBidder : GoodIn wsX3_greatestBid wsX0_bestBidder := goodIn_r _ [13, 14, 15, 16, 12, 17, 18, 19, 20, 21, 22, 23, 32, 33] (by decide +kernel) (by decide +kernel)
set_option maxRecDepth 20000 in
theorem gX3_greatestBid_X0_bestBidder : GoodIn wsX3_greatestBid (wsV RX3 107 RX0 yX0_bestBidder wsX0_bestBidder) := goodIn_app (goodIn_of _ (by decide +kernel)) ggX3_greatestBid_X0_bestBidder
set_option maxRecDepth 20000 in
theorem ggX3_swap_X3_needCard : GoodIn wsX3_swap wsX3_needCard := goodIn_ca (goodIn_r _ [13, 14, 15, 5, 16, 17, 18, 19, 20, 21, 22, 23, 24, 25, 26, 27, 28, 29, 30, 31, 32, 33, 34, 35, 36, 37, 38] (by decide +kernel) (by decide +kernel)) (goodIn_sub (fun _ h => List.mem_cons_of_mem _ (List.mem_append_right _ h)) (by decide +kernel))
set_option maxRecDepth 20000 in
theorem gX3_swap_X3_needCard : GoodIn wsX3_swap (wsV RX3 79 RX3 yX3_needCard wsX3_needCard) := goodIn_app (goodIn_of _ (by decide +kernel)) ggX3_swap_X3_needCard
set_option maxRecDepth 20000 in
theorem ggX3_agree_X3_needCard : GoodIn wsX3_agree wsX3_needCard := goodIn_ca (goodIn_r _ [10, 11, 12, 3, 13, 14, 15, 16, 17, 18, 41, 42, 43, 44, 45, 46, 47, 48, 49, 50, 51, 52, 53, 54, 55, 56, 57] (by decide +kernel) (by decide +kernel)) (goodIn_sub (fun _ h => List.mem_cons_of_mem _ (List.mem_append_right _ h)) (by decide +kernel))
set_option maxRecDepth 20000 in
theorem gX3_agree_X3_needCard : GoodIn wsX3_agree (wsV RX3 79 RX3 yX3_needCard wsX3_needCard) := goodIn_app (goodIn_of _ (by decide +kernel)) ggX3_agree_X3_needCard
set_option maxRecDepth 20000 in
theorem ggX3_agree_X1_canBeSwapped : GoodIn wsX3_agree wsX1_canBeSwapped := goodIn_r _ [22, 23, 24, 25, 26, 14, 15, 16, 17, 18, 49, 50, 51, 52, 53, 54, 55, 56, 57] (by decide +kernel) (by decide +kernel)
set_option maxRecDepth 20000 in
theorem gX3_agree_X1_canBeSwapped : GoodIn wsX3_agree (wsV RX3 160 RX1 yX1_canBeSwapped wsX1_canBeSwapped) := goodIn_app (goodIn_of _ (by decide +kernel)) ggX3_agree_X1_canBeSwapped
set_option maxRecDepth 20000 in
theorem ggX3_agree_X3_giveTo : GoodIn wsX3_agree wsX3_giveTo := goodIn_r _ [30, 3, 5, 31, 32, 33, 34, 35, 36, 37, 38, 39, 40, 41, 42, 43, 44, 45, 46, 47, 48, 49, 50, 51, 52, 53, 54, 55, 56, 57, 58, 59, 60] (by decide +kernel) (by decide +kernel)
set_option maxRecDepth 20000 in
theorem gX3_agree_X3_giveTo : GoodIn wsX3_agree (wsV RX3 121 RX3 yX3_giveTo wsX3_giveTo) := goodIn_app (goodIn_of _ (by decide +kernel)) ggX3_agree_X3_giveTo
set_option maxRecDepth 20000 in
theorem ggX3_cancelSwap_X3_needCard : GoodIn wsX3_cancelSwap wsX3_needCard := goodIn_ca (goodIn_r _ [9, 10, 11, 3, 12, 13, 14, 15, 16, 17, 18, 19, 20, 21, 22, 23, 24, 25, 26, 27, 28, 29, 30, 31, 32, 33, 34] (by decide +kernel) (by decide +kernel)) (goodIn_sub (fun _ h => List.mem_cons_of_mem _ (List.mem_append_right _ h)) (by decide +kernel))
set_option maxRecDepth 20000 in
theorem gX3_cancelSwap_X3_needCard : GoodIn wsX3_cancelSwap (wsV RX3 79 RX3 yX3_needCard wsX3_needCard) := goodIn_app (goodIn_of _ (by decide +kernel)) ggX3_cancelSwap_X3_needCard
set_option maxRecDepth 20000 in
theorem ggX3_lend_X3_needCard : GoodIn wsX3_lend wsX3_needCard := goodIn_ca (goodIn_r _ [13, 14, 15, 5, 16, 17, 18, 19, 20, 21, 32, 33, 34, 35, 36, 37, 38, 39, 40, 41, 42, 43, 44, 45, 46, 47, 48] (by decide +kernel) (by decide +kernel)) (goodIn_sub (fun _ h => List.mem_cons_of_mem _ (List.mem_append_right _ h)) (by decide +kernel))
set_option maxRecDepth 20000 in
theorem gX3_lend_X3_needCard : GoodIn wsX3_lend (wsV RX3 79 RX3 yX3_needCard wsX3_needCard) := goodIn_app (goodIn_of _ (by decide +kernel)) ggX3_lend_X3_needCard
set_option maxRecDepth 20000 in
theorem ggX3_lend_X3_needPlayer : GoodIn wsX3_lend wsX3_needPlayer := goodIn_ca (goodIn_r _ [24, 14, 15] (by decide +kernel) (by decide +kernel)) (goodIn_sub (fun _ h => List.mem_cons_of_mem _ (List.mem_append_right _ h)) (by decide +kernel))
set_option maxRecDepth 20000 in
theorem gX3_lend_X3_needPlayer : GoodIn wsX3_lend (va_wsS RX3 53 yX3_needPlayer wsX3_needPlayer) := goodIn_app (goodIn_of _ (by decide +kernel)) ggX3_lend_X3_needPlayer
end
section
set_option maxRecDepth 20000 in
theorem ggX3_lend_X1_lendTo : GoodIn wsX3_lend wsX1_lendTo := goodIn_r _ [28, 29, 30, 31, 40, 41, 42, 43, 44, 45, 46, 47, 48] (by decide +kernel) (by decide +kernel)
set_option maxRecDepth 20000 in
theorem gX3_lend_X1_lendTo : GoodIn wsX3_lend (wsV RX3 169 RX1 yX1_lendTo wsX1_lendTo) := goodIn_app (goodIn_of _ (by decide +kernel)) ggX3_lend_X1_lendTo
set_option maxRecDepth 20000 in
theorem ggX3_ban_X3_needKind : GoodIn wsX3_ban wsX3_needKind := goodIn_ca (goodIn_r _ [8, 9, 10] (by decide +kernel) (by decide +kernel)) (goodIn_sub (fun _ h => List.mem_cons_of_mem _ (List.mem_append_right _ h)) (by decide +kernel))
set_option maxRecDepth 20000 in
theorem gX3_ban_X3_needKind : GoodIn wsX3_ban (va_wsS RX3 57 yX3_needKind wsX3_needKind) := goodIn_app (goodIn_of _ (by decide +kernel)) ggX3_ban_X3_needKind
set_option maxRecDepth 20000 in
theorem ggX3_ban_X3_bannedToday : GoodIn wsX3_ban wsX3_bannedToday := goodIn_r _ [14, 4, 3, 53, 54, 55, 56, 57, 58, 59, 60] (by decide +kernel) (by decide +kernel)
set_option maxRecDepth 20000 in
theorem gX3_ban_X3_bannedToday : GoodIn wsX3_ban (wsV RX3 101 RX3 yX3_bannedToday wsX3_bannedToday) := goodIn_app (goodIn_of _ (by decide +kernel)) ggX3_ban_X3_bannedToday
set_option maxRecDepth 20000 in
theorem ggX3_ban_X3_clearMarket : GoodIn wsX3_ban wsX3_clearMarket := goodIn_r _ [18, 19, 20, 21, 22, 23, 24, 25, 26, 27, 28, 29, 30, 31, 32, 33, 34, 35, 36, 37, 38, 39, 40, 41, 42, 43, 44, 45, 46, 7, 47, 48, 49, 50, 51, 52, 53, 54, 55, 56, 57, 58, 59, 60, 61, 62, 63, 64, 65, 66, 67, 68, 69, 70, 71] (by decide +kernel) (by decide +kernel)
set_option maxRecDepth 20000 in
theorem gX3_ban_X3_clearMarket : GoodIn wsX3_ban (wsV RX3 174 RX3 yX3_clearMarket wsX3_clearMarket) := goodIn_app (goodIn_of _ (by decide +kernel)) ggX3_ban_X3_clearMarket
set_option maxRecDepth 20000 in
theorem ggX3_lift_X3_needKind : GoodIn wsX3_lift wsX3_needKind := goodIn_ca (goodIn_r _ [5, 6, 7] (by decide +kernel) (by decide +kernel)) (goodIn_sub (fun _ h => List.mem_cons_of_mem _ (List.mem_append_right _ h)) (by decide +kernel))
set_option maxRecDepth 20000 in
theorem gX3_lift_X3_needKind : GoodIn wsX3_lift (va_wsS RX3 57 yX3_needKind wsX3_needKind) := goodIn_app (goodIn_of _ (by decide +kernel)) ggX3_lift_X3_needKind
set_option maxRecDepth 20000 in
theorem ggX3_isBanned_X3_needKind : GoodIn wsX3_isBanned wsX3_needKind := goodIn_ca (goodIn_r _ [4, 5, 6] (by decide +kernel) (by decide +kernel)) (goodIn_sub (fun _ h => List.mem_cons_of_mem _ (List.mem_append_right _ h)) (by decide +kernel))
set_option maxRecDepth 20000 in
theorem gX3_isBanned_X3_needKind : GoodIn wsX3_isBanned (va_wsS RX3 57 yX3_needKind wsX3_needKind) := goodIn_app (goodIn_of _ (by decide +kernel)) ggX3_isBanned_X3_needKind
set_option maxRecDepth 20000 in
theorem ggX3_isBanned_X3_bannedToday : GoodIn wsX3_isBanned wsX3_bannedToday := goodIn_r _ [10, 11, 12, 13, 14, 15, 16, 17, 18, 19, 20] (by decide +kernel) (by decide +kernel)
set_option maxRecDepth 20000 in
theorem gX3_isBanned_X3_bannedToday : GoodIn wsX3_isBanned (wsV RX3 101 RX3 yX3_bannedToday wsX3_bannedToday) := goodIn_app (goodIn_of _ (by decide +kernel)) ggX3_isBanned_X3_bannedToday
set_option maxRecDepth 20000 in
theorem ggX3_pass_X1_endLoans : GoodIn wsX3_pass wsX1_endLoans := goodIn_r _ [9, 10, 11, 12, 61, 62, 63, 64, 65, 66, 67, 68, 69] (by decide +kernel) (by decide +kernel)
set_option maxRecDepth 20000 in
theorem gX3_pass_X1_endLoans : GoodIn wsX3_pass (wsV RX3 179 RX1 yX1_endLoans wsX1_endLoans) := goodIn_app (goodIn_of _ (by decide +kernel)) ggX3_pass_X1_endLoans
set_option maxRecDepth 20000 in
theorem ggX3_pass_X3_bannedToday : GoodIn wsX3_pass wsX3_bannedToday := goodIn_r _ [17, 18, 3, 53, 54, 55, 56, 57, 58, 59, 60] (by decide +kernel) (by decide +kernel)
set_option maxRecDepth 20000 in
theorem gX3_pass_X3_bannedToday : GoodIn wsX3_pass (wsV RX3 101 RX3 yX3_bannedToday wsX3_bannedToday) := goodIn_app (goodIn_of _ (by decide +kernel)) ggX3_pass_X3_bannedToday
set_option maxRecDepth 20000 in
theorem ggX3_pass_X3_clearMarket : GoodIn wsX3_pass wsX3_clearMarket := goodIn_r _ [22, 4, 23, 24, 25, 26, 8, 27, 10, 28, 29, 30, 31, 11, 32, 33, 34, 35, 36, 37, 38, 39, 40, 41, 42, 43, 44, 45, 46, 16, 47, 48, 49, 50, 51, 52, 53, 54, 55, 56, 57, 58, 59, 60, 61, 62, 63, 64, 65, 66, 67, 68, 69, 70, 71] (by decide +kernel) (by decide +kernel)
set_option maxRecDepth 20000 in
theorem gX3_pass_X3_clearMarket : GoodIn wsX3_pass (wsV RX3 174 RX3 yX3_clearMarket wsX3_clearMarket) := goodIn_app (goodIn_of _ (by decide +kernel)) ggX3_pass_X3_clearMarket
set_option maxRecDepth 20000 in
theorem ggX3_toggleDeck_X3_needPlayer : GoodIn wsX3_toggleDeck wsX3_needPlayer := goodIn_ca (goodIn_r _ [5, 6, 7] (by decide +kernel) (by decide +kernel)) (goodIn_sub (fun _ h => List.mem_cons_of_mem _ (List.mem_append_right _ h)) (by decide +kernel))
set_option maxRecDepth 20000 in
theorem gX3_toggleDeck_X3_needPlayer : GoodIn wsX3_toggleDeck (va_wsS RX3 53 yX3_needPlayer wsX3_needPlayer) := goodIn_app (goodIn_of _ (by decide +kernel)) ggX3_toggleDeck_X3_needPlayer
set_option maxRecDepth 20000 in
theorem ggX3_toggleDeck_X3_needCard : GoodIn wsX3_toggleDeck wsX3_needCard := goodIn_ca (goodIn_r _ [11, 6, 7, 12, 13, 14, 15, 16, 17, 18, 26, 27, 28, 29, 30, 31, 32, 33, 34, 35, 36, 37, 38, 39, 40, 41, 42] (by decide +kernel) (by decide +kernel)) (goodIn_sub (fun _ h => List.mem_cons_of_mem _ (List.mem_append_right _ h)) (by decide +kernel))
set_option maxRecDepth 20000 in
theorem gX3_toggleDeck_X3_needCard : GoodIn wsX3_toggleDeck (wsV RX3 79 RX3 yX3_needCard wsX3_needCard) := goodIn_app (goodIn_of _ (by decide +kernel)) ggX3_toggleDeck_X3_needCard
set_option maxRecDepth 20000 in
theorem ggX3_toggleDeck_J6_bitCount_0f7a4 : GoodIn wsX3_toggleDeck wsJ6_bitCount_0f7a4 := goodIn_r _ [22, 23, 24, 25] (by decide +kernel) (by decide +kernel)
set_option maxRecDepth 20000 in
theorem gX3_toggleDeck_J6_bitCount_0f7a4 : GoodIn wsX3_toggleDeck (va_wsS RX3 182 yJ6_bitCount_0f7a4 wsJ6_bitCount_0f7a4) := goodIn_app (goodIn_of _ (by decide +kernel)) ggX3_toggleDeck_J6_bitCount_0f7a4
set_option maxRecDepth 20000 in
theorem ggX3_isRight_X3_needPlayer : GoodIn wsX3_isRight wsX3_needPlayer := goodIn_ca (goodIn_r _ [4, 5, 6] (by decide +kernel) (by decide +kernel)) (goodIn_sub (fun _ h => List.mem_cons_of_mem _ (List.mem_append_right _ h)) (by decide +kernel))
set_option maxRecDepth 20000 in
theorem gX3_isRight_X3_needPlayer : GoodIn wsX3_isRight (va_wsS RX3 53 yX3_needPlayer wsX3_needPlayer) := goodIn_app (goodIn_of _ (by decide +kernel)) ggX3_isRight_X3_needPlayer
set_option maxRecDepth 20000 in
theorem ggX3_isRight_X3_deckIsRight : GoodIn wsX3_isRight wsX3_deckIsRight := goodIn_r _ [10, 11, 12, 13, 14, 15, 16, 17, 18, 19, 20, 21, 22, 23, 3, 24, 25, 26, 27, 28, 29, 30, 31, 32, 33, 34, 35, 36, 37, 38, 39, 40, 41, 42, 43, 44, 45, 46, 47, 48, 49, 50, 51, 52, 53, 54, 55, 56, 57, 58, 59, 60, 61] (by decide +kernel) (by decide +kernel)
set_option maxRecDepth 20000 in
theorem gX3_isRight_X3_deckIsRight : GoodIn wsX3_isRight (wsV RX3 187 RX3 yX3_deckIsRight wsX3_deckIsRight) := goodIn_app (goodIn_of _ (by decide +kernel)) ggX3_isRight_X3_deckIsRight
set_option maxRecDepth 20000 in
theorem ggX3_strength_X3_needPlayer : GoodIn wsX3_strength wsX3_needPlayer := goodIn_ca (goodIn_r _ [4, 5, 6] (by decide +kernel) (by decide +kernel)) (goodIn_sub (fun _ h => List.mem_cons_of_mem _ (List.mem_append_right _ h)) (by decide +kernel))
set_option maxRecDepth 20000 in
theorem gX3_strength_X3_needPlayer : GoodIn wsX3_strength (va_wsS RX3 53 yX3_needPlayer wsX3_needPlayer) := goodIn_app (goodIn_of _ (by decide +kernel)) ggX3_strength_X3_needPlayer
set_option maxRecDepth 20000 in
theorem ggX3_strength_X3_deckStrength : GoodIn wsX3_strength wsX3_deckStrength := goodIn_r _ [10, 11, 12, 13, 14, 15, 16, 3, 17, 18, 19, 20, 21, 22, 23, 24, 25, 26, 27, 28, 29, 30, 31, 32, 33, 34, 35] (by decide +kernel) (by decide +kernel)
set_option maxRecDepth 20000 in
theorem gX3_strength_X3_deckStrength : GoodIn wsX3_strength (wsV RX3 190 RX3 yX3_deckStrength wsX3_deckStrength) := goodIn_app (goodIn_of _ (by decide +kernel)) ggX3_strength_X3_deckStrength
set_option maxRecDepth 20000 in
theorem ggX3_play_X3_needPlayer : GoodIn wsX3_play wsX3_needPlayer := goodIn_ca (goodIn_r _ [9, 10, 11] (by decide +kernel) (by decide +kernel)) (goodIn_sub (fun _ h => List.mem_cons_of_mem _ (List.mem_append_right _ h)) (by decide +kernel))
set_option maxRecDepth 20000 in
theorem gX3_play_X3_needPlayer : GoodIn wsX3_play (va_wsS RX3 53 yX3_needPlayer wsX3_needPlayer) := goodIn_app (goodIn_of _ (by decide +kernel)) ggX3_play_X3_needPlayer
set_option maxRecDepth 20000 in
theorem ggX3_play_X3_deckIsRight : GoodIn wsX3_play wsX3_deckIsRight := goodIn_r _ [15, 16, 17, 18, 19, 20, 21, 22, 23, 24, 25, 26, 27, 28, 8, 29, 30, 31, 32, 33, 34, 35, 36, 37, 38, 39, 40, 41, 42, 43, 44, 45, 46, 47, 48, 49, 54, 55, 56, 57, 58, 59, 60, 61, 62, 63, 64, 65, 66, 67, 68, 69, 70] (by decide +kernel) (by decide +kernel)
set_option maxRecDepth 20000 in
theorem gX3_play_X3_deckIsRight : GoodIn wsX3_play (wsV RX3 187 RX3 yX3_deckIsRight wsX3_deckIsRight) := goodIn_app (goodIn_of _ (by decide +kernel)) ggX3_play_X3_deckIsRight
set_option maxRecDepth 20000 in
theorem ggX3_play_X3_deckStrength : GoodIn wsX3_play wsX3_deckStrength := goodIn_r _ [53, 17, 18, 35, 26, 27, 28, 8, 29, 16, 54, 55, 56, 57, 58, 59, 60, 61, 62, 63, 64, 65, 66, 67, 68, 69, 70] (by decide +kernel) (by decide +kernel)
set_option maxRecDepth 20000 in
theorem gX3_play_X3_deckStrength : GoodIn wsX3_play (wsV RX3 190 RX3 yX3_deckStrength wsX3_deckStrength) := goodIn_app (goodIn_of _ (by decide +kernel)) ggX3_play_X3_deckStrength
set_option maxRecDepth 20000 in
theorem ggX3_needCard_X1_has : GoodIn wsX3_needCard wsX1_has := goodIn_r _ [8, 9, 18, 19, 20, 21, 22, 23, 24, 25, 26] (by decide +kernel) (by decide +kernel)
set_option maxRecDepth 20000 in
theorem gX3_needCard_X1_has : GoodIn wsX3_needCard (wsV RX3 204 RX1 yX1_has wsX1_has) := goodIn_app (goodIn_of _ (by decide +kernel)) ggX3_needCard_X1_has
set_option maxRecDepth 20000 in
theorem ggX3_giveTo_X2_record : GoodIn wsX3_giveTo wsX2_record := goodIn_r _ [9, 10, 11, 12, 30, 31, 32] (by decide +kernel) (by decide +kernel)
set_option maxRecDepth 20000 in
theorem gX3_giveTo_X2_record : GoodIn wsX3_giveTo (wsV RX3 75 RX2 yX2_record wsX2_record) := goodIn_app (goodIn_of _ (by decide +kernel)) ggX3_giveTo_X2_record
set_option maxRecDepth 20000 in
theorem ggX3_giveBidBack_X0_take : GoodIn wsX3_giveBidBack wsX0_take := goodIn_r _ [7, 8, 17, 18] (by decide +kernel) (by decide +kernel)
set_option maxRecDepth 20000 in
theorem gX3_giveBidBack_X0_take : GoodIn wsX3_giveBidBack (wsV RX3 118 RX0 yX0_take wsX0_take) := goodIn_app (goodIn_of _ (by decide +kernel)) ggX3_giveBidBack_X0_take
set_option maxRecDepth 20000 in
theorem ggX3_clearMarket_X1_takeSalesOf : GoodIn wsX3_clearMarket wsX1_takeSalesOf := goodIn_r _ [7, 8, 9, 10, 11, 6, 12, 13, 14, 15, 16, 17, 18, 19, 44, 45, 46, 47, 48, 49, 50, 51, 52] (by decide +kernel) (by decide +kernel)
set_option maxRecDepth 20000 in
theorem gX3_clearMarket_X1_takeSalesOf : GoodIn wsX3_clearMarket (wsV RX3 210 RX1 yX1_takeSalesOf wsX1_takeSalesOf) := goodIn_app (goodIn_of _ (by decide +kernel)) ggX3_clearMarket_X1_takeSalesOf
set_option maxRecDepth 20000 in
theorem ggX3_clearMarket_X0_has : GoodIn wsX3_clearMarket wsX0_has := goodIn_r _ [24, 25, 53, 54] (by decide +kernel) (by decide +kernel)
set_option maxRecDepth 20000 in
theorem gX3_clearMarket_X0_has : GoodIn wsX3_clearMarket (wsV RX3 124 RX0 yX0_has wsX0_has) := goodIn_app (goodIn_of _ (by decide +kernel)) ggX3_clearMarket_X0_has
set_option maxRecDepth 20000 in
theorem ggX3_clearMarket_X3_giveBidBack : GoodIn wsX3_clearMarket wsX3_giveBidBack := goodIn_r _ [30, 2, 31, 32, 33, 34, 23, 35, 25, 36, 37, 38, 39, 40, 41, 42, 43, 53, 54] (by decide +kernel) (by decide +kernel)
set_option maxRecDepth 20000 in
theorem gX3_clearMarket_X3_giveBidBack : GoodIn wsX3_clearMarket (wsV RX3 147 RX3 yX3_giveBidBack wsX3_giveBidBack) := goodIn_app (goodIn_of _ (by decide +kernel)) ggX3_clearMarket_X3_giveBidBack
set_option maxRecDepth 20000 in
theorem ggX3_deckIsRight_J6_bitCount_0f7a4 : GoodIn wsX3_deckIsRight wsJ6_bitCount_0f7a4 := goodIn_r _ [7, 8, 9, 10] (by decide +kernel) (by decide +kernel)
set_option maxRecDepth 20000 in
theorem gX3_deckIsRight_J6_bitCount_0f7a4 : GoodIn wsX3_deckIsRight (va_wsS RX3 182 yJ6_bitCount_0f7a4 wsJ6_bitCount_0f7a4) := goodIn_app (goodIn_of _ (by decide +kernel)) ggX3_deckIsRight_J6_bitCount_0f7a4
set_option maxRecDepth 20000 in
theorem ggX3_deckIsRight_X3_inDeck : GoodIn wsX3_deckIsRight wsX3_inDeck := goodIn_r _ [15, 1, 36, 37, 38, 39, 40, 41, 42, 43] (by decide +kernel) (by decide +kernel)
set_option maxRecDepth 20000 in
theorem gX3_deckIsRight_X3_inDeck : GoodIn wsX3_deckIsRight (wsV RX3 216 RX3 yX3_inDeck wsX3_inDeck) := goodIn_app (goodIn_of _ (by decide +kernel)) ggX3_deckIsRight_X3_inDeck
set_option maxRecDepth 20000 in
theorem ggX3_deckIsRight_X3_isPlayable : GoodIn wsX3_deckIsRight wsX3_isPlayable := goodIn_r _ [19, 2, 20, 21, 22, 23, 24, 25, 26, 27, 28, 29, 30, 31, 32, 14, 33, 34, 35, 36, 37, 38, 39, 40, 41, 42, 43, 44, 45, 46, 47, 48, 49, 50, 51, 52] (by decide +kernel) (by decide +kernel)
set_option maxRecDepth 20000 in
theorem gX3_deckIsRight_X3_isPlayable : GoodIn wsX3_deckIsRight (wsV RX3 219 RX3 yX3_isPlayable wsX3_isPlayable) := goodIn_app (goodIn_of _ (by decide +kernel)) ggX3_deckIsRight_X3_isPlayable
set_option maxRecDepth 20000 in
theorem ggX3_isPlayable_X1_holderOf : GoodIn wsX3_isPlayable wsX1_holderOf := goodIn_r _ [8, 9, 10, 11, 27, 28, 29, 30, 31, 32, 33, 34, 35] (by decide +kernel) (by decide +kernel)
set_option maxRecDepth 20000 in
theorem gX3_isPlayable_X1_holderOf : GoodIn wsX3_isPlayable (wsV RX3 89 RX1 yX1_holderOf wsX1_holderOf) := goodIn_app (goodIn_of _ (by decide +kernel)) ggX3_isPlayable_X1_holderOf
set_option maxRecDepth 20000 in
theorem ggX3_isPlayable_X3_bannedToday : GoodIn wsX3_isPlayable wsX3_bannedToday := goodIn_r _ [16, 17, 18, 19, 20, 21, 22, 23, 24, 25, 26] (by decide +kernel) (by decide +kernel)
set_option maxRecDepth 20000 in
theorem gX3_isPlayable_X3_bannedToday : GoodIn wsX3_isPlayable (wsV RX3 101 RX3 yX3_bannedToday wsX3_bannedToday) := goodIn_app (goodIn_of _ (by decide +kernel)) ggX3_isPlayable_X3_bannedToday
set_option maxRecDepth 20000 in
theorem ggX3_deckStrength_X3_inDeck : GoodIn wsX3_deckStrength wsX3_inDeck := goodIn_r _ [8, 9, 10, 11, 12, 13, 14, 15, 16, 17] (by decide +kernel) (by decide +kernel)
set_option maxRecDepth 20000 in
theorem gX3_deckStrength_X3_inDeck : GoodIn wsX3_deckStrength (wsV RX3 216 RX3 yX3_inDeck wsX3_inDeck) := goodIn_app (goodIn_of _ (by decide +kernel)) ggX3_deckStrength_X3_inDeck
set_option maxRecDepth 20000 in
theorem ggX4_isPlayer_X4_in : GoodIn wsX4_isPlayer wsX4_in := goodIn_r _ [4] (by decide +kernel) (by decide +kernel)
set_option maxRecDepth 20000 in
theorem gX4_isPlayer_X4_in : GoodIn wsX4_isPlayer (va_wsS RX4 54 yX4_in wsX4_in) := goodIn_app (goodIn_of _ (by decide +kernel)) ggX4_isPlayer_X4_in
set_option maxRecDepth 20000 in
theorem ggX4_isKind_X4_in : GoodIn wsX4_isKind wsX4_in := goodIn_r _ [4] (by decide +kernel) (by decide +kernel)
set_option maxRecDepth 20000 in
theorem gX4_isKind_X4_in : GoodIn wsX4_isKind (va_wsS RX4 54 yX4_in wsX4_in) := goodIn_app (goodIn_of _ (by decide +kernel)) ggX4_isKind_X4_in
set_option maxRecDepth 20000 in
theorem ggX4_isCard_X4_in : GoodIn wsX4_isCard wsX4_in := goodIn_r _ [5] (by decide +kernel) (by decide +kernel)
set_option maxRecDepth 20000 in
theorem gX4_isCard_X4_in : GoodIn wsX4_isCard (va_wsS RX4 54 yX4_in wsX4_in) := goodIn_app (goodIn_of _ (by decide +kernel)) ggX4_isCard_X4_in
set_option maxRecDepth 20000 in
theorem ggX4_mint_X4_isPlayer : GoodIn wsX4_mint wsX4_isPlayer := goodIn_r _ [8, 9, 10, 7, 11] (by decide +kernel) (by decide +kernel)
set_option maxRecDepth 20000 in
theorem gX4_mint_X4_isPlayer : GoodIn wsX4_mint (va_wsS RX4 64 yX4_isPlayer wsX4_isPlayer) := goodIn_app (goodIn_of _ (by decide +kernel)) ggX4_mint_X4_isPlayer
set_option maxRecDepth 20000 in
theorem ggX4_mint_X4_isKind : GoodIn wsX4_mint wsX4_isKind := goodIn_r _ [14, 9, 10, 7, 11] (by decide +kernel) (by decide +kernel)
set_option maxRecDepth 20000 in
theorem gX4_mint_X4_isKind : GoodIn wsX4_mint (va_wsS RX4 68 yX4_isKind wsX4_isKind) := goodIn_app (goodIn_of _ (by decide +kernel)) ggX4_mint_X4_isKind
set_option maxRecDepth 20000 in
theorem ggX4_mint_X4_asked_ : GoodIn wsX4_mint wsX4_asked_ := goodIn_r _ [18, 19, 20, 21, 22, 23, 24, 25, 26, 27, 28, 29, 30, 31, 32, 33, 34, 35, 36] (by decide +kernel) (by decide +kernel)
set_option maxRecDepth 20000 in
theorem gX4_mint_X4_asked_ : GoodIn wsX4_mint (wsV RX4 71 RX4 yX4_asked_ wsX4_asked_) := goodIn_app (goodIn_of _ (by decide +kernel)) ggX4_mint_X4_asked_
set_option maxRecDepth 20000 in
theorem ggX4_owner_X4_isCard : GoodIn wsX4_owner wsX4_isCard := goodIn_r _ [6, 7, 8, 9, 5, 10, 16, 17, 18, 19, 20, 21, 22, 23, 24, 25, 26, 27, 28, 29, 30, 31, 32] (by decide +kernel) (by decide +kernel)
set_option maxRecDepth 20000 in
theorem gX4_owner_X4_isCard : GoodIn wsX4_owner (wsV RX4 75 RX4 yX4_isCard wsX4_isCard) := goodIn_app (goodIn_of _ (by decide +kernel)) ggX4_owner_X4_isCard
set_option maxRecDepth 20000 in
theorem ggX4_owner_X4_asked : GoodIn wsX4_owner wsX4_asked := goodIn_r _ [14, 15, 16, 17, 18, 19, 20, 21, 22, 23, 24, 25, 26, 27, 28, 29, 30, 31, 32] (by decide +kernel) (by decide +kernel)
set_option maxRecDepth 20000 in
theorem gX4_owner_X4_asked : GoodIn wsX4_owner (wsV RX4 78 RX4 yX4_asked wsX4_asked) := goodIn_app (goodIn_of _ (by decide +kernel)) ggX4_owner_X4_asked
set_option maxRecDepth 20000 in
theorem ggX4_ownerByHistory_X4_owner : GoodIn wsX4_ownerByHistory wsX4_owner := goodIn_r _ [5, 6, 7, 8, 9, 4, 10, 11, 12, 13, 14, 15, 16, 17, 18, 19, 20, 21, 22, 23, 24, 25, 26, 27, 28, 29, 30, 31, 32, 33, 34, 35, 36] (by decide +kernel) (by decide +kernel)
set_option maxRecDepth 20000 in
theorem gX4_ownerByHistory_X4_owner : GoodIn wsX4_ownerByHistory (wsV RX4 81 RX4 yX4_owner wsX4_owner) := goodIn_app (goodIn_of _ (by decide +kernel)) ggX4_ownerByHistory_X4_owner
set_option maxRecDepth 20000 in
theorem ggX4_holder_X4_isCard : GoodIn wsX4_holder wsX4_isCard := goodIn_r _ [5, 6, 7, 8, 4, 9, 22, 23, 24, 25, 26, 27, 28, 29, 30, 31, 32, 33, 34, 35, 36, 37, 38] (by decide +kernel) (by decide +kernel)
set_option maxRecDepth 20000 in
theorem gX4_holder_X4_isCard : GoodIn wsX4_holder (wsV RX4 75 RX4 yX4_isCard wsX4_isCard) := goodIn_app (goodIn_of _ (by decide +kernel)) ggX4_holder_X4_isCard
set_option maxRecDepth 20000 in
theorem ggX4_holder_X4_asked : GoodIn wsX4_holder wsX4_asked := goodIn_r _ [13, 14, 22, 23, 24, 25, 26, 27, 28, 29, 30, 31, 32, 33, 34, 35, 36, 37, 38] (by decide +kernel) (by decide +kernel)
set_option maxRecDepth 20000 in
theorem gX4_holder_X4_asked : GoodIn wsX4_holder (wsV RX4 78 RX4 yX4_asked wsX4_asked) := goodIn_app (goodIn_of _ (by decide +kernel)) ggX4_holder_X4_asked
set_option maxRecDepth 20000 in
theorem ggX4_holder_X4_holds : GoodIn wsX4_holder wsX4_holds := goodIn_r _ [18, 19, 20, 21, 22, 23, 24, 25, 26, 27, 28, 29, 30, 31, 32, 33, 34, 35, 36, 37, 38] (by decide +kernel) (by decide +kernel)
set_option maxRecDepth 20000 in
theorem gX4_holder_X4_holds : GoodIn wsX4_holder (wsV RX4 84 RX4 yX4_holds wsX4_holds) := goodIn_app (goodIn_of _ (by decide +kernel)) ggX4_holder_X4_holds
set_option maxRecDepth 20000 in
theorem ggX4_stateOf_X4_isCard : GoodIn wsX4_stateOf wsX4_isCard := goodIn_r _ [6, 7, 8, 9, 5, 10, 16, 17, 18, 19, 20, 21, 22, 23, 24, 25, 26, 27, 28, 29, 30, 31, 32] (by decide +kernel) (by decide +kernel)
set_option maxRecDepth 20000 in
theorem gX4_stateOf_X4_isCard : GoodIn wsX4_stateOf (wsV RX4 75 RX4 yX4_isCard wsX4_isCard) := goodIn_app (goodIn_of _ (by decide +kernel)) ggX4_stateOf_X4_isCard
set_option maxRecDepth 20000 in
theorem ggX4_stateOf_X4_asked : GoodIn wsX4_stateOf wsX4_asked := goodIn_r _ [14, 15, 16, 17, 18, 19, 20, 21, 22, 23, 24, 25, 26, 27, 28, 29, 30, 31, 32] (by decide +kernel) (by decide +kernel)
set_option maxRecDepth 20000 in
theorem gX4_stateOf_X4_asked : GoodIn wsX4_stateOf (wsV RX4 78 RX4 yX4_asked wsX4_asked) := goodIn_app (goodIn_of _ (by decide +kernel)) ggX4_stateOf_X4_asked
set_option maxRecDepth 20000 in
theorem ggX4_coins_X4_isPlayer : GoodIn wsX4_coins wsX4_isPlayer := goodIn_r _ [5, 6, 7, 4, 8] (by decide +kernel) (by decide +kernel)
set_option maxRecDepth 20000 in
theorem gX4_coins_X4_isPlayer : GoodIn wsX4_coins (va_wsS RX4 64 yX4_isPlayer wsX4_isPlayer) := goodIn_app (goodIn_of _ (by decide +kernel)) ggX4_coins_X4_isPlayer
set_option maxRecDepth 20000 in
theorem ggX4_coins_X4_asked : GoodIn wsX4_coins wsX4_asked := goodIn_r _ [12, 13, 14, 15, 16, 17, 18, 19, 20, 21, 22, 23, 24, 25, 26, 27, 28, 29, 30] (by decide +kernel) (by decide +kernel)
set_option maxRecDepth 20000 in
theorem gX4_coins_X4_asked : GoodIn wsX4_coins (wsV RX4 78 RX4 yX4_asked wsX4_asked) := goodIn_app (goodIn_of _ (by decide +kernel)) ggX4_coins_X4_asked
set_option maxRecDepth 20000 in
theorem ggX4_sell_X4_isCard : GoodIn wsX4_sell wsX4_isCard := goodIn_r _ [13, 14, 15, 16, 12, 17, 34, 35, 36, 37, 38, 39, 40, 41, 42, 43, 44, 45, 46, 47, 48, 49, 50] (by decide +kernel) (by decide +kernel)
set_option maxRecDepth 20000 in
theorem gX4_sell_X4_isCard : GoodIn wsX4_sell (wsV RX4 75 RX4 yX4_isCard wsX4_isCard) := goodIn_app (goodIn_of _ (by decide +kernel)) ggX4_sell_X4_isCard
set_option maxRecDepth 20000 in
theorem ggX4_sell_X4_in : GoodIn wsX4_sell wsX4_in := goodIn_r _ [17] (by decide +kernel) (by decide +kernel)
set_option maxRecDepth 20000 in
theorem gX4_sell_X4_in : GoodIn wsX4_sell (va_wsS RX4 54 yX4_in wsX4_in) := goodIn_app (goodIn_of _ (by decide +kernel)) ggX4_sell_X4_in
set_option maxRecDepth 20000 in
theorem ggX4_sell_X4_banned : GoodIn wsX4_sell wsX4_banned := goodIn_r _ [21, 22, 23, 34, 35, 36, 37, 38, 39, 40, 41, 42, 43, 44, 45, 46, 47, 48, 49, 50] (by decide +kernel) (by decide +kernel)
set_option maxRecDepth 20000 in
theorem gX4_sell_X4_banned : GoodIn wsX4_sell (wsV RX4 87 RX4 yX4_banned wsX4_banned) := goodIn_app (goodIn_of _ (by decide +kernel)) ggX4_sell_X4_banned
set_option maxRecDepth 20000 in
theorem ggX4_sell_X4_asked__ : GoodIn wsX4_sell wsX4_asked__ := goodIn_r _ [27, 28, 34, 35, 36, 37, 38, 39, 40, 41, 42, 43, 44, 45, 46, 47, 48, 49, 50] (by decide +kernel) (by decide +kernel)
set_option maxRecDepth 20000 in
theorem gX4_sell_X4_asked__ : GoodIn wsX4_sell (wsV RX4 90 RX4 yX4_asked__ wsX4_asked__) := goodIn_app (goodIn_of _ (by decide +kernel)) ggX4_sell_X4_asked__
set_option maxRecDepth 20000 in
theorem ggX4_sell_X4_bidder : GoodIn wsX4_sell wsX4_bidder := goodIn_r _ [32, 5, 33, 34, 35, 36, 37, 38, 39, 40, 41, 42, 43, 44, 45, 46, 47, 48, 49, 50] (by decide +kernel) (by decide +kernel)
set_option maxRecDepth 20000 in
theorem gX4_sell_X4_bidder : GoodIn wsX4_sell (wsV RX4 96 RX4 yX4_bidder wsX4_bidder) := goodIn_app (goodIn_of _ (by decide +kernel)) ggX4_sell_X4_bidder
set_option maxRecDepth 20000 in
theorem ggX4_bid_X4_isPlayer : GoodIn wsX4_bid wsX4_isPlayer := goodIn_r _ [11, 12, 13, 10, 14] (by decide +kernel) (by decide +kernel)
set_option maxRecDepth 20000 in
theorem gX4_bid_X4_isPlayer : GoodIn wsX4_bid (va_wsS RX4 64 yX4_isPlayer wsX4_isPlayer) := goodIn_app (goodIn_of _ (by decide +kernel)) ggX4_bid_X4_isPlayer
set_option maxRecDepth 20000 in
theorem ggX4_bid_X4_isKind : GoodIn wsX4_bid wsX4_isKind := goodIn_r _ [17, 12, 13, 10, 14] (by decide +kernel) (by decide +kernel)
set_option maxRecDepth 20000 in
theorem gX4_bid_X4_isKind : GoodIn wsX4_bid (va_wsS RX4 68 yX4_isKind wsX4_isKind) := goodIn_app (goodIn_of _ (by decide +kernel)) ggX4_bid_X4_isKind
set_option maxRecDepth 20000 in
theorem ggX4_bid_X4_in : GoodIn wsX4_bid wsX4_in := goodIn_r _ [14] (by decide +kernel) (by decide +kernel)
set_option maxRecDepth 20000 in
theorem gX4_bid_X4_in : GoodIn wsX4_bid (va_wsS RX4 54 yX4_in wsX4_in) := goodIn_app (goodIn_of _ (by decide +kernel)) ggX4_bid_X4_in
end
section
set_option maxRecDepth 20000 in
theorem ggX4_bid_X4_banned : GoodIn wsX4_bid wsX4_banned := goodIn_r _ [21, 22, 23, 36, 37, 38, 39, 40, 41, 42, 43, 44, 45, 46, 47, 48, 49, 50, 51, 52] (by decide +kernel) (by decide +kernel)
set_option maxRecDepth 20000 in
theorem gX4_bid_X4_banned : GoodIn wsX4_bid (wsV RX4 87 RX4 yX4_banned wsX4_banned) := goodIn_app (goodIn_of _ (by decide +kernel)) ggX4_bid_X4_banned
set_option maxRecDepth 20000 in
theorem ggX4_bid_X4_asked__ : GoodIn wsX4_bid wsX4_asked__ := goodIn_r _ [27, 28, 36, 37, 38, 39, 40, 41, 42, 43, 44, 45, 46, 47, 48, 49, 50, 51, 52] (by decide +kernel) (by decide +kernel)
set_option maxRecDepth 20000 in
theorem gX4_bid_X4_asked__ : GoodIn wsX4_bid (wsV RX4 90 RX4 yX4_asked__ wsX4_asked__) := goodIn_app (goodIn_of _ (by decide +kernel)) ggX4_bid_X4_asked__
set_option maxRecDepth 20000 in
theorem ggX4_bid_X4_offer : GoodIn wsX4_bid wsX4_offer := goodIn_r _ [32, 33, 6, 34, 5, 4, 35, 36, 37, 38, 39, 40, 41, 42, 43, 44, 45, 46, 47, 48, 49, 50, 51, 52] (by decide +kernel) (by decide +kernel)
set_option maxRecDepth 20000 in
theorem gX4_bid_X4_offer : GoodIn wsX4_bid (wsV RX4 100 RX4 yX4_offer wsX4_offer) := goodIn_app (goodIn_of _ (by decide +kernel)) ggX4_bid_X4_offer
set_option maxRecDepth 20000 in
theorem ggX4_cancelSale_X4_isCard : GoodIn wsX4_cancelSale wsX4_isCard := goodIn_r _ [7, 8, 9, 10, 6, 11, 17, 18, 19, 20, 21, 22, 23, 24, 25, 26, 27, 28, 29, 30, 31, 32, 33] (by decide +kernel) (by decide +kernel)
set_option maxRecDepth 20000 in
theorem gX4_cancelSale_X4_isCard : GoodIn wsX4_cancelSale (wsV RX4 75 RX4 yX4_isCard wsX4_isCard) := goodIn_app (goodIn_of _ (by decide +kernel)) ggX4_cancelSale_X4_isCard
set_option maxRecDepth 20000 in
theorem ggX4_cancelSale_X4_asked_ : GoodIn wsX4_cancelSale wsX4_asked_ := goodIn_r _ [15, 16, 17, 18, 19, 20, 21, 22, 23, 24, 25, 26, 27, 28, 29, 30, 31, 32, 33] (by decide +kernel) (by decide +kernel)
set_option maxRecDepth 20000 in
theorem gX4_cancelSale_X4_asked_ : GoodIn wsX4_cancelSale (wsV RX4 71 RX4 yX4_asked_ wsX4_asked_) := goodIn_app (goodIn_of _ (by decide +kernel)) ggX4_cancelSale_X4_asked_
set_option maxRecDepth 20000 in
theorem ggX4_cancelBid_X4_isPlayer : GoodIn wsX4_cancelBid wsX4_isPlayer := goodIn_r _ [6, 7, 8, 5, 9] (by decide +kernel) (by decide +kernel)
set_option maxRecDepth 20000 in
theorem gX4_cancelBid_X4_isPlayer : GoodIn wsX4_cancelBid (va_wsS RX4 64 yX4_isPlayer wsX4_isPlayer) := goodIn_app (goodIn_of _ (by decide +kernel)) ggX4_cancelBid_X4_isPlayer
set_option maxRecDepth 20000 in
theorem ggX4_cancelBid_X4_isKind : GoodIn wsX4_cancelBid wsX4_isKind := goodIn_r _ [12, 7, 8, 5, 9] (by decide +kernel) (by decide +kernel)
set_option maxRecDepth 20000 in
theorem gX4_cancelBid_X4_isKind : GoodIn wsX4_cancelBid (va_wsS RX4 68 yX4_isKind wsX4_isKind) := goodIn_app (goodIn_of _ (by decide +kernel)) ggX4_cancelBid_X4_isKind
set_option maxRecDepth 20000 in
theorem ggX4_cancelBid_X4_asked_ : GoodIn wsX4_cancelBid wsX4_asked_ := goodIn_r _ [16, 17, 18, 19, 20, 21, 22, 23, 24, 25, 26, 27, 28, 29, 30, 31, 32, 33, 34] (by decide +kernel) (by decide +kernel)
set_option maxRecDepth 20000 in
theorem gX4_cancelBid_X4_asked_ : GoodIn wsX4_cancelBid (wsV RX4 71 RX4 yX4_asked_ wsX4_asked_) := goodIn_app (goodIn_of _ (by decide +kernel)) ggX4_cancelBid_X4_asked_
set_option maxRecDepth 20000 in
theorem ggX4_leastSale_X4_isKind : GoodIn wsX4_leastSale wsX4_isKind := goodIn_r _ [5, 6, 7, 4, 8] (by decide +kernel) (by decide +kernel)
set_option maxRecDepth 20000 in
theorem gX4_leastSale_X4_isKind : GoodIn wsX4_leastSale (va_wsS RX4 68 yX4_isKind wsX4_isKind) := goodIn_app (goodIn_of _ (by decide +kernel)) ggX4_leastSale_X4_isKind
set_option maxRecDepth 20000 in
theorem ggX4_leastSale_X4_asked : GoodIn wsX4_leastSale wsX4_asked := goodIn_r _ [12, 13, 23, 24, 25, 26, 27, 28, 29, 30, 31, 32, 33, 34, 35, 36, 37, 38, 39] (by decide +kernel) (by decide +kernel)
set_option maxRecDepth 20000 in
theorem gX4_leastSale_X4_asked : GoodIn wsX4_leastSale (wsV RX4 78 RX4 yX4_asked wsX4_asked) := goodIn_app (goodIn_of _ (by decide +kernel)) ggX4_leastSale_X4_asked
set_option maxRecDepth 20000 in
theorem ggX4_leastSale_X4_offer : GoodIn wsX4_leastSale wsX4_offer := goodIn_r _ [17, 18, 19, 20, 21, 1, 22, 23, 24, 25, 26, 27, 28, 29, 30, 31, 32, 33, 34, 35, 36, 37, 38, 39] (by decide +kernel) (by decide +kernel)
set_option maxRecDepth 20000 in
theorem gX4_leastSale_X4_offer : GoodIn wsX4_leastSale (wsV RX4 100 RX4 yX4_offer wsX4_offer) := goodIn_app (goodIn_of _ (by decide +kernel)) ggX4_leastSale_X4_offer
set_option maxRecDepth 20000 in
theorem ggX4_greatestBid_X4_isKind : GoodIn wsX4_greatestBid wsX4_isKind := goodIn_r _ [5, 6, 7, 4, 8] (by decide +kernel) (by decide +kernel)
set_option maxRecDepth 20000 in
theorem gX4_greatestBid_X4_isKind : GoodIn wsX4_greatestBid (va_wsS RX4 68 yX4_isKind wsX4_isKind) := goodIn_app (goodIn_of _ (by decide +kernel)) ggX4_greatestBid_X4_isKind
set_option maxRecDepth 20000 in
theorem ggX4_greatestBid_X4_asked : GoodIn wsX4_greatestBid wsX4_asked := goodIn_r _ [12, 13, 19, 20, 21, 22, 23, 24, 25, 26, 27, 28, 29, 30, 31, 32, 33, 34, 35] (by decide +kernel) (by decide +kernel)
set_option maxRecDepth 20000 in
theorem gX4_greatestBid_X4_asked : GoodIn wsX4_greatestBid (wsV RX4 78 RX4 yX4_asked wsX4_asked) := goodIn_app (goodIn_of _ (by decide +kernel)) ggX4_greatestBid_X4_asked
set_option maxRecDepth 20000 in
theorem ggX4_greatestBid_X4_bidder : GoodIn wsX4_greatestBid wsX4_bidder := goodIn_r _ [17, 1, 18, 19, 20, 21, 22, 23, 24, 25, 26, 27, 28, 29, 30, 31, 32, 33, 34, 35] (by decide +kernel) (by decide +kernel)
set_option maxRecDepth 20000 in
theorem gX4_greatestBid_X4_bidder : GoodIn wsX4_greatestBid (wsV RX4 96 RX4 yX4_bidder wsX4_bidder) := goodIn_app (goodIn_of _ (by decide +kernel)) ggX4_greatestBid_X4_bidder
set_option maxRecDepth 20000 in
theorem ggX4_swap_X4_isCard : GoodIn wsX4_swap wsX4_isCard := goodIn_r _ [8, 9, 10, 11, 7, 12, 18, 19, 20, 21, 22, 23, 24, 25, 26, 27, 28, 29, 30, 31, 32, 33, 34] (by decide +kernel) (by decide +kernel)
set_option maxRecDepth 20000 in
theorem gX4_swap_X4_isCard : GoodIn wsX4_swap (wsV RX4 75 RX4 yX4_isCard wsX4_isCard) := goodIn_app (goodIn_of _ (by decide +kernel)) ggX4_swap_X4_isCard
set_option maxRecDepth 20000 in
theorem ggX4_swap_X4_asked__ : GoodIn wsX4_swap wsX4_asked__ := goodIn_r _ [16, 17, 18, 19, 20, 21, 22, 23, 24, 25, 26, 27, 28, 29, 30, 31, 32, 33, 34] (by decide +kernel) (by decide +kernel)
set_option maxRecDepth 20000 in
theorem gX4_swap_X4_asked__ : GoodIn wsX4_swap (wsV RX4 90 RX4 yX4_asked__ wsX4_asked__) := goodIn_app (goodIn_of _ (by decide +kernel)) ggX4_swap_X4_asked__
set_option maxRecDepth 20000 in
theorem ggX4_agree_X4_isCard : GoodIn wsX4_agree wsX4_isCard := goodIn_r _ [8, 9, 10, 11, 7, 12, 18, 19, 20, 21, 22, 23, 24, 25, 26, 27, 28, 29, 30, 31, 32, 33, 34] (by decide +kernel) (by decide +kernel)
set_option maxRecDepth 20000 in
theorem gX4_agree_X4_isCard : GoodIn wsX4_agree (wsV RX4 75 RX4 yX4_isCard wsX4_isCard) := goodIn_app (goodIn_of _ (by decide +kernel)) ggX4_agree_X4_isCard
set_option maxRecDepth 20000 in
theorem ggX4_agree_X4_asked_ : GoodIn wsX4_agree wsX4_asked_ := goodIn_r _ [16, 17, 18, 19, 20, 21, 22, 23, 24, 25, 26, 27, 28, 29, 30, 31, 32, 33, 34] (by decide +kernel) (by decide +kernel)
set_option maxRecDepth 20000 in
theorem gX4_agree_X4_asked_ : GoodIn wsX4_agree (wsV RX4 71 RX4 yX4_asked_ wsX4_asked_) := goodIn_app (goodIn_of _ (by decide +kernel)) ggX4_agree_X4_asked_
set_option maxRecDepth 20000 in
theorem ggX4_cancelSwap_X4_isCard : GoodIn wsX4_cancelSwap wsX4_isCard := goodIn_r _ [6, 7, 8, 9, 5, 10, 16, 17, 18, 19, 20, 21, 22, 23, 24, 25, 26, 27, 28, 29, 30, 31, 32] (by decide +kernel) (by decide +kernel)
set_option maxRecDepth 20000 in
theorem gX4_cancelSwap_X4_isCard : GoodIn wsX4_cancelSwap (wsV RX4 75 RX4 yX4_isCard wsX4_isCard) := goodIn_app (goodIn_of _ (by decide +kernel)) ggX4_cancelSwap_X4_isCard
set_option maxRecDepth 20000 in
theorem ggX4_cancelSwap_X4_asked_ : GoodIn wsX4_cancelSwap wsX4_asked_ := goodIn_r _ [14, 15, 16, 17, 18, 19, 20, 21, 22, 23, 24, 25, 26, 27, 28, 29, 30, 31, 32] (by decide +kernel) (by decide +kernel)
set_option maxRecDepth 20000 in
theorem gX4_cancelSwap_X4_asked_ : GoodIn wsX4_cancelSwap (wsV RX4 71 RX4 yX4_asked_ wsX4_asked_) := goodIn_app (goodIn_of _ (by decide +kernel)) ggX4_cancelSwap_X4_asked_
set_option maxRecDepth 20000 in
theorem ggX4_lend_X4_isCard : GoodIn wsX4_lend wsX4_isCard := goodIn_r _ [10, 11, 12, 13, 9, 14, 23, 24, 25, 26, 27, 28, 29, 30, 31, 32, 33, 34, 35, 36, 37, 38, 39] (by decide +kernel) (by decide +kernel)
set_option maxRecDepth 20000 in
theorem gX4_lend_X4_isCard : GoodIn wsX4_lend (wsV RX4 75 RX4 yX4_isCard wsX4_isCard) := goodIn_app (goodIn_of _ (by decide +kernel)) ggX4_lend_X4_isCard
set_option maxRecDepth 20000 in
theorem ggX4_lend_X4_isPlayer : GoodIn wsX4_lend wsX4_isPlayer := goodIn_r _ [17, 12, 13, 9, 14] (by decide +kernel) (by decide +kernel)
set_option maxRecDepth 20000 in
theorem gX4_lend_X4_isPlayer : GoodIn wsX4_lend (va_wsS RX4 64 yX4_isPlayer wsX4_isPlayer) := goodIn_app (goodIn_of _ (by decide +kernel)) ggX4_lend_X4_isPlayer
set_option maxRecDepth 20000 in
theorem ggX4_lend_X4_in : GoodIn wsX4_lend wsX4_in := goodIn_r _ [14] (by decide +kernel) (by decide +kernel)
set_option maxRecDepth 20000 in
theorem gX4_lend_X4_in : GoodIn wsX4_lend (va_wsS RX4 54 yX4_in wsX4_in) := goodIn_app (goodIn_of _ (by decide +kernel)) ggX4_lend_X4_in
set_option maxRecDepth 20000 in
theorem ggX4_lend_X4_asked__ : GoodIn wsX4_lend wsX4_asked__ := goodIn_r _ [21, 22, 23, 24, 25, 26, 27, 28, 29, 30, 31, 32, 33, 34, 35, 36, 37, 38, 39] (by decide +kernel) (by decide +kernel)
set_option maxRecDepth 20000 in
theorem gX4_lend_X4_asked__ : GoodIn wsX4_lend (wsV RX4 90 RX4 yX4_asked__ wsX4_asked__) := goodIn_app (goodIn_of _ (by decide +kernel)) ggX4_lend_X4_asked__
set_option maxRecDepth 20000 in
theorem ggX4_ban_X4_isKind : GoodIn wsX4_ban wsX4_isKind := goodIn_r _ [6, 7, 8, 5, 9] (by decide +kernel) (by decide +kernel)
set_option maxRecDepth 20000 in
theorem gX4_ban_X4_isKind : GoodIn wsX4_ban (va_wsS RX4 68 yX4_isKind wsX4_isKind) := goodIn_app (goodIn_of _ (by decide +kernel)) ggX4_ban_X4_isKind
set_option maxRecDepth 20000 in
theorem ggX4_ban_X4_asked_ : GoodIn wsX4_ban wsX4_asked_ := goodIn_r _ [13, 14, 28, 29, 30, 31, 32, 33, 34, 35, 36, 37, 38, 39, 40, 41, 42, 43, 44] (by decide +kernel) (by decide +kernel)
set_option maxRecDepth 20000 in
theorem gX4_ban_X4_asked_ : GoodIn wsX4_ban (wsV RX4 71 RX4 yX4_asked_ wsX4_asked_) := goodIn_app (goodIn_of _ (by decide +kernel)) ggX4_ban_X4_asked_
set_option maxRecDepth 20000 in
theorem ggX4_ban_X4_banned : GoodIn wsX4_ban wsX4_banned := goodIn_r _ [18, 2, 1, 28, 29, 30, 31, 32, 33, 34, 35, 36, 37, 38, 39, 40, 41, 42, 43, 44] (by decide +kernel) (by decide +kernel)
set_option maxRecDepth 20000 in
theorem gX4_ban_X4_banned : GoodIn wsX4_ban (wsV RX4 87 RX4 yX4_banned wsX4_banned) := goodIn_app (goodIn_of _ (by decide +kernel)) ggX4_ban_X4_banned
set_option maxRecDepth 20000 in
theorem ggX4_ban_X4_clears : GoodIn wsX4_ban wsX4_clears := goodIn_r _ [22, 23, 24, 25, 26, 27, 28, 29, 30, 31, 32, 33, 34, 35, 36, 37, 38, 39, 40, 41, 42, 43, 44] (by decide +kernel) (by decide +kernel)
set_option maxRecDepth 20000 in
theorem gX4_ban_X4_clears : GoodIn wsX4_ban (wsV RX4 103 RX4 yX4_clears wsX4_clears) := goodIn_app (goodIn_of _ (by decide +kernel)) ggX4_ban_X4_clears
set_option maxRecDepth 20000 in
theorem ggX4_lift_X4_isKind : GoodIn wsX4_lift wsX4_isKind := goodIn_r _ [6, 7, 8, 5, 9] (by decide +kernel) (by decide +kernel)
set_option maxRecDepth 20000 in
theorem gX4_lift_X4_isKind : GoodIn wsX4_lift (va_wsS RX4 68 yX4_isKind wsX4_isKind) := goodIn_app (goodIn_of _ (by decide +kernel)) ggX4_lift_X4_isKind
set_option maxRecDepth 20000 in
theorem ggX4_lift_X4_asked : GoodIn wsX4_lift wsX4_asked := goodIn_r _ [13, 14, 15, 16, 17, 18, 19, 20, 21, 22, 23, 24, 25, 26, 27, 28, 29, 30, 31] (by decide +kernel) (by decide +kernel)
set_option maxRecDepth 20000 in
theorem gX4_lift_X4_asked : GoodIn wsX4_lift (wsV RX4 78 RX4 yX4_asked wsX4_asked) := goodIn_app (goodIn_of _ (by decide +kernel)) ggX4_lift_X4_asked
set_option maxRecDepth 20000 in
theorem ggX4_isBanned_X4_isKind : GoodIn wsX4_isBanned wsX4_isKind := goodIn_r _ [4, 5, 6, 3, 7] (by decide +kernel) (by decide +kernel)
set_option maxRecDepth 20000 in
theorem gX4_isBanned_X4_isKind : GoodIn wsX4_isBanned (va_wsS RX4 68 yX4_isKind wsX4_isKind) := goodIn_app (goodIn_of _ (by decide +kernel)) ggX4_isBanned_X4_isKind
set_option maxRecDepth 20000 in
theorem ggX4_isBanned_X4_asked : GoodIn wsX4_isBanned wsX4_asked := goodIn_r _ [11, 12, 19, 20, 21, 22, 23, 24, 25, 26, 27, 28, 29, 30, 31, 32, 33, 34, 35] (by decide +kernel) (by decide +kernel)
set_option maxRecDepth 20000 in
theorem gX4_isBanned_X4_asked : GoodIn wsX4_isBanned (wsV RX4 78 RX4 yX4_asked wsX4_asked) := goodIn_app (goodIn_of _ (by decide +kernel)) ggX4_isBanned_X4_asked
set_option maxRecDepth 20000 in
theorem ggX4_isBanned_X4_banned : GoodIn wsX4_isBanned wsX4_banned := goodIn_r _ [16, 17, 18, 19, 20, 21, 22, 23, 24, 25, 26, 27, 28, 29, 30, 31, 32, 33, 34, 35] (by decide +kernel) (by decide +kernel)
set_option maxRecDepth 20000 in
theorem gX4_isBanned_X4_banned : GoodIn wsX4_isBanned (wsV RX4 87 RX4 yX4_banned wsX4_banned) := goodIn_app (goodIn_of _ (by decide +kernel)) ggX4_isBanned_X4_banned
set_option maxRecDepth 20000 in
theorem ggX4_pass_X4_in : GoodIn wsX4_pass wsX4_in := goodIn_r _ [8] (by decide +kernel) (by decide +kernel)
set_option maxRecDepth 20000 in
theorem gX4_pass_X4_in : GoodIn wsX4_pass (va_wsS RX4 54 yX4_in wsX4_in) := goodIn_app (goodIn_of _ (by decide +kernel)) ggX4_pass_X4_in
set_option maxRecDepth 20000 in
theorem ggX4_pass_X4_asked : GoodIn wsX4_pass wsX4_asked := goodIn_r _ [12, 13, 26, 27, 28, 29, 30, 31, 32, 33, 34, 35, 36, 37, 38, 39, 40, 41, 42] (by decide +kernel) (by decide +kernel)
set_option maxRecDepth 20000 in
theorem gX4_pass_X4_asked : GoodIn wsX4_pass (wsV RX4 78 RX4 yX4_asked wsX4_asked) := goodIn_app (goodIn_of _ (by decide +kernel)) ggX4_pass_X4_asked
set_option maxRecDepth 20000 in
theorem ggX4_pass_X4_banned : GoodIn wsX4_pass wsX4_banned := goodIn_r _ [17, 18, 1, 26, 27, 28, 29, 30, 31, 32, 33, 34, 35, 36, 37, 38, 39, 40, 41, 42] (by decide +kernel) (by decide +kernel)
set_option maxRecDepth 20000 in
theorem gX4_pass_X4_banned : GoodIn wsX4_pass (wsV RX4 87 RX4 yX4_banned wsX4_banned) := goodIn_app (goodIn_of _ (by decide +kernel)) ggX4_pass_X4_banned
set_option maxRecDepth 20000 in
theorem ggX4_pass_X4_clears : GoodIn wsX4_pass wsX4_clears := goodIn_r _ [22, 2, 3, 23, 24, 25, 26, 27, 28, 29, 30, 31, 32, 33, 34, 35, 36, 37, 38, 39, 40, 41, 42] (by decide +kernel) (by decide +kernel)
set_option maxRecDepth 20000 in
theorem gX4_pass_X4_clears : GoodIn wsX4_pass (wsV RX4 103 RX4 yX4_clears wsX4_clears) := goodIn_app (goodIn_of _ (by decide +kernel)) ggX4_pass_X4_clears
set_option maxRecDepth 20000 in
theorem ggX4_toggleDeck_X4_isPlayer : GoodIn wsX4_toggleDeck wsX4_isPlayer := goodIn_r _ [5, 6, 7, 4, 8] (by decide +kernel) (by decide +kernel)
set_option maxRecDepth 20000 in
theorem gX4_toggleDeck_X4_isPlayer : GoodIn wsX4_toggleDeck (va_wsS RX4 64 yX4_isPlayer wsX4_isPlayer) := goodIn_app (goodIn_of _ (by decide +kernel)) ggX4_toggleDeck_X4_isPlayer
set_option maxRecDepth 20000 in
theorem ggX4_toggleDeck_X4_isCard : GoodIn wsX4_toggleDeck wsX4_isCard := goodIn_r _ [12, 13, 6, 7, 4, 8, 23, 24, 25, 26, 27, 28, 29, 30, 31, 32, 33, 34, 35, 36, 37, 38, 39] (by decide +kernel) (by decide +kernel)
set_option maxRecDepth 20000 in
theorem gX4_toggleDeck_X4_isCard : GoodIn wsX4_toggleDeck (wsV RX4 75 RX4 yX4_isCard wsX4_isCard) := goodIn_app (goodIn_of _ (by decide +kernel)) ggX4_toggleDeck_X4_isCard
set_option maxRecDepth 20000 in
theorem ggX4_toggleDeck_X4_asked : GoodIn wsX4_toggleDeck wsX4_asked := goodIn_r _ [17, 18, 23, 24, 25, 26, 27, 28, 29, 30, 31, 32, 33, 34, 35, 36, 37, 38, 39] (by decide +kernel) (by decide +kernel)
set_option maxRecDepth 20000 in
theorem gX4_toggleDeck_X4_asked : GoodIn wsX4_toggleDeck (wsV RX4 78 RX4 yX4_asked wsX4_asked) := goodIn_app (goodIn_of _ (by decide +kernel)) ggX4_toggleDeck_X4_asked
set_option maxRecDepth 20000 in
theorem ggX4_toggleDeck_X4_size : GoodIn wsX4_toggleDeck wsX4_size := goodIn_r _ [22, 13, 1, 23, 24, 25, 26, 27, 28, 29, 30, 31, 32, 33, 34, 35, 36, 37, 38, 39] (by decide +kernel) (by decide +kernel)
set_option maxRecDepth 20000 in
theorem gX4_toggleDeck_X4_size : GoodIn wsX4_toggleDeck (wsV RX4 106 RX4 yX4_size wsX4_size) := goodIn_app (goodIn_of _ (by decide +kernel)) ggX4_toggleDeck_X4_size
set_option maxRecDepth 20000 in
theorem ggX4_right_X4_size : GoodIn wsX4_right wsX4_size := goodIn_r _ [9, 1, 2, 25, 26, 27, 28, 29, 30, 31, 32, 33, 34, 35, 36, 37, 38, 39, 40, 41] (by decide +kernel) (by decide +kernel)
set_option maxRecDepth 20000 in
theorem gX4_right_X4_size : GoodIn wsX4_right (wsV RX4 106 RX4 yX4_size wsX4_size) := goodIn_app (goodIn_of _ (by decide +kernel)) ggX4_right_X4_size
set_option maxRecDepth 20000 in
theorem ggX4_right_X4_in : GoodIn wsX4_right wsX4_in := goodIn_r _ [12] (by decide +kernel) (by decide +kernel)
set_option maxRecDepth 20000 in
theorem gX4_right_X4_in : GoodIn wsX4_right (va_wsS RX4 54 yX4_in wsX4_in) := goodIn_app (goodIn_of _ (by decide +kernel)) ggX4_right_X4_in
set_option maxRecDepth 20000 in
theorem ggX4_right_X4_holds : GoodIn wsX4_right wsX4_holds := goodIn_r _ [16, 3, 17, 18, 25, 26, 27, 28, 29, 30, 31, 32, 33, 34, 35, 36, 37, 38, 39, 40, 41] (by decide +kernel) (by decide +kernel)
set_option maxRecDepth 20000 in
theorem gX4_right_X4_holds : GoodIn wsX4_right (wsV RX4 84 RX4 yX4_holds wsX4_holds) := goodIn_app (goodIn_of _ (by decide +kernel)) ggX4_right_X4_holds
set_option maxRecDepth 20000 in
theorem ggX4_right_X4_banned : GoodIn wsX4_right wsX4_banned := goodIn_r _ [22, 23, 24, 25, 26, 27, 28, 29, 30, 31, 32, 33, 34, 35, 36, 37, 38, 39, 40, 41] (by decide +kernel) (by decide +kernel)
set_option maxRecDepth 20000 in
theorem gX4_right_X4_banned : GoodIn wsX4_right (wsV RX4 87 RX4 yX4_banned wsX4_banned) := goodIn_app (goodIn_of _ (by decide +kernel)) ggX4_right_X4_banned
set_option maxRecDepth 20000 in
theorem ggX4_isRight_X4_isPlayer : GoodIn wsX4_isRight wsX4_isPlayer := goodIn_r _ [4, 5, 6, 3, 7] (by decide +kernel) (by decide +kernel)
set_option maxRecDepth 20000 in
theorem gX4_isRight_X4_isPlayer : GoodIn wsX4_isRight (va_wsS RX4 64 yX4_isPlayer wsX4_isPlayer) := goodIn_app (goodIn_of _ (by decide +kernel)) ggX4_isRight_X4_isPlayer
set_option maxRecDepth 20000 in
theorem ggX4_isRight_X4_asked : GoodIn wsX4_isRight wsX4_asked := goodIn_r _ [11, 12, 37, 38, 39, 40, 41, 42, 43, 44, 45, 46, 47, 48, 49, 50, 51, 52, 53] (by decide +kernel) (by decide +kernel)
set_option maxRecDepth 20000 in
theorem gX4_isRight_X4_asked : GoodIn wsX4_isRight (wsV RX4 78 RX4 yX4_asked wsX4_asked) := goodIn_app (goodIn_of _ (by decide +kernel)) ggX4_isRight_X4_asked
set_option maxRecDepth 20000 in
theorem ggX4_isRight_X4_right : GoodIn wsX4_isRight wsX4_right := goodIn_r _ [16, 17, 18, 19, 20, 21, 22, 23, 3, 24, 5, 6, 7, 25, 26, 27, 28, 29, 30, 31, 32, 33, 34, 35, 36, 37, 38, 39, 40, 41, 42, 43, 44, 45, 46, 47, 48, 49, 50, 51, 52, 53] (by decide +kernel) (by decide +kernel)
set_option maxRecDepth 20000 in
theorem gX4_isRight_X4_right : GoodIn wsX4_isRight (wsV RX4 109 RX4 yX4_right wsX4_right) := goodIn_app (goodIn_of _ (by decide +kernel)) ggX4_isRight_X4_right
set_option maxRecDepth 20000 in
theorem ggX4_strength_X4_isPlayer : GoodIn wsX4_strength wsX4_isPlayer := goodIn_r _ [4, 5, 6, 3, 7] (by decide +kernel) (by decide +kernel)
set_option maxRecDepth 20000 in
theorem gX4_strength_X4_isPlayer : GoodIn wsX4_strength (va_wsS RX4 64 yX4_isPlayer wsX4_isPlayer) := goodIn_app (goodIn_of _ (by decide +kernel)) ggX4_strength_X4_isPlayer
set_option maxRecDepth 20000 in
theorem ggX4_strength_X4_asked : GoodIn wsX4_strength wsX4_asked := goodIn_r _ [11, 12, 20, 21, 22, 23, 24, 25, 26, 27, 28, 29, 30, 31, 32, 33, 34, 35, 36] (by decide +kernel) (by decide +kernel)
set_option maxRecDepth 20000 in
theorem gX4_strength_X4_asked : GoodIn wsX4_strength (wsV RX4 78 RX4 yX4_asked wsX4_asked) := goodIn_app (goodIn_of _ (by decide +kernel)) ggX4_strength_X4_asked
set_option maxRecDepth 20000 in
theorem ggX4_strength_X4_strengthOf : GoodIn wsX4_strength wsX4_strengthOf := goodIn_r _ [16, 17, 18, 19, 20, 21, 22, 23, 24, 25, 26, 27, 28, 29, 30, 31, 32, 33, 34, 35, 36] (by decide +kernel) (by decide +kernel)
set_option maxRecDepth 20000 in
theorem gX4_strength_X4_strengthOf : GoodIn wsX4_strength (wsV RX4 112 RX4 yX4_strengthOf wsX4_strengthOf) := goodIn_app (goodIn_of _ (by decide +kernel)) ggX4_strength_X4_strengthOf
set_option maxRecDepth 20000 in
theorem ggX4_play_X4_isPlayer : GoodIn wsX4_play wsX4_isPlayer := goodIn_r _ [5, 6, 7, 4, 8] (by decide +kernel) (by decide +kernel)
set_option maxRecDepth 20000 in
theorem gX4_play_X4_isPlayer : GoodIn wsX4_play (va_wsS RX4 64 yX4_isPlayer wsX4_isPlayer) := goodIn_app (goodIn_of _ (by decide +kernel)) ggX4_play_X4_isPlayer
set_option maxRecDepth 20000 in
theorem ggX4_play_X4_right : GoodIn wsX4_play wsX4_right := goodIn_r _ [12, 13, 14, 15, 16, 17, 18, 19, 4, 20, 6, 7, 8, 21, 22, 23, 24, 25, 26, 27, 28, 29, 30, 31, 32, 42, 43, 44, 45, 46, 47, 48, 49, 50, 51, 52, 53, 54, 55, 56, 57, 58] (by decide +kernel) (by decide +kernel)
set_option maxRecDepth 20000 in
theorem gX4_play_X4_right : GoodIn wsX4_play (wsV RX4 109 RX4 yX4_right wsX4_right) := goodIn_app (goodIn_of _ (by decide +kernel)) ggX4_play_X4_right
set_option maxRecDepth 20000 in
theorem ggX4_play_X4_asked__ : GoodIn wsX4_play wsX4_asked__ := goodIn_r _ [36, 37, 42, 43, 44, 45, 46, 47, 48, 49, 50, 51, 52, 53, 54, 55, 56, 57, 58] (by decide +kernel) (by decide +kernel)
set_option maxRecDepth 20000 in
theorem gX4_play_X4_asked__ : GoodIn wsX4_play (wsV RX4 90 RX4 yX4_asked__ wsX4_asked__) := goodIn_app (goodIn_of _ (by decide +kernel)) ggX4_play_X4_asked__
set_option maxRecDepth 20000 in
theorem ggX4_play_X4_strengthOf : GoodIn wsX4_play wsX4_strengthOf := goodIn_r _ [41, 13, 14, 16, 42, 43, 44, 45, 46, 47, 48, 49, 50, 51, 52, 53, 54, 55, 56, 57, 58] (by decide +kernel) (by decide +kernel)
set_option maxRecDepth 20000 in
theorem gX4_play_X4_strengthOf : GoodIn wsX4_play (wsV RX4 112 RX4 yX4_strengthOf wsX4_strengthOf) := goodIn_app (goodIn_of _ (by decide +kernel)) ggX4_play_X4_strengthOf
end
section
theorem dL_mint_0 : decode cL_mint 0 = .ok (.aload_n 3, 1) := by decide +kernel
theorem dL_mint_1 : decode cL_mint 1 = .ok (.iconst 0, 1) := by decide +kernel
theorem dL_mint_2 : decode cL_mint 2 = .ok (.aload_n 0, 1) := by decide +kernel
theorem dL_mint_3 : decode cL_mint 3 = .ok (.iload_n 1, 1) := by decide +kernel
theorem dL_mint_4 : decode cL_mint 4 = .ok (.iload_n 2, 1) := by decide +kernel
theorem dL_mint_5 : decode cL_mint 5 = .ok (.invokevirtual 7, 3) := by decide +kernel
theorem dL_mint_8 : decode cL_mint 8 = .ok (.i2l, 1) := by decide +kernel
theorem dL_mint_9 : decode cL_mint 9 = .ok (.lastore, 1) := by decide +kernel
theorem dL_mint_10 : decode cL_mint 10 = .ok (.goto 11, 3) := by decide +kernel
theorem dL_mint_13 : decode cL_mint 13 = .ok (.astore 4, 2) := by decide +kernel
theorem dL_mint_15 : decode cL_mint 15 = .ok (.iconst 1, 1) := by decide +kernel
theorem dL_mint_16 : decode cL_mint 16 = .ok (.ireturn, 1) := by decide +kernel
theorem dL_mint_17 : decode cL_mint 17 = .ok (.astore 4, 2) := by decide +kernel
theorem dL_mint_19 : decode cL_mint 19 = .ok (.iconst 2, 1) := by decide +kernel
theorem dL_mint_20 : decode cL_mint 20 = .ok (.ireturn, 1) := by decide +kernel
theorem dL_mint_21 : decode cL_mint 21 = .ok (.iconst 0, 1) := by decide +kernel
theorem dL_mint_22 : decode cL_mint 22 = .ok (.ireturn, 1) := by decide +kernel
theorem dL_owner_0 : decode cL_owner 0 = .ok (.aload_n 2, 1) := by decide +kernel
theorem dL_owner_1 : decode cL_owner 1 = .ok (.iconst 0, 1) := by decide +kernel
theorem dL_owner_2 : decode cL_owner 2 = .ok (.aload_n 0, 1) := by decide +kernel
theorem dL_owner_3 : decode cL_owner 3 = .ok (.iload_n 1, 1) := by decide +kernel
theorem dL_owner_4 : decode cL_owner 4 = .ok (.invokevirtual 17, 3) := by decide +kernel
theorem dL_owner_7 : decode cL_owner 7 = .ok (.i2l, 1) := by decide +kernel
theorem dL_owner_8 : decode cL_owner 8 = .ok (.lastore, 1) := by decide +kernel
theorem dL_owner_9 : decode cL_owner 9 = .ok (.goto 6, 3) := by decide +kernel
theorem dL_owner_12 : decode cL_owner 12 = .ok (.astore_n 3, 1) := by decide +kernel
theorem dL_owner_13 : decode cL_owner 13 = .ok (.iconst 1, 1) := by decide +kernel
theorem dL_owner_14 : decode cL_owner 14 = .ok (.ireturn, 1) := by decide +kernel
theorem dL_owner_15 : decode cL_owner 15 = .ok (.iconst 0, 1) := by decide +kernel
theorem dL_owner_16 : decode cL_owner 16 = .ok (.ireturn, 1) := by decide +kernel
theorem dL_ownerByHistory_0 : decode cL_ownerByHistory 0 = .ok (.aload_n 2, 1) := by decide +kernel
theorem dL_ownerByHistory_1 : decode cL_ownerByHistory 1 = .ok (.iconst 0, 1) := by decide +kernel
theorem dL_ownerByHistory_2 : decode cL_ownerByHistory 2 = .ok (.aload_n 0, 1) := by decide +kernel
theorem dL_ownerByHistory_3 : decode cL_ownerByHistory 3 = .ok (.iload_n 1, 1) := by decide +kernel
theorem dL_ownerByHistory_4 : decode cL_ownerByHistory 4 = .ok (.invokevirtual 21, 3) := by decide +kernel
theorem dL_ownerByHistory_7 : decode cL_ownerByHistory 7 = .ok (.i2l, 1) := by decide +kernel
theorem dL_ownerByHistory_8 : decode cL_ownerByHistory 8 = .ok (.lastore, 1) := by decide +kernel
theorem dL_ownerByHistory_9 : decode cL_ownerByHistory 9 = .ok (.goto 6, 3) := by decide +kernel
theorem dL_ownerByHistory_12 : decode cL_ownerByHistory 12 = .ok (.astore_n 3, 1) := by decide +kernel
theorem dL_ownerByHistory_13 : decode cL_ownerByHistory 13 = .ok (.iconst 1, 1) := by decide +kernel
theorem dL_ownerByHistory_14 : decode cL_ownerByHistory 14 = .ok (.ireturn, 1) := by decide +kernel
theorem dL_ownerByHistory_15 : decode cL_ownerByHistory 15 = .ok (.iconst 0, 1) := by decide +kernel
theorem dL_ownerByHistory_16 : decode cL_ownerByHistory 16 = .ok (.ireturn, 1) := by decide +kernel
theorem dL_holder_0 : decode cL_holder 0 = .ok (.aload_n 2, 1) := by decide +kernel
theorem dL_holder_1 : decode cL_holder 1 = .ok (.iconst 0, 1) := by decide +kernel
theorem dL_holder_2 : decode cL_holder 2 = .ok (.aload_n 0, 1) := by decide +kernel
theorem dL_holder_3 : decode cL_holder 3 = .ok (.iload_n 1, 1) := by decide +kernel
theorem dL_holder_4 : decode cL_holder 4 = .ok (.invokevirtual 24, 3) := by decide +kernel
theorem dL_holder_7 : decode cL_holder 7 = .ok (.i2l, 1) := by decide +kernel
theorem dL_holder_8 : decode cL_holder 8 = .ok (.lastore, 1) := by decide +kernel
theorem dL_holder_9 : decode cL_holder 9 = .ok (.goto 6, 3) := by decide +kernel
theorem dL_holder_12 : decode cL_holder 12 = .ok (.astore_n 3, 1) := by decide +kernel
theorem dL_holder_13 : decode cL_holder 13 = .ok (.iconst 1, 1) := by decide +kernel
theorem dL_holder_14 : decode cL_holder 14 = .ok (.ireturn, 1) := by decide +kernel
theorem dL_holder_15 : decode cL_holder 15 = .ok (.iconst 0, 1) := by decide +kernel
theorem dL_holder_16 : decode cL_holder 16 = .ok (.ireturn, 1) := by decide +kernel
theorem dL_stateOf_0 : decode cL_stateOf 0 = .ok (.aload_n 2, 1) := by decide +kernel
theorem dL_stateOf_1 : decode cL_stateOf 1 = .ok (.iconst 0, 1) := by decide +kernel
theorem dL_stateOf_2 : decode cL_stateOf 2 = .ok (.aload_n 0, 1) := by decide +kernel
theorem dL_stateOf_3 : decode cL_stateOf 3 = .ok (.iload_n 1, 1) := by decide +kernel
theorem dL_stateOf_4 : decode cL_stateOf 4 = .ok (.invokevirtual 27, 3) := by decide +kernel
theorem dL_stateOf_7 : decode cL_stateOf 7 = .ok (.i2l, 1) := by decide +kernel
theorem dL_stateOf_8 : decode cL_stateOf 8 = .ok (.lastore, 1) := by decide +kernel
theorem dL_stateOf_9 : decode cL_stateOf 9 = .ok (.goto 6, 3) := by decide +kernel
theorem dL_stateOf_12 : decode cL_stateOf 12 = .ok (.astore_n 3, 1) := by decide +kernel
theorem dL_stateOf_13 : decode cL_stateOf 13 = .ok (.iconst 1, 1) := by decide +kernel
theorem dL_stateOf_14 : decode cL_stateOf 14 = .ok (.ireturn, 1) := by decide +kernel
theorem dL_stateOf_15 : decode cL_stateOf 15 = .ok (.iconst 0, 1) := by decide +kernel
theorem dL_stateOf_16 : decode cL_stateOf 16 = .ok (.ireturn, 1) := by decide +kernel
theorem dL_coins_0 : decode cL_coins 0 = .ok (.aload_n 2, 1) := by decide +kernel
theorem dL_coins_1 : decode cL_coins 1 = .ok (.iconst 0, 1) := by decide +kernel
theorem dL_coins_2 : decode cL_coins 2 = .ok (.aload_n 0, 1) := by decide +kernel
theorem dL_coins_3 : decode cL_coins 3 = .ok (.iload_n 1, 1) := by decide +kernel
theorem dL_coins_4 : decode cL_coins 4 = .ok (.invokevirtual 30, 3) := by decide +kernel
theorem dL_coins_7 : decode cL_coins 7 = .ok (.i2l, 1) := by decide +kernel
theorem dL_coins_8 : decode cL_coins 8 = .ok (.lastore, 1) := by decide +kernel
theorem dL_coins_9 : decode cL_coins 9 = .ok (.goto 6, 3) := by decide +kernel
theorem dL_coins_12 : decode cL_coins 12 = .ok (.astore_n 3, 1) := by decide +kernel
theorem dL_coins_13 : decode cL_coins 13 = .ok (.iconst 1, 1) := by decide +kernel
theorem dL_coins_14 : decode cL_coins 14 = .ok (.ireturn, 1) := by decide +kernel
theorem dL_coins_15 : decode cL_coins 15 = .ok (.iconst 0, 1) := by decide +kernel
theorem dL_coins_16 : decode cL_coins 16 = .ok (.ireturn, 1) := by decide +kernel
theorem dL_sell_0 : decode cL_sell 0 = .ok (.aload_n 3, 1) := by decide +kernel
theorem dL_sell_1 : decode cL_sell 1 = .ok (.iconst 0, 1) := by decide +kernel
theorem dL_sell_2 : decode cL_sell 2 = .ok (.aload_n 0, 1) := by decide +kernel
theorem dL_sell_3 : decode cL_sell 3 = .ok (.iload_n 1, 1) := by decide +kernel
theorem dL_sell_4 : decode cL_sell 4 = .ok (.iload_n 2, 1) := by decide +kernel
theorem dL_sell_5 : decode cL_sell 5 = .ok (.invokevirtual 33, 3) := by decide +kernel
theorem dL_sell_8 : decode cL_sell 8 = .ok (.i2l, 1) := by decide +kernel
theorem dL_sell_9 : decode cL_sell 9 = .ok (.lastore, 1) := by decide +kernel
theorem dL_sell_10 : decode cL_sell 10 = .ok (.goto 15, 3) := by decide +kernel
theorem dL_sell_13 : decode cL_sell 13 = .ok (.astore 4, 2) := by decide +kernel
theorem dL_sell_15 : decode cL_sell 15 = .ok (.iconst 1, 1) := by decide +kernel
theorem dL_sell_16 : decode cL_sell 16 = .ok (.ireturn, 1) := by decide +kernel
theorem dL_sell_17 : decode cL_sell 17 = .ok (.astore 4, 2) := by decide +kernel
theorem dL_sell_19 : decode cL_sell 19 = .ok (.iconst 2, 1) := by decide +kernel
theorem dL_sell_20 : decode cL_sell 20 = .ok (.ireturn, 1) := by decide +kernel
theorem dL_sell_21 : decode cL_sell 21 = .ok (.astore 4, 2) := by decide +kernel
theorem dL_sell_23 : decode cL_sell 23 = .ok (.iconst 3, 1) := by decide +kernel
theorem dL_sell_24 : decode cL_sell 24 = .ok (.ireturn, 1) := by decide +kernel
theorem dL_sell_25 : decode cL_sell 25 = .ok (.iconst 0, 1) := by decide +kernel
theorem dL_sell_26 : decode cL_sell 26 = .ok (.ireturn, 1) := by decide +kernel
theorem dL_bid_0 : decode cL_bid 0 = .ok (.aload 4, 2) := by decide +kernel
theorem dL_bid_2 : decode cL_bid 2 = .ok (.iconst 0, 1) := by decide +kernel
theorem dL_bid_3 : decode cL_bid 3 = .ok (.aload_n 0, 1) := by decide +kernel
theorem dL_bid_4 : decode cL_bid 4 = .ok (.iload_n 1, 1) := by decide +kernel
theorem dL_bid_5 : decode cL_bid 5 = .ok (.iload_n 2, 1) := by decide +kernel
theorem dL_bid_6 : decode cL_bid 6 = .ok (.iload_n 3, 1) := by decide +kernel
theorem dL_bid_7 : decode cL_bid 7 = .ok (.invokevirtual 38, 3) := by decide +kernel
theorem dL_bid_10 : decode cL_bid 10 = .ok (.i2l, 1) := by decide +kernel
theorem dL_bid_11 : decode cL_bid 11 = .ok (.lastore, 1) := by decide +kernel
theorem dL_bid_12 : decode cL_bid 12 = .ok (.goto 15, 3) := by decide +kernel
theorem dL_bid_15 : decode cL_bid 15 = .ok (.astore 5, 2) := by decide +kernel
theorem dL_bid_17 : decode cL_bid 17 = .ok (.iconst 1, 1) := by decide +kernel
theorem dL_bid_18 : decode cL_bid 18 = .ok (.ireturn, 1) := by decide +kernel
theorem dL_bid_19 : decode cL_bid 19 = .ok (.astore 5, 2) := by decide +kernel
theorem dL_bid_21 : decode cL_bid 21 = .ok (.iconst 2, 1) := by decide +kernel
theorem dL_bid_22 : decode cL_bid 22 = .ok (.ireturn, 1) := by decide +kernel
theorem dL_bid_23 : decode cL_bid 23 = .ok (.astore 5, 2) := by decide +kernel
theorem dL_bid_25 : decode cL_bid 25 = .ok (.iconst 3, 1) := by decide +kernel
theorem dL_bid_26 : decode cL_bid 26 = .ok (.ireturn, 1) := by decide +kernel
theorem dL_bid_27 : decode cL_bid 27 = .ok (.iconst 0, 1) := by decide +kernel
theorem dL_bid_28 : decode cL_bid 28 = .ok (.ireturn, 1) := by decide +kernel
theorem dL_cancelSale_0 : decode cL_cancelSale 0 = .ok (.aload_n 2, 1) := by decide +kernel
theorem dL_cancelSale_1 : decode cL_cancelSale 1 = .ok (.iconst 0, 1) := by decide +kernel
theorem dL_cancelSale_2 : decode cL_cancelSale 2 = .ok (.aload_n 0, 1) := by decide +kernel
theorem dL_cancelSale_3 : decode cL_cancelSale 3 = .ok (.iload_n 1, 1) := by decide +kernel
theorem dL_cancelSale_4 : decode cL_cancelSale 4 = .ok (.invokevirtual 42, 3) := by decide +kernel
theorem dL_cancelSale_7 : decode cL_cancelSale 7 = .ok (.i2l, 1) := by decide +kernel
theorem dL_cancelSale_8 : decode cL_cancelSale 8 = .ok (.lastore, 1) := by decide +kernel
theorem dL_cancelSale_9 : decode cL_cancelSale 9 = .ok (.goto 9, 3) := by decide +kernel
theorem dL_cancelSale_12 : decode cL_cancelSale 12 = .ok (.astore_n 3, 1) := by decide +kernel
theorem dL_cancelSale_13 : decode cL_cancelSale 13 = .ok (.iconst 1, 1) := by decide +kernel
theorem dL_cancelSale_14 : decode cL_cancelSale 14 = .ok (.ireturn, 1) := by decide +kernel
theorem dL_cancelSale_15 : decode cL_cancelSale 15 = .ok (.astore_n 3, 1) := by decide +kernel
theorem dL_cancelSale_16 : decode cL_cancelSale 16 = .ok (.iconst 2, 1) := by decide +kernel
theorem dL_cancelSale_17 : decode cL_cancelSale 17 = .ok (.ireturn, 1) := by decide +kernel
theorem dL_cancelSale_18 : decode cL_cancelSale 18 = .ok (.iconst 0, 1) := by decide +kernel
theorem dL_cancelSale_19 : decode cL_cancelSale 19 = .ok (.ireturn, 1) := by decide +kernel
theorem dL_cancelBid_0 : decode cL_cancelBid 0 = .ok (.aload_n 3, 1) := by decide +kernel
theorem dL_cancelBid_1 : decode cL_cancelBid 1 = .ok (.iconst 0, 1) := by decide +kernel
theorem dL_cancelBid_2 : decode cL_cancelBid 2 = .ok (.aload_n 0, 1) := by decide +kernel
theorem dL_cancelBid_3 : decode cL_cancelBid 3 = .ok (.iload_n 1, 1) := by decide +kernel
theorem dL_cancelBid_4 : decode cL_cancelBid 4 = .ok (.iload_n 2, 1) := by decide +kernel
theorem dL_cancelBid_5 : decode cL_cancelBid 5 = .ok (.invokevirtual 45, 3) := by decide +kernel
theorem dL_cancelBid_8 : decode cL_cancelBid 8 = .ok (.i2l, 1) := by decide +kernel
theorem dL_cancelBid_9 : decode cL_cancelBid 9 = .ok (.lastore, 1) := by decide +kernel
theorem dL_cancelBid_10 : decode cL_cancelBid 10 = .ok (.goto 11, 3) := by decide +kernel
theorem dL_cancelBid_13 : decode cL_cancelBid 13 = .ok (.astore 4, 2) := by decide +kernel
theorem dL_cancelBid_15 : decode cL_cancelBid 15 = .ok (.iconst 1, 1) := by decide +kernel
theorem dL_cancelBid_16 : decode cL_cancelBid 16 = .ok (.ireturn, 1) := by decide +kernel
theorem dL_cancelBid_17 : decode cL_cancelBid 17 = .ok (.astore 4, 2) := by decide +kernel
theorem dL_cancelBid_19 : decode cL_cancelBid 19 = .ok (.iconst 2, 1) := by decide +kernel
theorem dL_cancelBid_20 : decode cL_cancelBid 20 = .ok (.ireturn, 1) := by decide +kernel
theorem dL_cancelBid_21 : decode cL_cancelBid 21 = .ok (.iconst 0, 1) := by decide +kernel
theorem dL_cancelBid_22 : decode cL_cancelBid 22 = .ok (.ireturn, 1) := by decide +kernel
theorem dL_leastSale_0 : decode cL_leastSale 0 = .ok (.aload_n 2, 1) := by decide +kernel
theorem dL_leastSale_1 : decode cL_leastSale 1 = .ok (.iconst 0, 1) := by decide +kernel
theorem dL_leastSale_2 : decode cL_leastSale 2 = .ok (.aload_n 0, 1) := by decide +kernel
theorem dL_leastSale_3 : decode cL_leastSale 3 = .ok (.iload_n 1, 1) := by decide +kernel
theorem dL_leastSale_4 : decode cL_leastSale 4 = .ok (.invokevirtual 48, 3) := by decide +kernel
theorem dL_leastSale_7 : decode cL_leastSale 7 = .ok (.i2l, 1) := by decide +kernel
theorem dL_leastSale_8 : decode cL_leastSale 8 = .ok (.lastore, 1) := by decide +kernel
theorem dL_leastSale_9 : decode cL_leastSale 9 = .ok (.goto 6, 3) := by decide +kernel
theorem dL_leastSale_12 : decode cL_leastSale 12 = .ok (.astore_n 3, 1) := by decide +kernel
theorem dL_leastSale_13 : decode cL_leastSale 13 = .ok (.iconst 1, 1) := by decide +kernel
theorem dL_leastSale_14 : decode cL_leastSale 14 = .ok (.ireturn, 1) := by decide +kernel
theorem dL_leastSale_15 : decode cL_leastSale 15 = .ok (.iconst 0, 1) := by decide +kernel
theorem dL_leastSale_16 : decode cL_leastSale 16 = .ok (.ireturn, 1) := by decide +kernel
theorem dL_greatestBid_0 : decode cL_greatestBid 0 = .ok (.aload_n 2, 1) := by decide +kernel
theorem dL_greatestBid_1 : decode cL_greatestBid 1 = .ok (.iconst 0, 1) := by decide +kernel
theorem dL_greatestBid_2 : decode cL_greatestBid 2 = .ok (.aload_n 0, 1) := by decide +kernel
theorem dL_greatestBid_3 : decode cL_greatestBid 3 = .ok (.iload_n 1, 1) := by decide +kernel
theorem dL_greatestBid_4 : decode cL_greatestBid 4 = .ok (.invokevirtual 51, 3) := by decide +kernel
theorem dL_greatestBid_7 : decode cL_greatestBid 7 = .ok (.i2l, 1) := by decide +kernel
theorem dL_greatestBid_8 : decode cL_greatestBid 8 = .ok (.lastore, 1) := by decide +kernel
theorem dL_greatestBid_9 : decode cL_greatestBid 9 = .ok (.goto 6, 3) := by decide +kernel
theorem dL_greatestBid_12 : decode cL_greatestBid 12 = .ok (.astore_n 3, 1) := by decide +kernel
theorem dL_greatestBid_13 : decode cL_greatestBid 13 = .ok (.iconst 1, 1) := by decide +kernel
theorem dL_greatestBid_14 : decode cL_greatestBid 14 = .ok (.ireturn, 1) := by decide +kernel
theorem dL_greatestBid_15 : decode cL_greatestBid 15 = .ok (.iconst 0, 1) := by decide +kernel
theorem dL_greatestBid_16 : decode cL_greatestBid 16 = .ok (.ireturn, 1) := by decide +kernel
theorem dL_swap_0 : decode cL_swap 0 = .ok (.aload_n 0, 1) := by decide +kernel
theorem dL_swap_1 : decode cL_swap 1 = .ok (.iload_n 1, 1) := by decide +kernel
theorem dL_swap_2 : decode cL_swap 2 = .ok (.iload_n 2, 1) := by decide +kernel
theorem dL_swap_3 : decode cL_swap 3 = .ok (.invokevirtual 54, 3) := by decide +kernel
theorem dL_swap_6 : decode cL_swap 6 = .ok (.goto 12, 3) := by decide +kernel
theorem dL_swap_9 : decode cL_swap 9 = .ok (.astore_n 3, 1) := by decide +kernel
theorem dL_swap_10 : decode cL_swap 10 = .ok (.iconst 1, 1) := by decide +kernel
theorem dL_swap_11 : decode cL_swap 11 = .ok (.ireturn, 1) := by decide +kernel
theorem dL_swap_12 : decode cL_swap 12 = .ok (.astore_n 3, 1) := by decide +kernel
theorem dL_swap_13 : decode cL_swap 13 = .ok (.iconst 2, 1) := by decide +kernel
theorem dL_swap_14 : decode cL_swap 14 = .ok (.ireturn, 1) := by decide +kernel
theorem dL_swap_15 : decode cL_swap 15 = .ok (.astore_n 3, 1) := by decide +kernel
theorem dL_swap_16 : decode cL_swap 16 = .ok (.iconst 3, 1) := by decide +kernel
theorem dL_swap_17 : decode cL_swap 17 = .ok (.ireturn, 1) := by decide +kernel
theorem dL_swap_18 : decode cL_swap 18 = .ok (.iconst 0, 1) := by decide +kernel
theorem dL_swap_19 : decode cL_swap 19 = .ok (.ireturn, 1) := by decide +kernel
theorem dL_agree_0 : decode cL_agree 0 = .ok (.aload_n 2, 1) := by decide +kernel
theorem dL_agree_1 : decode cL_agree 1 = .ok (.iconst 0, 1) := by decide +kernel
theorem dL_agree_2 : decode cL_agree 2 = .ok (.aload_n 0, 1) := by decide +kernel
theorem dL_agree_3 : decode cL_agree 3 = .ok (.iload_n 1, 1) := by decide +kernel
theorem dL_agree_4 : decode cL_agree 4 = .ok (.invokevirtual 58, 3) := by decide +kernel
theorem dL_agree_7 : decode cL_agree 7 = .ok (.i2l, 1) := by decide +kernel
theorem dL_agree_8 : decode cL_agree 8 = .ok (.lastore, 1) := by decide +kernel
theorem dL_agree_9 : decode cL_agree 9 = .ok (.goto 9, 3) := by decide +kernel
theorem dL_agree_12 : decode cL_agree 12 = .ok (.astore_n 3, 1) := by decide +kernel
theorem dL_agree_13 : decode cL_agree 13 = .ok (.iconst 1, 1) := by decide +kernel
theorem dL_agree_14 : decode cL_agree 14 = .ok (.ireturn, 1) := by decide +kernel
theorem dL_agree_15 : decode cL_agree 15 = .ok (.astore_n 3, 1) := by decide +kernel
theorem dL_agree_16 : decode cL_agree 16 = .ok (.iconst 2, 1) := by decide +kernel
theorem dL_agree_17 : decode cL_agree 17 = .ok (.ireturn, 1) := by decide +kernel
theorem dL_agree_18 : decode cL_agree 18 = .ok (.iconst 0, 1) := by decide +kernel
theorem dL_agree_19 : decode cL_agree 19 = .ok (.ireturn, 1) := by decide +kernel
theorem dL_cancelSwap_0 : decode cL_cancelSwap 0 = .ok (.aload_n 0, 1) := by decide +kernel
theorem dL_cancelSwap_1 : decode cL_cancelSwap 1 = .ok (.iload_n 1, 1) := by decide +kernel
theorem dL_cancelSwap_2 : decode cL_cancelSwap 2 = .ok (.invokevirtual 61, 3) := by decide +kernel
theorem dL_cancelSwap_5 : decode cL_cancelSwap 5 = .ok (.goto 9, 3) := by decide +kernel
theorem dL_cancelSwap_8 : decode cL_cancelSwap 8 = .ok (.astore_n 2, 1) := by decide +kernel
theorem dL_cancelSwap_9 : decode cL_cancelSwap 9 = .ok (.iconst 1, 1) := by decide +kernel
theorem dL_cancelSwap_10 : decode cL_cancelSwap 10 = .ok (.ireturn, 1) := by decide +kernel
theorem dL_cancelSwap_11 : decode cL_cancelSwap 11 = .ok (.astore_n 2, 1) := by decide +kernel
theorem dL_cancelSwap_12 : decode cL_cancelSwap 12 = .ok (.iconst 2, 1) := by decide +kernel
theorem dL_cancelSwap_13 : decode cL_cancelSwap 13 = .ok (.ireturn, 1) := by decide +kernel
theorem dL_cancelSwap_14 : decode cL_cancelSwap 14 = .ok (.iconst 0, 1) := by decide +kernel
theorem dL_cancelSwap_15 : decode cL_cancelSwap 15 = .ok (.ireturn, 1) := by decide +kernel
theorem dL_lend_0 : decode cL_lend 0 = .ok (.aload 4, 2) := by decide +kernel
theorem dL_lend_2 : decode cL_lend 2 = .ok (.iconst 0, 1) := by decide +kernel
theorem dL_lend_3 : decode cL_lend 3 = .ok (.aload_n 0, 1) := by decide +kernel
theorem dL_lend_4 : decode cL_lend 4 = .ok (.iload_n 1, 1) := by decide +kernel
theorem dL_lend_5 : decode cL_lend 5 = .ok (.iload_n 2, 1) := by decide +kernel
theorem dL_lend_6 : decode cL_lend 6 = .ok (.iload_n 3, 1) := by decide +kernel
theorem dL_lend_7 : decode cL_lend 7 = .ok (.invokevirtual 65, 3) := by decide +kernel
theorem dL_lend_10 : decode cL_lend 10 = .ok (.i2l, 1) := by decide +kernel
theorem dL_lend_11 : decode cL_lend 11 = .ok (.lastore, 1) := by decide +kernel
theorem dL_lend_12 : decode cL_lend 12 = .ok (.goto 15, 3) := by decide +kernel
theorem dL_lend_15 : decode cL_lend 15 = .ok (.astore 5, 2) := by decide +kernel
theorem dL_lend_17 : decode cL_lend 17 = .ok (.iconst 1, 1) := by decide +kernel
theorem dL_lend_18 : decode cL_lend 18 = .ok (.ireturn, 1) := by decide +kernel
theorem dL_lend_19 : decode cL_lend 19 = .ok (.astore 5, 2) := by decide +kernel
theorem dL_lend_21 : decode cL_lend 21 = .ok (.iconst 2, 1) := by decide +kernel
theorem dL_lend_22 : decode cL_lend 22 = .ok (.ireturn, 1) := by decide +kernel
theorem dL_lend_23 : decode cL_lend 23 = .ok (.astore 5, 2) := by decide +kernel
theorem dL_lend_25 : decode cL_lend 25 = .ok (.iconst 3, 1) := by decide +kernel
theorem dL_lend_26 : decode cL_lend 26 = .ok (.ireturn, 1) := by decide +kernel
theorem dL_lend_27 : decode cL_lend 27 = .ok (.iconst 0, 1) := by decide +kernel
theorem dL_lend_28 : decode cL_lend 28 = .ok (.ireturn, 1) := by decide +kernel
theorem dL_ban_0 : decode cL_ban 0 = .ok (.aload_n 3, 1) := by decide +kernel
theorem dL_ban_1 : decode cL_ban 1 = .ok (.iconst 0, 1) := by decide +kernel
theorem dL_ban_2 : decode cL_ban 2 = .ok (.aload_n 0, 1) := by decide +kernel
theorem dL_ban_3 : decode cL_ban 3 = .ok (.iload_n 1, 1) := by decide +kernel
theorem dL_ban_4 : decode cL_ban 4 = .ok (.iload_n 2, 1) := by decide +kernel
theorem dL_ban_5 : decode cL_ban 5 = .ok (.invokevirtual 68, 3) := by decide +kernel
theorem dL_ban_8 : decode cL_ban 8 = .ok (.i2l, 1) := by decide +kernel
theorem dL_ban_9 : decode cL_ban 9 = .ok (.lastore, 1) := by decide +kernel
theorem dL_ban_10 : decode cL_ban 10 = .ok (.goto 11, 3) := by decide +kernel
theorem dL_ban_13 : decode cL_ban 13 = .ok (.astore 4, 2) := by decide +kernel
theorem dL_ban_15 : decode cL_ban 15 = .ok (.iconst 1, 1) := by decide +kernel
theorem dL_ban_16 : decode cL_ban 16 = .ok (.ireturn, 1) := by decide +kernel
theorem dL_ban_17 : decode cL_ban 17 = .ok (.astore 4, 2) := by decide +kernel
theorem dL_ban_19 : decode cL_ban 19 = .ok (.iconst 2, 1) := by decide +kernel
theorem dL_ban_20 : decode cL_ban 20 = .ok (.ireturn, 1) := by decide +kernel
theorem dL_ban_21 : decode cL_ban 21 = .ok (.iconst 0, 1) := by decide +kernel
theorem dL_ban_22 : decode cL_ban 22 = .ok (.ireturn, 1) := by decide +kernel
theorem dL_lift_0 : decode cL_lift 0 = .ok (.aload_n 2, 1) := by decide +kernel
theorem dL_lift_1 : decode cL_lift 1 = .ok (.iconst 0, 1) := by decide +kernel
theorem dL_lift_2 : decode cL_lift 2 = .ok (.aload_n 0, 1) := by decide +kernel
theorem dL_lift_3 : decode cL_lift 3 = .ok (.iload_n 1, 1) := by decide +kernel
theorem dL_lift_4 : decode cL_lift 4 = .ok (.invokevirtual 71, 3) := by decide +kernel
theorem dL_lift_7 : decode cL_lift 7 = .ok (.ifCond .eq 7, 3) := by decide +kernel
theorem dL_lift_10 : decode cL_lift 10 = .ok (.lconst 1, 1) := by decide +kernel
theorem dL_lift_11 : decode cL_lift 11 = .ok (.goto 4, 3) := by decide +kernel
theorem dL_lift_14 : decode cL_lift 14 = .ok (.lconst 0, 1) := by decide +kernel
theorem dL_lift_15 : decode cL_lift 15 = .ok (.lastore, 1) := by decide +kernel
theorem dL_lift_16 : decode cL_lift 16 = .ok (.goto 6, 3) := by decide +kernel
theorem dL_lift_19 : decode cL_lift 19 = .ok (.astore_n 3, 1) := by decide +kernel
theorem dL_lift_20 : decode cL_lift 20 = .ok (.iconst 1, 1) := by decide +kernel
theorem dL_lift_21 : decode cL_lift 21 = .ok (.ireturn, 1) := by decide +kernel
theorem dL_lift_22 : decode cL_lift 22 = .ok (.iconst 0, 1) := by decide +kernel
theorem dL_lift_23 : decode cL_lift 23 = .ok (.ireturn, 1) := by decide +kernel
theorem dL_isBanned_0 : decode cL_isBanned 0 = .ok (.aload_n 2, 1) := by decide +kernel
theorem dL_isBanned_1 : decode cL_isBanned 1 = .ok (.iconst 0, 1) := by decide +kernel
theorem dL_isBanned_2 : decode cL_isBanned 2 = .ok (.aload_n 0, 1) := by decide +kernel
theorem dL_isBanned_3 : decode cL_isBanned 3 = .ok (.iload_n 1, 1) := by decide +kernel
theorem dL_isBanned_4 : decode cL_isBanned 4 = .ok (.invokevirtual 75, 3) := by decide +kernel
theorem dL_isBanned_7 : decode cL_isBanned 7 = .ok (.ifCond .eq 7, 3) := by decide +kernel
theorem dL_isBanned_10 : decode cL_isBanned 10 = .ok (.lconst 1, 1) := by decide +kernel
theorem dL_isBanned_11 : decode cL_isBanned 11 = .ok (.goto 4, 3) := by decide +kernel
theorem dL_isBanned_14 : decode cL_isBanned 14 = .ok (.lconst 0, 1) := by decide +kernel
theorem dL_isBanned_15 : decode cL_isBanned 15 = .ok (.lastore, 1) := by decide +kernel
theorem dL_isBanned_16 : decode cL_isBanned 16 = .ok (.goto 6, 3) := by decide +kernel
theorem dL_isBanned_19 : decode cL_isBanned 19 = .ok (.astore_n 3, 1) := by decide +kernel
theorem dL_isBanned_20 : decode cL_isBanned 20 = .ok (.iconst 1, 1) := by decide +kernel
theorem dL_isBanned_21 : decode cL_isBanned 21 = .ok (.ireturn, 1) := by decide +kernel
theorem dL_isBanned_22 : decode cL_isBanned 22 = .ok (.iconst 0, 1) := by decide +kernel
theorem dL_isBanned_23 : decode cL_isBanned 23 = .ok (.ireturn, 1) := by decide +kernel
theorem dL_pass_0 : decode cL_pass 0 = .ok (.aload_n 2, 1) := by decide +kernel
theorem dL_pass_1 : decode cL_pass 1 = .ok (.iconst 0, 1) := by decide +kernel
theorem dL_pass_2 : decode cL_pass 2 = .ok (.aload_n 0, 1) := by decide +kernel
theorem dL_pass_3 : decode cL_pass 3 = .ok (.iload_n 1, 1) := by decide +kernel
theorem dL_pass_4 : decode cL_pass 4 = .ok (.invokevirtual 78, 3) := by decide +kernel
theorem dL_pass_7 : decode cL_pass 7 = .ok (.i2l, 1) := by decide +kernel
theorem dL_pass_8 : decode cL_pass 8 = .ok (.lastore, 1) := by decide +kernel
theorem dL_pass_9 : decode cL_pass 9 = .ok (.goto 6, 3) := by decide +kernel
theorem dL_pass_12 : decode cL_pass 12 = .ok (.astore_n 3, 1) := by decide +kernel
theorem dL_pass_13 : decode cL_pass 13 = .ok (.iconst 1, 1) := by decide +kernel
theorem dL_pass_14 : decode cL_pass 14 = .ok (.ireturn, 1) := by decide +kernel
theorem dL_pass_15 : decode cL_pass 15 = .ok (.iconst 0, 1) := by decide +kernel
theorem dL_pass_16 : decode cL_pass 16 = .ok (.ireturn, 1) := by decide +kernel
theorem dL_toggleDeck_0 : decode cL_toggleDeck 0 = .ok (.aload_n 3, 1) := by decide +kernel
theorem dL_toggleDeck_1 : decode cL_toggleDeck 1 = .ok (.iconst 0, 1) := by decide +kernel
theorem dL_toggleDeck_2 : decode cL_toggleDeck 2 = .ok (.aload_n 0, 1) := by decide +kernel
theorem dL_toggleDeck_3 : decode cL_toggleDeck 3 = .ok (.iload_n 1, 1) := by decide +kernel
theorem dL_toggleDeck_4 : decode cL_toggleDeck 4 = .ok (.iload_n 2, 1) := by decide +kernel
theorem dL_toggleDeck_5 : decode cL_toggleDeck 5 = .ok (.invokevirtual 81, 3) := by decide +kernel
theorem dL_toggleDeck_8 : decode cL_toggleDeck 8 = .ok (.i2l, 1) := by decide +kernel
theorem dL_toggleDeck_9 : decode cL_toggleDeck 9 = .ok (.lastore, 1) := by decide +kernel
theorem dL_toggleDeck_10 : decode cL_toggleDeck 10 = .ok (.goto 7, 3) := by decide +kernel
theorem dL_toggleDeck_13 : decode cL_toggleDeck 13 = .ok (.astore 4, 2) := by decide +kernel
theorem dL_toggleDeck_15 : decode cL_toggleDeck 15 = .ok (.iconst 1, 1) := by decide +kernel
theorem dL_toggleDeck_16 : decode cL_toggleDeck 16 = .ok (.ireturn, 1) := by decide +kernel
theorem dL_toggleDeck_17 : decode cL_toggleDeck 17 = .ok (.iconst 0, 1) := by decide +kernel
theorem dL_toggleDeck_18 : decode cL_toggleDeck 18 = .ok (.ireturn, 1) := by decide +kernel
theorem dL_isRight_0 : decode cL_isRight 0 = .ok (.aload_n 2, 1) := by decide +kernel
theorem dL_isRight_1 : decode cL_isRight 1 = .ok (.iconst 0, 1) := by decide +kernel
theorem dL_isRight_2 : decode cL_isRight 2 = .ok (.aload_n 0, 1) := by decide +kernel
theorem dL_isRight_3 : decode cL_isRight 3 = .ok (.iload_n 1, 1) := by decide +kernel
theorem dL_isRight_4 : decode cL_isRight 4 = .ok (.invokevirtual 84, 3) := by decide +kernel
theorem dL_isRight_7 : decode cL_isRight 7 = .ok (.ifCond .eq 7, 3) := by decide +kernel
theorem dL_isRight_10 : decode cL_isRight 10 = .ok (.lconst 1, 1) := by decide +kernel
theorem dL_isRight_11 : decode cL_isRight 11 = .ok (.goto 4, 3) := by decide +kernel
theorem dL_isRight_14 : decode cL_isRight 14 = .ok (.lconst 0, 1) := by decide +kernel
theorem dL_isRight_15 : decode cL_isRight 15 = .ok (.lastore, 1) := by decide +kernel
theorem dL_isRight_16 : decode cL_isRight 16 = .ok (.goto 6, 3) := by decide +kernel
theorem dL_isRight_19 : decode cL_isRight 19 = .ok (.astore_n 3, 1) := by decide +kernel
theorem dL_isRight_20 : decode cL_isRight 20 = .ok (.iconst 1, 1) := by decide +kernel
theorem dL_isRight_21 : decode cL_isRight 21 = .ok (.ireturn, 1) := by decide +kernel
theorem dL_isRight_22 : decode cL_isRight 22 = .ok (.iconst 0, 1) := by decide +kernel
theorem dL_isRight_23 : decode cL_isRight 23 = .ok (.ireturn, 1) := by decide +kernel
theorem dL_strength_0 : decode cL_strength 0 = .ok (.aload_n 2, 1) := by decide +kernel
theorem dL_strength_1 : decode cL_strength 1 = .ok (.iconst 0, 1) := by decide +kernel
theorem dL_strength_2 : decode cL_strength 2 = .ok (.aload_n 0, 1) := by decide +kernel
theorem dL_strength_3 : decode cL_strength 3 = .ok (.iload_n 1, 1) := by decide +kernel
theorem dL_strength_4 : decode cL_strength 4 = .ok (.invokevirtual 87, 3) := by decide +kernel
theorem dL_strength_7 : decode cL_strength 7 = .ok (.i2l, 1) := by decide +kernel
theorem dL_strength_8 : decode cL_strength 8 = .ok (.lastore, 1) := by decide +kernel
theorem dL_strength_9 : decode cL_strength 9 = .ok (.goto 6, 3) := by decide +kernel
theorem dL_strength_12 : decode cL_strength 12 = .ok (.astore_n 3, 1) := by decide +kernel
theorem dL_strength_13 : decode cL_strength 13 = .ok (.iconst 1, 1) := by decide +kernel
theorem dL_strength_14 : decode cL_strength 14 = .ok (.ireturn, 1) := by decide +kernel
theorem dL_strength_15 : decode cL_strength 15 = .ok (.iconst 0, 1) := by decide +kernel
theorem dL_strength_16 : decode cL_strength 16 = .ok (.ireturn, 1) := by decide +kernel
theorem dL_play_0 : decode cL_play 0 = .ok (.aload_n 3, 1) := by decide +kernel
theorem dL_play_1 : decode cL_play 1 = .ok (.iconst 0, 1) := by decide +kernel
theorem dL_play_2 : decode cL_play 2 = .ok (.aload_n 0, 1) := by decide +kernel
theorem dL_play_3 : decode cL_play 3 = .ok (.iload_n 1, 1) := by decide +kernel
theorem dL_play_4 : decode cL_play 4 = .ok (.iload_n 2, 1) := by decide +kernel
theorem dL_play_5 : decode cL_play 5 = .ok (.invokevirtual 90, 3) := by decide +kernel
theorem dL_play_8 : decode cL_play 8 = .ok (.i2l, 1) := by decide +kernel
theorem dL_play_9 : decode cL_play 9 = .ok (.lastore, 1) := by decide +kernel
theorem dL_play_10 : decode cL_play 10 = .ok (.goto 15, 3) := by decide +kernel
theorem dL_play_13 : decode cL_play 13 = .ok (.astore 4, 2) := by decide +kernel
theorem dL_play_15 : decode cL_play 15 = .ok (.iconst 1, 1) := by decide +kernel
theorem dL_play_16 : decode cL_play 16 = .ok (.ireturn, 1) := by decide +kernel
theorem dL_play_17 : decode cL_play 17 = .ok (.astore 4, 2) := by decide +kernel
theorem dL_play_19 : decode cL_play 19 = .ok (.iconst 2, 1) := by decide +kernel
theorem dL_play_20 : decode cL_play 20 = .ok (.ireturn, 1) := by decide +kernel
theorem dL_play_21 : decode cL_play 21 = .ok (.astore 4, 2) := by decide +kernel
theorem dL_play_23 : decode cL_play 23 = .ok (.iconst 3, 1) := by decide +kernel
theorem dL_play_24 : decode cL_play 24 = .ok (.ireturn, 1) := by decide +kernel
theorem dL_play_25 : decode cL_play 25 = .ok (.iconst 0, 1) := by decide +kernel
theorem dL_play_26 : decode cL_play 26 = .ok (.ireturn, 1) := by decide +kernel
theorem dL_law_0 : decode cL_law 0 = .ok (.new 8, 3) := by decide +kernel
theorem dL_law_3 : decode cL_law 3 = .ok (.dup, 1) := by decide +kernel
theorem dL_law_4 : decode cL_law 4 = .ok (.invokespecial 93, 3) := by decide +kernel
theorem dL_law_7 : decode cL_law 7 = .ok (.astore_n 1, 1) := by decide +kernel
theorem dL_law_8 : decode cL_law 8 = .ok (.new 94, 3) := by decide +kernel
theorem dL_law_11 : decode cL_law 11 = .ok (.dup, 1) := by decide +kernel
theorem dL_law_12 : decode cL_law 12 = .ok (.invokespecial 96, 3) := by decide +kernel
theorem dL_law_15 : decode cL_law 15 = .ok (.astore_n 2, 1) := by decide +kernel
theorem dL_law_16 : decode cL_law 16 = .ok (.iconst 1, 1) := by decide +kernel
theorem dL_law_17 : decode cL_law 17 = .ok (.newarray .long, 2) := by decide +kernel
theorem dL_law_19 : decode cL_law 19 = .ok (.astore_n 3, 1) := by decide +kernel
theorem dL_law_20 : decode cL_law 20 = .ok (.iconst 0, 1) := by decide +kernel
theorem dL_law_21 : decode cL_law 21 = .ok (.istore 4, 2) := by decide +kernel
theorem dL_law_23 : decode cL_law 23 = .ok (.iload 4, 2) := by decide +kernel
theorem dL_law_25 : decode cL_law 25 = .ok (.aload_n 0, 1) := by decide +kernel
theorem dL_law_26 : decode cL_law 26 = .ok (.arraylength, 1) := by decide +kernel
theorem dL_law_27 : decode cL_law 27 = .ok (.iconst 4, 1) := by decide +kernel
theorem dL_law_28 : decode cL_law 28 = .ok (.isub, 1) := by decide +kernel
theorem dL_law_29 : decode cL_law 29 = .ok (.if_icmp .gt 1582, 3) := by decide +kernel
theorem dL_law_32 : decode cL_law 32 = .ok (.aload_n 0, 1) := by decide +kernel
theorem dL_law_33 : decode cL_law 33 = .ok (.iload 4, 2) := by decide +kernel
theorem dL_law_35 : decode cL_law 35 = .ok (.iaload, 1) := by decide +kernel
theorem dL_law_36 : decode cL_law 36 = .ok (.bipush 31, 2) := by decide +kernel
theorem dL_law_38 : decode cL_law 38 = .ok (.iand, 1) := by decide +kernel
theorem dL_law_39 : decode cL_law 39 = .ok (.tableswitch 1566 0 23 #[109, 177, 233, 289, 345, 401, 457, 525, 605, 661, 729, 785, 841, 889, 945, 981, 1061, 1129, 1192, 1255, 1311, 1379, 1442, 1498], 109) := by decide +kernel
theorem dL_law_148 : decode cL_law 148 = .ok (.aload_n 1, 1) := by decide +kernel
theorem dL_law_149 : decode cL_law 149 = .ok (.aload_n 0, 1) := by decide +kernel
theorem dL_law_150 : decode cL_law 150 = .ok (.iload 4, 2) := by decide +kernel
theorem dL_law_152 : decode cL_law 152 = .ok (.iconst 1, 1) := by decide +kernel
theorem dL_law_153 : decode cL_law 153 = .ok (.iadd, 1) := by decide +kernel
theorem dL_law_154 : decode cL_law 154 = .ok (.iaload, 1) := by decide +kernel
theorem dL_law_155 : decode cL_law 155 = .ok (.aload_n 0, 1) := by decide +kernel
theorem dL_law_156 : decode cL_law 156 = .ok (.iload 4, 2) := by decide +kernel
theorem dL_law_158 : decode cL_law 158 = .ok (.iconst 2, 1) := by decide +kernel
theorem dL_law_159 : decode cL_law 159 = .ok (.iadd, 1) := by decide +kernel
theorem dL_law_160 : decode cL_law 160 = .ok (.iaload, 1) := by decide +kernel
theorem dL_law_161 : decode cL_law 161 = .ok (.aload_n 3, 1) := by decide +kernel
theorem dL_law_162 : decode cL_law 162 = .ok (.invokestatic 97, 3) := by decide +kernel
theorem dL_law_165 : decode cL_law 165 = .ok (.istore 5, 2) := by decide +kernel
theorem dL_law_167 : decode cL_law 167 = .ok (.aload_n 2, 1) := by decide +kernel
theorem dL_law_168 : decode cL_law 168 = .ok (.aload_n 0, 1) := by decide +kernel
theorem dL_law_169 : decode cL_law 169 = .ok (.iload 4, 2) := by decide +kernel
theorem dL_law_171 : decode cL_law 171 = .ok (.iconst 1, 1) := by decide +kernel
theorem dL_law_172 : decode cL_law 172 = .ok (.iadd, 1) := by decide +kernel
theorem dL_law_173 : decode cL_law 173 = .ok (.iaload, 1) := by decide +kernel
theorem dL_law_174 : decode cL_law 174 = .ok (.aload_n 0, 1) := by decide +kernel
theorem dL_law_175 : decode cL_law 175 = .ok (.iload 4, 2) := by decide +kernel
theorem dL_law_177 : decode cL_law 177 = .ok (.iconst 2, 1) := by decide +kernel
theorem dL_law_178 : decode cL_law 178 = .ok (.iadd, 1) := by decide +kernel
theorem dL_law_179 : decode cL_law 179 = .ok (.iaload, 1) := by decide +kernel
theorem dL_law_180 : decode cL_law 180 = .ok (.invokevirtual 102, 3) := by decide +kernel
theorem dL_law_183 : decode cL_law 183 = .ok (.istore 6, 2) := by decide +kernel
theorem dL_law_185 : decode cL_law 185 = .ok (.aload_n 2, 1) := by decide +kernel
theorem dL_law_186 : decode cL_law 186 = .ok (.invokevirtual 103, 3) := by decide +kernel
theorem dL_law_189 : decode cL_law 189 = .ok (.iload 5, 2) := by decide +kernel
theorem dL_law_191 : decode cL_law 191 = .ok (.if_icmp .eq 5, 3) := by decide +kernel
theorem dL_law_194 : decode cL_law 194 = .ok (.iconst 0, 1) := by decide +kernel
theorem dL_law_195 : decode cL_law 195 = .ok (.ireturn, 1) := by decide +kernel
theorem dL_law_196 : decode cL_law 196 = .ok (.iload 5, 2) := by decide +kernel
theorem dL_law_198 : decode cL_law 198 = .ok (.ifCond .ne 15, 3) := by decide +kernel
theorem dL_law_201 : decode cL_law 201 = .ok (.aload_n 3, 1) := by decide +kernel
theorem dL_law_202 : decode cL_law 202 = .ok (.iconst 0, 1) := by decide +kernel
theorem dL_law_203 : decode cL_law 203 = .ok (.laload, 1) := by decide +kernel
theorem dL_law_204 : decode cL_law 204 = .ok (.iload 6, 2) := by decide +kernel
theorem dL_law_206 : decode cL_law 206 = .ok (.i2l, 1) := by decide +kernel
theorem dL_law_207 : decode cL_law 207 = .ok (.lcmp, 1) := by decide +kernel
theorem dL_law_208 : decode cL_law 208 = .ok (.ifCond .eq 5, 3) := by decide +kernel
theorem dL_law_211 : decode cL_law 211 = .ok (.iconst 0, 1) := by decide +kernel
theorem dL_law_212 : decode cL_law 212 = .ok (.ireturn, 1) := by decide +kernel
theorem dL_law_213 : decode cL_law 213 = .ok (.goto 1392, 3) := by decide +kernel
theorem dL_law_216 : decode cL_law 216 = .ok (.aload_n 1, 1) := by decide +kernel
theorem dL_law_217 : decode cL_law 217 = .ok (.aload_n 0, 1) := by decide +kernel
theorem dL_law_218 : decode cL_law 218 = .ok (.iload 4, 2) := by decide +kernel
theorem dL_law_220 : decode cL_law 220 = .ok (.iconst 1, 1) := by decide +kernel
theorem dL_law_221 : decode cL_law 221 = .ok (.iadd, 1) := by decide +kernel
theorem dL_law_222 : decode cL_law 222 = .ok (.iaload, 1) := by decide +kernel
theorem dL_law_223 : decode cL_law 223 = .ok (.aload_n 3, 1) := by decide +kernel
theorem dL_law_224 : decode cL_law 224 = .ok (.invokestatic 107, 3) := by decide +kernel
theorem dL_law_227 : decode cL_law 227 = .ok (.istore 5, 2) := by decide +kernel
theorem dL_law_229 : decode cL_law 229 = .ok (.aload_n 2, 1) := by decide +kernel
theorem dL_law_230 : decode cL_law 230 = .ok (.aload_n 0, 1) := by decide +kernel
theorem dL_law_231 : decode cL_law 231 = .ok (.iload 4, 2) := by decide +kernel
theorem dL_law_233 : decode cL_law 233 = .ok (.iconst 1, 1) := by decide +kernel
theorem dL_law_234 : decode cL_law 234 = .ok (.iadd, 1) := by decide +kernel
theorem dL_law_235 : decode cL_law 235 = .ok (.iaload, 1) := by decide +kernel
theorem dL_law_236 : decode cL_law 236 = .ok (.invokevirtual 110, 3) := by decide +kernel
theorem dL_law_239 : decode cL_law 239 = .ok (.istore 6, 2) := by decide +kernel
theorem dL_law_241 : decode cL_law 241 = .ok (.aload_n 2, 1) := by decide +kernel
theorem dL_law_242 : decode cL_law 242 = .ok (.invokevirtual 103, 3) := by decide +kernel
theorem dL_law_245 : decode cL_law 245 = .ok (.iload 5, 2) := by decide +kernel
theorem dL_law_247 : decode cL_law 247 = .ok (.if_icmp .eq 5, 3) := by decide +kernel
theorem dL_law_250 : decode cL_law 250 = .ok (.iconst 0, 1) := by decide +kernel
theorem dL_law_251 : decode cL_law 251 = .ok (.ireturn, 1) := by decide +kernel
theorem dL_law_252 : decode cL_law 252 = .ok (.iload 5, 2) := by decide +kernel
theorem dL_law_254 : decode cL_law 254 = .ok (.ifCond .ne 15, 3) := by decide +kernel
theorem dL_law_257 : decode cL_law 257 = .ok (.aload_n 3, 1) := by decide +kernel
theorem dL_law_258 : decode cL_law 258 = .ok (.iconst 0, 1) := by decide +kernel
theorem dL_law_259 : decode cL_law 259 = .ok (.laload, 1) := by decide +kernel
theorem dL_law_260 : decode cL_law 260 = .ok (.iload 6, 2) := by decide +kernel
theorem dL_law_262 : decode cL_law 262 = .ok (.i2l, 1) := by decide +kernel
theorem dL_law_263 : decode cL_law 263 = .ok (.lcmp, 1) := by decide +kernel
theorem dL_law_264 : decode cL_law 264 = .ok (.ifCond .eq 5, 3) := by decide +kernel
theorem dL_law_267 : decode cL_law 267 = .ok (.iconst 0, 1) := by decide +kernel
theorem dL_law_268 : decode cL_law 268 = .ok (.ireturn, 1) := by decide +kernel
theorem dL_law_269 : decode cL_law 269 = .ok (.goto 1336, 3) := by decide +kernel
theorem dL_law_272 : decode cL_law 272 = .ok (.aload_n 1, 1) := by decide +kernel
theorem dL_law_273 : decode cL_law 273 = .ok (.aload_n 0, 1) := by decide +kernel
theorem dL_law_274 : decode cL_law 274 = .ok (.iload 4, 2) := by decide +kernel
theorem dL_law_276 : decode cL_law 276 = .ok (.iconst 1, 1) := by decide +kernel
theorem dL_law_277 : decode cL_law 277 = .ok (.iadd, 1) := by decide +kernel
theorem dL_law_278 : decode cL_law 278 = .ok (.iaload, 1) := by decide +kernel
theorem dL_law_279 : decode cL_law 279 = .ok (.aload_n 3, 1) := by decide +kernel
theorem dL_law_280 : decode cL_law 280 = .ok (.invokestatic 111, 3) := by decide +kernel
theorem dL_law_283 : decode cL_law 283 = .ok (.istore 5, 2) := by decide +kernel
theorem dL_law_285 : decode cL_law 285 = .ok (.aload_n 2, 1) := by decide +kernel
theorem dL_law_286 : decode cL_law 286 = .ok (.aload_n 0, 1) := by decide +kernel
theorem dL_law_287 : decode cL_law 287 = .ok (.iload 4, 2) := by decide +kernel
theorem dL_law_289 : decode cL_law 289 = .ok (.iconst 1, 1) := by decide +kernel
theorem dL_law_290 : decode cL_law 290 = .ok (.iadd, 1) := by decide +kernel
theorem dL_law_291 : decode cL_law 291 = .ok (.iaload, 1) := by decide +kernel
theorem dL_law_292 : decode cL_law 292 = .ok (.invokevirtual 113, 3) := by decide +kernel
theorem dL_law_295 : decode cL_law 295 = .ok (.istore 6, 2) := by decide +kernel
theorem dL_law_297 : decode cL_law 297 = .ok (.aload_n 2, 1) := by decide +kernel
theorem dL_law_298 : decode cL_law 298 = .ok (.invokevirtual 103, 3) := by decide +kernel
theorem dL_law_301 : decode cL_law 301 = .ok (.iload 5, 2) := by decide +kernel
theorem dL_law_303 : decode cL_law 303 = .ok (.if_icmp .eq 5, 3) := by decide +kernel
theorem dL_law_306 : decode cL_law 306 = .ok (.iconst 0, 1) := by decide +kernel
theorem dL_law_307 : decode cL_law 307 = .ok (.ireturn, 1) := by decide +kernel
theorem dL_law_308 : decode cL_law 308 = .ok (.iload 5, 2) := by decide +kernel
theorem dL_law_310 : decode cL_law 310 = .ok (.ifCond .ne 15, 3) := by decide +kernel
theorem dL_law_313 : decode cL_law 313 = .ok (.aload_n 3, 1) := by decide +kernel
theorem dL_law_314 : decode cL_law 314 = .ok (.iconst 0, 1) := by decide +kernel
theorem dL_law_315 : decode cL_law 315 = .ok (.laload, 1) := by decide +kernel
theorem dL_law_316 : decode cL_law 316 = .ok (.iload 6, 2) := by decide +kernel
theorem dL_law_318 : decode cL_law 318 = .ok (.i2l, 1) := by decide +kernel
theorem dL_law_319 : decode cL_law 319 = .ok (.lcmp, 1) := by decide +kernel
theorem dL_law_320 : decode cL_law 320 = .ok (.ifCond .eq 5, 3) := by decide +kernel
theorem dL_law_323 : decode cL_law 323 = .ok (.iconst 0, 1) := by decide +kernel
theorem dL_law_324 : decode cL_law 324 = .ok (.ireturn, 1) := by decide +kernel
theorem dL_law_325 : decode cL_law 325 = .ok (.goto 1280, 3) := by decide +kernel
theorem dL_law_328 : decode cL_law 328 = .ok (.aload_n 1, 1) := by decide +kernel
theorem dL_law_329 : decode cL_law 329 = .ok (.aload_n 0, 1) := by decide +kernel
theorem dL_law_330 : decode cL_law 330 = .ok (.iload 4, 2) := by decide +kernel
theorem dL_law_332 : decode cL_law 332 = .ok (.iconst 1, 1) := by decide +kernel
theorem dL_law_333 : decode cL_law 333 = .ok (.iadd, 1) := by decide +kernel
theorem dL_law_334 : decode cL_law 334 = .ok (.iaload, 1) := by decide +kernel
theorem dL_law_335 : decode cL_law 335 = .ok (.aload_n 3, 1) := by decide +kernel
theorem dL_law_336 : decode cL_law 336 = .ok (.invokestatic 114, 3) := by decide +kernel
theorem dL_law_339 : decode cL_law 339 = .ok (.istore 5, 2) := by decide +kernel
theorem dL_law_341 : decode cL_law 341 = .ok (.aload_n 2, 1) := by decide +kernel
theorem dL_law_342 : decode cL_law 342 = .ok (.aload_n 0, 1) := by decide +kernel
theorem dL_law_343 : decode cL_law 343 = .ok (.iload 4, 2) := by decide +kernel
theorem dL_law_345 : decode cL_law 345 = .ok (.iconst 1, 1) := by decide +kernel
theorem dL_law_346 : decode cL_law 346 = .ok (.iadd, 1) := by decide +kernel
theorem dL_law_347 : decode cL_law 347 = .ok (.iaload, 1) := by decide +kernel
theorem dL_law_348 : decode cL_law 348 = .ok (.invokevirtual 116, 3) := by decide +kernel
theorem dL_law_351 : decode cL_law 351 = .ok (.istore 6, 2) := by decide +kernel
theorem dL_law_353 : decode cL_law 353 = .ok (.aload_n 2, 1) := by decide +kernel
theorem dL_law_354 : decode cL_law 354 = .ok (.invokevirtual 103, 3) := by decide +kernel
theorem dL_law_357 : decode cL_law 357 = .ok (.iload 5, 2) := by decide +kernel
theorem dL_law_359 : decode cL_law 359 = .ok (.if_icmp .eq 5, 3) := by decide +kernel
theorem dL_law_362 : decode cL_law 362 = .ok (.iconst 0, 1) := by decide +kernel
theorem dL_law_363 : decode cL_law 363 = .ok (.ireturn, 1) := by decide +kernel
theorem dL_law_364 : decode cL_law 364 = .ok (.iload 5, 2) := by decide +kernel
theorem dL_law_366 : decode cL_law 366 = .ok (.ifCond .ne 15, 3) := by decide +kernel
theorem dL_law_369 : decode cL_law 369 = .ok (.aload_n 3, 1) := by decide +kernel
theorem dL_law_370 : decode cL_law 370 = .ok (.iconst 0, 1) := by decide +kernel
theorem dL_law_371 : decode cL_law 371 = .ok (.laload, 1) := by decide +kernel
theorem dL_law_372 : decode cL_law 372 = .ok (.iload 6, 2) := by decide +kernel
theorem dL_law_374 : decode cL_law 374 = .ok (.i2l, 1) := by decide +kernel
theorem dL_law_375 : decode cL_law 375 = .ok (.lcmp, 1) := by decide +kernel
theorem dL_law_376 : decode cL_law 376 = .ok (.ifCond .eq 5, 3) := by decide +kernel
theorem dL_law_379 : decode cL_law 379 = .ok (.iconst 0, 1) := by decide +kernel
theorem dL_law_380 : decode cL_law 380 = .ok (.ireturn, 1) := by decide +kernel
theorem dL_law_381 : decode cL_law 381 = .ok (.goto 1224, 3) := by decide +kernel
theorem dL_law_384 : decode cL_law 384 = .ok (.aload_n 1, 1) := by decide +kernel
theorem dL_law_385 : decode cL_law 385 = .ok (.aload_n 0, 1) := by decide +kernel
theorem dL_law_386 : decode cL_law 386 = .ok (.iload 4, 2) := by decide +kernel
theorem dL_law_388 : decode cL_law 388 = .ok (.iconst 1, 1) := by decide +kernel
theorem dL_law_389 : decode cL_law 389 = .ok (.iadd, 1) := by decide +kernel
theorem dL_law_390 : decode cL_law 390 = .ok (.iaload, 1) := by decide +kernel
theorem dL_law_391 : decode cL_law 391 = .ok (.aload_n 3, 1) := by decide +kernel
theorem dL_law_392 : decode cL_law 392 = .ok (.invokestatic 117, 3) := by decide +kernel
theorem dL_law_395 : decode cL_law 395 = .ok (.istore 5, 2) := by decide +kernel
theorem dL_law_397 : decode cL_law 397 = .ok (.aload_n 2, 1) := by decide +kernel
theorem dL_law_398 : decode cL_law 398 = .ok (.aload_n 0, 1) := by decide +kernel
theorem dL_law_399 : decode cL_law 399 = .ok (.iload 4, 2) := by decide +kernel
theorem dL_law_401 : decode cL_law 401 = .ok (.iconst 1, 1) := by decide +kernel
theorem dL_law_402 : decode cL_law 402 = .ok (.iadd, 1) := by decide +kernel
theorem dL_law_403 : decode cL_law 403 = .ok (.iaload, 1) := by decide +kernel
theorem dL_law_404 : decode cL_law 404 = .ok (.invokevirtual 119, 3) := by decide +kernel
theorem dL_law_407 : decode cL_law 407 = .ok (.istore 6, 2) := by decide +kernel
theorem dL_law_409 : decode cL_law 409 = .ok (.aload_n 2, 1) := by decide +kernel
theorem dL_law_410 : decode cL_law 410 = .ok (.invokevirtual 103, 3) := by decide +kernel
theorem dL_law_413 : decode cL_law 413 = .ok (.iload 5, 2) := by decide +kernel
theorem dL_law_415 : decode cL_law 415 = .ok (.if_icmp .eq 5, 3) := by decide +kernel
theorem dL_law_418 : decode cL_law 418 = .ok (.iconst 0, 1) := by decide +kernel
theorem dL_law_419 : decode cL_law 419 = .ok (.ireturn, 1) := by decide +kernel
theorem dL_law_420 : decode cL_law 420 = .ok (.iload 5, 2) := by decide +kernel
theorem dL_law_422 : decode cL_law 422 = .ok (.ifCond .ne 15, 3) := by decide +kernel
theorem dL_law_425 : decode cL_law 425 = .ok (.aload_n 3, 1) := by decide +kernel
theorem dL_law_426 : decode cL_law 426 = .ok (.iconst 0, 1) := by decide +kernel
theorem dL_law_427 : decode cL_law 427 = .ok (.laload, 1) := by decide +kernel
theorem dL_law_428 : decode cL_law 428 = .ok (.iload 6, 2) := by decide +kernel
theorem dL_law_430 : decode cL_law 430 = .ok (.i2l, 1) := by decide +kernel
theorem dL_law_431 : decode cL_law 431 = .ok (.lcmp, 1) := by decide +kernel
theorem dL_law_432 : decode cL_law 432 = .ok (.ifCond .eq 5, 3) := by decide +kernel
theorem dL_law_435 : decode cL_law 435 = .ok (.iconst 0, 1) := by decide +kernel
theorem dL_law_436 : decode cL_law 436 = .ok (.ireturn, 1) := by decide +kernel
theorem dL_law_437 : decode cL_law 437 = .ok (.goto 1168, 3) := by decide +kernel
theorem dL_law_440 : decode cL_law 440 = .ok (.aload_n 1, 1) := by decide +kernel
theorem dL_law_441 : decode cL_law 441 = .ok (.aload_n 0, 1) := by decide +kernel
theorem dL_law_442 : decode cL_law 442 = .ok (.iload 4, 2) := by decide +kernel
theorem dL_law_444 : decode cL_law 444 = .ok (.iconst 1, 1) := by decide +kernel
theorem dL_law_445 : decode cL_law 445 = .ok (.iadd, 1) := by decide +kernel
theorem dL_law_446 : decode cL_law 446 = .ok (.iaload, 1) := by decide +kernel
theorem dL_law_447 : decode cL_law 447 = .ok (.aload_n 3, 1) := by decide +kernel
theorem dL_law_448 : decode cL_law 448 = .ok (.invokestatic 120, 3) := by decide +kernel
theorem dL_law_451 : decode cL_law 451 = .ok (.istore 5, 2) := by decide +kernel
theorem dL_law_453 : decode cL_law 453 = .ok (.aload_n 2, 1) := by decide +kernel
theorem dL_law_454 : decode cL_law 454 = .ok (.aload_n 0, 1) := by decide +kernel
theorem dL_law_455 : decode cL_law 455 = .ok (.iload 4, 2) := by decide +kernel
theorem dL_law_457 : decode cL_law 457 = .ok (.iconst 1, 1) := by decide +kernel
theorem dL_law_458 : decode cL_law 458 = .ok (.iadd, 1) := by decide +kernel
theorem dL_law_459 : decode cL_law 459 = .ok (.iaload, 1) := by decide +kernel
theorem dL_law_460 : decode cL_law 460 = .ok (.invokevirtual 122, 3) := by decide +kernel
theorem dL_law_463 : decode cL_law 463 = .ok (.istore 6, 2) := by decide +kernel
theorem dL_law_465 : decode cL_law 465 = .ok (.aload_n 2, 1) := by decide +kernel
theorem dL_law_466 : decode cL_law 466 = .ok (.invokevirtual 103, 3) := by decide +kernel
theorem dL_law_469 : decode cL_law 469 = .ok (.iload 5, 2) := by decide +kernel
theorem dL_law_471 : decode cL_law 471 = .ok (.if_icmp .eq 5, 3) := by decide +kernel
theorem dL_law_474 : decode cL_law 474 = .ok (.iconst 0, 1) := by decide +kernel
theorem dL_law_475 : decode cL_law 475 = .ok (.ireturn, 1) := by decide +kernel
theorem dL_law_476 : decode cL_law 476 = .ok (.iload 5, 2) := by decide +kernel
theorem dL_law_478 : decode cL_law 478 = .ok (.ifCond .ne 15, 3) := by decide +kernel
theorem dL_law_481 : decode cL_law 481 = .ok (.aload_n 3, 1) := by decide +kernel
theorem dL_law_482 : decode cL_law 482 = .ok (.iconst 0, 1) := by decide +kernel
theorem dL_law_483 : decode cL_law 483 = .ok (.laload, 1) := by decide +kernel
theorem dL_law_484 : decode cL_law 484 = .ok (.iload 6, 2) := by decide +kernel
theorem dL_law_486 : decode cL_law 486 = .ok (.i2l, 1) := by decide +kernel
theorem dL_law_487 : decode cL_law 487 = .ok (.lcmp, 1) := by decide +kernel
theorem dL_law_488 : decode cL_law 488 = .ok (.ifCond .eq 5, 3) := by decide +kernel
theorem dL_law_491 : decode cL_law 491 = .ok (.iconst 0, 1) := by decide +kernel
theorem dL_law_492 : decode cL_law 492 = .ok (.ireturn, 1) := by decide +kernel
theorem dL_law_493 : decode cL_law 493 = .ok (.goto 1112, 3) := by decide +kernel
theorem dL_law_496 : decode cL_law 496 = .ok (.aload_n 1, 1) := by decide +kernel
theorem dL_law_497 : decode cL_law 497 = .ok (.aload_n 0, 1) := by decide +kernel
theorem dL_law_498 : decode cL_law 498 = .ok (.iload 4, 2) := by decide +kernel
theorem dL_law_500 : decode cL_law 500 = .ok (.iconst 1, 1) := by decide +kernel
theorem dL_law_501 : decode cL_law 501 = .ok (.iadd, 1) := by decide +kernel
theorem dL_law_502 : decode cL_law 502 = .ok (.iaload, 1) := by decide +kernel
theorem dL_law_503 : decode cL_law 503 = .ok (.aload_n 0, 1) := by decide +kernel
theorem dL_law_504 : decode cL_law 504 = .ok (.iload 4, 2) := by decide +kernel
theorem dL_law_506 : decode cL_law 506 = .ok (.iconst 2, 1) := by decide +kernel
theorem dL_law_507 : decode cL_law 507 = .ok (.iadd, 1) := by decide +kernel
theorem dL_law_508 : decode cL_law 508 = .ok (.iaload, 1) := by decide +kernel
theorem dL_law_509 : decode cL_law 509 = .ok (.aload_n 3, 1) := by decide +kernel
theorem dL_law_510 : decode cL_law 510 = .ok (.invokestatic 123, 3) := by decide +kernel
theorem dL_law_513 : decode cL_law 513 = .ok (.istore 5, 2) := by decide +kernel
theorem dL_law_515 : decode cL_law 515 = .ok (.aload_n 2, 1) := by decide +kernel
theorem dL_law_516 : decode cL_law 516 = .ok (.aload_n 0, 1) := by decide +kernel
theorem dL_law_517 : decode cL_law 517 = .ok (.iload 4, 2) := by decide +kernel
theorem dL_law_519 : decode cL_law 519 = .ok (.iconst 1, 1) := by decide +kernel
theorem dL_law_520 : decode cL_law 520 = .ok (.iadd, 1) := by decide +kernel
theorem dL_law_521 : decode cL_law 521 = .ok (.iaload, 1) := by decide +kernel
theorem dL_law_522 : decode cL_law 522 = .ok (.aload_n 0, 1) := by decide +kernel
theorem dL_law_523 : decode cL_law 523 = .ok (.iload 4, 2) := by decide +kernel
theorem dL_law_525 : decode cL_law 525 = .ok (.iconst 2, 1) := by decide +kernel
theorem dL_law_526 : decode cL_law 526 = .ok (.iadd, 1) := by decide +kernel
theorem dL_law_527 : decode cL_law 527 = .ok (.iaload, 1) := by decide +kernel
theorem dL_law_528 : decode cL_law 528 = .ok (.invokevirtual 125, 3) := by decide +kernel
theorem dL_law_531 : decode cL_law 531 = .ok (.istore 6, 2) := by decide +kernel
theorem dL_law_533 : decode cL_law 533 = .ok (.aload_n 2, 1) := by decide +kernel
theorem dL_law_534 : decode cL_law 534 = .ok (.invokevirtual 103, 3) := by decide +kernel
theorem dL_law_537 : decode cL_law 537 = .ok (.iload 5, 2) := by decide +kernel
theorem dL_law_539 : decode cL_law 539 = .ok (.if_icmp .eq 5, 3) := by decide +kernel
theorem dL_law_542 : decode cL_law 542 = .ok (.iconst 0, 1) := by decide +kernel
theorem dL_law_543 : decode cL_law 543 = .ok (.ireturn, 1) := by decide +kernel
theorem dL_law_544 : decode cL_law 544 = .ok (.iload 5, 2) := by decide +kernel
theorem dL_law_546 : decode cL_law 546 = .ok (.ifCond .ne 15, 3) := by decide +kernel
theorem dL_law_549 : decode cL_law 549 = .ok (.aload_n 3, 1) := by decide +kernel
theorem dL_law_550 : decode cL_law 550 = .ok (.iconst 0, 1) := by decide +kernel
theorem dL_law_551 : decode cL_law 551 = .ok (.laload, 1) := by decide +kernel
theorem dL_law_552 : decode cL_law 552 = .ok (.iload 6, 2) := by decide +kernel
theorem dL_law_554 : decode cL_law 554 = .ok (.i2l, 1) := by decide +kernel
theorem dL_law_555 : decode cL_law 555 = .ok (.lcmp, 1) := by decide +kernel
theorem dL_law_556 : decode cL_law 556 = .ok (.ifCond .eq 5, 3) := by decide +kernel
theorem dL_law_559 : decode cL_law 559 = .ok (.iconst 0, 1) := by decide +kernel
theorem dL_law_560 : decode cL_law 560 = .ok (.ireturn, 1) := by decide +kernel
theorem dL_law_561 : decode cL_law 561 = .ok (.goto 1044, 3) := by decide +kernel
theorem dL_law_564 : decode cL_law 564 = .ok (.aload_n 1, 1) := by decide +kernel
theorem dL_law_565 : decode cL_law 565 = .ok (.aload_n 0, 1) := by decide +kernel
theorem dL_law_566 : decode cL_law 566 = .ok (.iload 4, 2) := by decide +kernel
theorem dL_law_568 : decode cL_law 568 = .ok (.iconst 1, 1) := by decide +kernel
theorem dL_law_569 : decode cL_law 569 = .ok (.iadd, 1) := by decide +kernel
end
section
theorem dL_law_570 : decode cL_law 570 = .ok (.iaload, 1) := by decide +kernel
theorem dL_law_571 : decode cL_law 571 = .ok (.aload_n 0, 1) := by decide +kernel
theorem dL_law_572 : decode cL_law 572 = .ok (.iload 4, 2) := by decide +kernel
theorem dL_law_574 : decode cL_law 574 = .ok (.iconst 2, 1) := by decide +kernel
theorem dL_law_575 : decode cL_law 575 = .ok (.iadd, 1) := by decide +kernel
theorem dL_law_576 : decode cL_law 576 = .ok (.iaload, 1) := by decide +kernel
theorem dL_law_577 : decode cL_law 577 = .ok (.aload_n 0, 1) := by decide +kernel
theorem dL_law_578 : decode cL_law 578 = .ok (.iload 4, 2) := by decide +kernel
theorem dL_law_580 : decode cL_law 580 = .ok (.iconst 3, 1) := by decide +kernel
theorem dL_law_581 : decode cL_law 581 = .ok (.iadd, 1) := by decide +kernel
theorem dL_law_582 : decode cL_law 582 = .ok (.iaload, 1) := by decide +kernel
theorem dL_law_583 : decode cL_law 583 = .ok (.aload_n 3, 1) := by decide +kernel
theorem dL_law_584 : decode cL_law 584 = .ok (.invokestatic 126, 3) := by decide +kernel
theorem dL_law_587 : decode cL_law 587 = .ok (.istore 5, 2) := by decide +kernel
theorem dL_law_589 : decode cL_law 589 = .ok (.aload_n 2, 1) := by decide +kernel
theorem dL_law_590 : decode cL_law 590 = .ok (.aload_n 0, 1) := by decide +kernel
theorem dL_law_591 : decode cL_law 591 = .ok (.iload 4, 2) := by decide +kernel
theorem dL_law_593 : decode cL_law 593 = .ok (.iconst 1, 1) := by decide +kernel
theorem dL_law_594 : decode cL_law 594 = .ok (.iadd, 1) := by decide +kernel
theorem dL_law_595 : decode cL_law 595 = .ok (.iaload, 1) := by decide +kernel
theorem dL_law_596 : decode cL_law 596 = .ok (.aload_n 0, 1) := by decide +kernel
theorem dL_law_597 : decode cL_law 597 = .ok (.iload 4, 2) := by decide +kernel
theorem dL_law_599 : decode cL_law 599 = .ok (.iconst 2, 1) := by decide +kernel
theorem dL_law_600 : decode cL_law 600 = .ok (.iadd, 1) := by decide +kernel
theorem dL_law_601 : decode cL_law 601 = .ok (.iaload, 1) := by decide +kernel
theorem dL_law_602 : decode cL_law 602 = .ok (.aload_n 0, 1) := by decide +kernel
theorem dL_law_603 : decode cL_law 603 = .ok (.iload 4, 2) := by decide +kernel
theorem dL_law_605 : decode cL_law 605 = .ok (.iconst 3, 1) := by decide +kernel
theorem dL_law_606 : decode cL_law 606 = .ok (.iadd, 1) := by decide +kernel
theorem dL_law_607 : decode cL_law 607 = .ok (.iaload, 1) := by decide +kernel
theorem dL_law_608 : decode cL_law 608 = .ok (.invokevirtual 129, 3) := by decide +kernel
theorem dL_law_611 : decode cL_law 611 = .ok (.istore 6, 2) := by decide +kernel
theorem dL_law_613 : decode cL_law 613 = .ok (.aload_n 2, 1) := by decide +kernel
theorem dL_law_614 : decode cL_law 614 = .ok (.invokevirtual 103, 3) := by decide +kernel
theorem dL_law_617 : decode cL_law 617 = .ok (.iload 5, 2) := by decide +kernel
theorem dL_law_619 : decode cL_law 619 = .ok (.if_icmp .eq 5, 3) := by decide +kernel
theorem dL_law_622 : decode cL_law 622 = .ok (.iconst 0, 1) := by decide +kernel
theorem dL_law_623 : decode cL_law 623 = .ok (.ireturn, 1) := by decide +kernel
theorem dL_law_624 : decode cL_law 624 = .ok (.iload 5, 2) := by decide +kernel
theorem dL_law_626 : decode cL_law 626 = .ok (.ifCond .ne 15, 3) := by decide +kernel
theorem dL_law_629 : decode cL_law 629 = .ok (.aload_n 3, 1) := by decide +kernel
theorem dL_law_630 : decode cL_law 630 = .ok (.iconst 0, 1) := by decide +kernel
theorem dL_law_631 : decode cL_law 631 = .ok (.laload, 1) := by decide +kernel
theorem dL_law_632 : decode cL_law 632 = .ok (.iload 6, 2) := by decide +kernel
theorem dL_law_634 : decode cL_law 634 = .ok (.i2l, 1) := by decide +kernel
theorem dL_law_635 : decode cL_law 635 = .ok (.lcmp, 1) := by decide +kernel
theorem dL_law_636 : decode cL_law 636 = .ok (.ifCond .eq 5, 3) := by decide +kernel
theorem dL_law_639 : decode cL_law 639 = .ok (.iconst 0, 1) := by decide +kernel
theorem dL_law_640 : decode cL_law 640 = .ok (.ireturn, 1) := by decide +kernel
theorem dL_law_641 : decode cL_law 641 = .ok (.goto 964, 3) := by decide +kernel
theorem dL_law_644 : decode cL_law 644 = .ok (.aload_n 1, 1) := by decide +kernel
theorem dL_law_645 : decode cL_law 645 = .ok (.aload_n 0, 1) := by decide +kernel
theorem dL_law_646 : decode cL_law 646 = .ok (.iload 4, 2) := by decide +kernel
theorem dL_law_648 : decode cL_law 648 = .ok (.iconst 1, 1) := by decide +kernel
theorem dL_law_649 : decode cL_law 649 = .ok (.iadd, 1) := by decide +kernel
theorem dL_law_650 : decode cL_law 650 = .ok (.iaload, 1) := by decide +kernel
theorem dL_law_651 : decode cL_law 651 = .ok (.aload_n 3, 1) := by decide +kernel
theorem dL_law_652 : decode cL_law 652 = .ok (.invokestatic 130, 3) := by decide +kernel
theorem dL_law_655 : decode cL_law 655 = .ok (.istore 5, 2) := by decide +kernel
theorem dL_law_657 : decode cL_law 657 = .ok (.aload_n 2, 1) := by decide +kernel
theorem dL_law_658 : decode cL_law 658 = .ok (.aload_n 0, 1) := by decide +kernel
theorem dL_law_659 : decode cL_law 659 = .ok (.iload 4, 2) := by decide +kernel
theorem dL_law_661 : decode cL_law 661 = .ok (.iconst 1, 1) := by decide +kernel
theorem dL_law_662 : decode cL_law 662 = .ok (.iadd, 1) := by decide +kernel
theorem dL_law_663 : decode cL_law 663 = .ok (.iaload, 1) := by decide +kernel
theorem dL_law_664 : decode cL_law 664 = .ok (.invokevirtual 132, 3) := by decide +kernel
theorem dL_law_667 : decode cL_law 667 = .ok (.istore 6, 2) := by decide +kernel
theorem dL_law_669 : decode cL_law 669 = .ok (.aload_n 2, 1) := by decide +kernel
theorem dL_law_670 : decode cL_law 670 = .ok (.invokevirtual 103, 3) := by decide +kernel
theorem dL_law_673 : decode cL_law 673 = .ok (.iload 5, 2) := by decide +kernel
theorem dL_law_675 : decode cL_law 675 = .ok (.if_icmp .eq 5, 3) := by decide +kernel
theorem dL_law_678 : decode cL_law 678 = .ok (.iconst 0, 1) := by decide +kernel
theorem dL_law_679 : decode cL_law 679 = .ok (.ireturn, 1) := by decide +kernel
theorem dL_law_680 : decode cL_law 680 = .ok (.iload 5, 2) := by decide +kernel
theorem dL_law_682 : decode cL_law 682 = .ok (.ifCond .ne 15, 3) := by decide +kernel
theorem dL_law_685 : decode cL_law 685 = .ok (.aload_n 3, 1) := by decide +kernel
theorem dL_law_686 : decode cL_law 686 = .ok (.iconst 0, 1) := by decide +kernel
theorem dL_law_687 : decode cL_law 687 = .ok (.laload, 1) := by decide +kernel
theorem dL_law_688 : decode cL_law 688 = .ok (.iload 6, 2) := by decide +kernel
theorem dL_law_690 : decode cL_law 690 = .ok (.i2l, 1) := by decide +kernel
theorem dL_law_691 : decode cL_law 691 = .ok (.lcmp, 1) := by decide +kernel
theorem dL_law_692 : decode cL_law 692 = .ok (.ifCond .eq 5, 3) := by decide +kernel
theorem dL_law_695 : decode cL_law 695 = .ok (.iconst 0, 1) := by decide +kernel
theorem dL_law_696 : decode cL_law 696 = .ok (.ireturn, 1) := by decide +kernel
theorem dL_law_697 : decode cL_law 697 = .ok (.goto 908, 3) := by decide +kernel
theorem dL_law_700 : decode cL_law 700 = .ok (.aload_n 1, 1) := by decide +kernel
theorem dL_law_701 : decode cL_law 701 = .ok (.aload_n 0, 1) := by decide +kernel
theorem dL_law_702 : decode cL_law 702 = .ok (.iload 4, 2) := by decide +kernel
theorem dL_law_704 : decode cL_law 704 = .ok (.iconst 1, 1) := by decide +kernel
theorem dL_law_705 : decode cL_law 705 = .ok (.iadd, 1) := by decide +kernel
theorem dL_law_706 : decode cL_law 706 = .ok (.iaload, 1) := by decide +kernel
theorem dL_law_707 : decode cL_law 707 = .ok (.aload_n 0, 1) := by decide +kernel
theorem dL_law_708 : decode cL_law 708 = .ok (.iload 4, 2) := by decide +kernel
theorem dL_law_710 : decode cL_law 710 = .ok (.iconst 2, 1) := by decide +kernel
theorem dL_law_711 : decode cL_law 711 = .ok (.iadd, 1) := by decide +kernel
theorem dL_law_712 : decode cL_law 712 = .ok (.iaload, 1) := by decide +kernel
theorem dL_law_713 : decode cL_law 713 = .ok (.aload_n 3, 1) := by decide +kernel
theorem dL_law_714 : decode cL_law 714 = .ok (.invokestatic 133, 3) := by decide +kernel
theorem dL_law_717 : decode cL_law 717 = .ok (.istore 5, 2) := by decide +kernel
theorem dL_law_719 : decode cL_law 719 = .ok (.aload_n 2, 1) := by decide +kernel
theorem dL_law_720 : decode cL_law 720 = .ok (.aload_n 0, 1) := by decide +kernel
theorem dL_law_721 : decode cL_law 721 = .ok (.iload 4, 2) := by decide +kernel
theorem dL_law_723 : decode cL_law 723 = .ok (.iconst 1, 1) := by decide +kernel
theorem dL_law_724 : decode cL_law 724 = .ok (.iadd, 1) := by decide +kernel
theorem dL_law_725 : decode cL_law 725 = .ok (.iaload, 1) := by decide +kernel
theorem dL_law_726 : decode cL_law 726 = .ok (.aload_n 0, 1) := by decide +kernel
theorem dL_law_727 : decode cL_law 727 = .ok (.iload 4, 2) := by decide +kernel
theorem dL_law_729 : decode cL_law 729 = .ok (.iconst 2, 1) := by decide +kernel
theorem dL_law_730 : decode cL_law 730 = .ok (.iadd, 1) := by decide +kernel
theorem dL_law_731 : decode cL_law 731 = .ok (.iaload, 1) := by decide +kernel
theorem dL_law_732 : decode cL_law 732 = .ok (.invokevirtual 135, 3) := by decide +kernel
theorem dL_law_735 : decode cL_law 735 = .ok (.istore 6, 2) := by decide +kernel
theorem dL_law_737 : decode cL_law 737 = .ok (.aload_n 2, 1) := by decide +kernel
theorem dL_law_738 : decode cL_law 738 = .ok (.invokevirtual 103, 3) := by decide +kernel
theorem dL_law_741 : decode cL_law 741 = .ok (.iload 5, 2) := by decide +kernel
theorem dL_law_743 : decode cL_law 743 = .ok (.if_icmp .eq 5, 3) := by decide +kernel
theorem dL_law_746 : decode cL_law 746 = .ok (.iconst 0, 1) := by decide +kernel
theorem dL_law_747 : decode cL_law 747 = .ok (.ireturn, 1) := by decide +kernel
theorem dL_law_748 : decode cL_law 748 = .ok (.iload 5, 2) := by decide +kernel
theorem dL_law_750 : decode cL_law 750 = .ok (.ifCond .ne 15, 3) := by decide +kernel
theorem dL_law_753 : decode cL_law 753 = .ok (.aload_n 3, 1) := by decide +kernel
theorem dL_law_754 : decode cL_law 754 = .ok (.iconst 0, 1) := by decide +kernel
theorem dL_law_755 : decode cL_law 755 = .ok (.laload, 1) := by decide +kernel
theorem dL_law_756 : decode cL_law 756 = .ok (.iload 6, 2) := by decide +kernel
theorem dL_law_758 : decode cL_law 758 = .ok (.i2l, 1) := by decide +kernel
theorem dL_law_759 : decode cL_law 759 = .ok (.lcmp, 1) := by decide +kernel
theorem dL_law_760 : decode cL_law 760 = .ok (.ifCond .eq 5, 3) := by decide +kernel
theorem dL_law_763 : decode cL_law 763 = .ok (.iconst 0, 1) := by decide +kernel
theorem dL_law_764 : decode cL_law 764 = .ok (.ireturn, 1) := by decide +kernel
theorem dL_law_765 : decode cL_law 765 = .ok (.goto 840, 3) := by decide +kernel
theorem dL_law_768 : decode cL_law 768 = .ok (.aload_n 1, 1) := by decide +kernel
theorem dL_law_769 : decode cL_law 769 = .ok (.aload_n 0, 1) := by decide +kernel
theorem dL_law_770 : decode cL_law 770 = .ok (.iload 4, 2) := by decide +kernel
theorem dL_law_772 : decode cL_law 772 = .ok (.iconst 1, 1) := by decide +kernel
theorem dL_law_773 : decode cL_law 773 = .ok (.iadd, 1) := by decide +kernel
theorem dL_law_774 : decode cL_law 774 = .ok (.iaload, 1) := by decide +kernel
theorem dL_law_775 : decode cL_law 775 = .ok (.aload_n 3, 1) := by decide +kernel
theorem dL_law_776 : decode cL_law 776 = .ok (.invokestatic 136, 3) := by decide +kernel
theorem dL_law_779 : decode cL_law 779 = .ok (.istore 5, 2) := by decide +kernel
theorem dL_law_781 : decode cL_law 781 = .ok (.aload_n 2, 1) := by decide +kernel
theorem dL_law_782 : decode cL_law 782 = .ok (.aload_n 0, 1) := by decide +kernel
theorem dL_law_783 : decode cL_law 783 = .ok (.iload 4, 2) := by decide +kernel
theorem dL_law_785 : decode cL_law 785 = .ok (.iconst 1, 1) := by decide +kernel
theorem dL_law_786 : decode cL_law 786 = .ok (.iadd, 1) := by decide +kernel
theorem dL_law_787 : decode cL_law 787 = .ok (.iaload, 1) := by decide +kernel
theorem dL_law_788 : decode cL_law 788 = .ok (.invokevirtual 138, 3) := by decide +kernel
theorem dL_law_791 : decode cL_law 791 = .ok (.istore 6, 2) := by decide +kernel
theorem dL_law_793 : decode cL_law 793 = .ok (.aload_n 2, 1) := by decide +kernel
theorem dL_law_794 : decode cL_law 794 = .ok (.invokevirtual 103, 3) := by decide +kernel
theorem dL_law_797 : decode cL_law 797 = .ok (.iload 5, 2) := by decide +kernel
theorem dL_law_799 : decode cL_law 799 = .ok (.if_icmp .eq 5, 3) := by decide +kernel
theorem dL_law_802 : decode cL_law 802 = .ok (.iconst 0, 1) := by decide +kernel
theorem dL_law_803 : decode cL_law 803 = .ok (.ireturn, 1) := by decide +kernel
theorem dL_law_804 : decode cL_law 804 = .ok (.iload 5, 2) := by decide +kernel
theorem dL_law_806 : decode cL_law 806 = .ok (.ifCond .ne 15, 3) := by decide +kernel
theorem dL_law_809 : decode cL_law 809 = .ok (.aload_n 3, 1) := by decide +kernel
theorem dL_law_810 : decode cL_law 810 = .ok (.iconst 0, 1) := by decide +kernel
theorem dL_law_811 : decode cL_law 811 = .ok (.laload, 1) := by decide +kernel
theorem dL_law_812 : decode cL_law 812 = .ok (.iload 6, 2) := by decide +kernel
theorem dL_law_814 : decode cL_law 814 = .ok (.i2l, 1) := by decide +kernel
theorem dL_law_815 : decode cL_law 815 = .ok (.lcmp, 1) := by decide +kernel
theorem dL_law_816 : decode cL_law 816 = .ok (.ifCond .eq 5, 3) := by decide +kernel
theorem dL_law_819 : decode cL_law 819 = .ok (.iconst 0, 1) := by decide +kernel
theorem dL_law_820 : decode cL_law 820 = .ok (.ireturn, 1) := by decide +kernel
theorem dL_law_821 : decode cL_law 821 = .ok (.goto 784, 3) := by decide +kernel
theorem dL_law_824 : decode cL_law 824 = .ok (.aload_n 1, 1) := by decide +kernel
theorem dL_law_825 : decode cL_law 825 = .ok (.aload_n 0, 1) := by decide +kernel
theorem dL_law_826 : decode cL_law 826 = .ok (.iload 4, 2) := by decide +kernel
theorem dL_law_828 : decode cL_law 828 = .ok (.iconst 1, 1) := by decide +kernel
theorem dL_law_829 : decode cL_law 829 = .ok (.iadd, 1) := by decide +kernel
theorem dL_law_830 : decode cL_law 830 = .ok (.iaload, 1) := by decide +kernel
theorem dL_law_831 : decode cL_law 831 = .ok (.aload_n 3, 1) := by decide +kernel
theorem dL_law_832 : decode cL_law 832 = .ok (.invokestatic 139, 3) := by decide +kernel
theorem dL_law_835 : decode cL_law 835 = .ok (.istore 5, 2) := by decide +kernel
theorem dL_law_837 : decode cL_law 837 = .ok (.aload_n 2, 1) := by decide +kernel
theorem dL_law_838 : decode cL_law 838 = .ok (.aload_n 0, 1) := by decide +kernel
theorem dL_law_839 : decode cL_law 839 = .ok (.iload 4, 2) := by decide +kernel
theorem dL_law_841 : decode cL_law 841 = .ok (.iconst 1, 1) := by decide +kernel
theorem dL_law_842 : decode cL_law 842 = .ok (.iadd, 1) := by decide +kernel
theorem dL_law_843 : decode cL_law 843 = .ok (.iaload, 1) := by decide +kernel
theorem dL_law_844 : decode cL_law 844 = .ok (.invokevirtual 141, 3) := by decide +kernel
theorem dL_law_847 : decode cL_law 847 = .ok (.istore 6, 2) := by decide +kernel
theorem dL_law_849 : decode cL_law 849 = .ok (.aload_n 2, 1) := by decide +kernel
theorem dL_law_850 : decode cL_law 850 = .ok (.invokevirtual 103, 3) := by decide +kernel
theorem dL_law_853 : decode cL_law 853 = .ok (.iload 5, 2) := by decide +kernel
theorem dL_law_855 : decode cL_law 855 = .ok (.if_icmp .eq 5, 3) := by decide +kernel
theorem dL_law_858 : decode cL_law 858 = .ok (.iconst 0, 1) := by decide +kernel
theorem dL_law_859 : decode cL_law 859 = .ok (.ireturn, 1) := by decide +kernel
theorem dL_law_860 : decode cL_law 860 = .ok (.iload 5, 2) := by decide +kernel
theorem dL_law_862 : decode cL_law 862 = .ok (.ifCond .ne 15, 3) := by decide +kernel
theorem dL_law_865 : decode cL_law 865 = .ok (.aload_n 3, 1) := by decide +kernel
theorem dL_law_866 : decode cL_law 866 = .ok (.iconst 0, 1) := by decide +kernel
theorem dL_law_867 : decode cL_law 867 = .ok (.laload, 1) := by decide +kernel
theorem dL_law_868 : decode cL_law 868 = .ok (.iload 6, 2) := by decide +kernel
theorem dL_law_870 : decode cL_law 870 = .ok (.i2l, 1) := by decide +kernel
theorem dL_law_871 : decode cL_law 871 = .ok (.lcmp, 1) := by decide +kernel
theorem dL_law_872 : decode cL_law 872 = .ok (.ifCond .eq 5, 3) := by decide +kernel
theorem dL_law_875 : decode cL_law 875 = .ok (.iconst 0, 1) := by decide +kernel
theorem dL_law_876 : decode cL_law 876 = .ok (.ireturn, 1) := by decide +kernel
theorem dL_law_877 : decode cL_law 877 = .ok (.goto 728, 3) := by decide +kernel
theorem dL_law_880 : decode cL_law 880 = .ok (.aload_n 1, 1) := by decide +kernel
theorem dL_law_881 : decode cL_law 881 = .ok (.aload_n 0, 1) := by decide +kernel
theorem dL_law_882 : decode cL_law 882 = .ok (.iload 4, 2) := by decide +kernel
theorem dL_law_884 : decode cL_law 884 = .ok (.iconst 1, 1) := by decide +kernel
theorem dL_law_885 : decode cL_law 885 = .ok (.iadd, 1) := by decide +kernel
theorem dL_law_886 : decode cL_law 886 = .ok (.iaload, 1) := by decide +kernel
theorem dL_law_887 : decode cL_law 887 = .ok (.aload_n 0, 1) := by decide +kernel
theorem dL_law_888 : decode cL_law 888 = .ok (.iload 4, 2) := by decide +kernel
theorem dL_law_890 : decode cL_law 890 = .ok (.iconst 2, 1) := by decide +kernel
theorem dL_law_891 : decode cL_law 891 = .ok (.iadd, 1) := by decide +kernel
theorem dL_law_892 : decode cL_law 892 = .ok (.iaload, 1) := by decide +kernel
theorem dL_law_893 : decode cL_law 893 = .ok (.invokestatic 142, 3) := by decide +kernel
theorem dL_law_896 : decode cL_law 896 = .ok (.istore 5, 2) := by decide +kernel
theorem dL_law_898 : decode cL_law 898 = .ok (.aload_n 2, 1) := by decide +kernel
theorem dL_law_899 : decode cL_law 899 = .ok (.aload_n 0, 1) := by decide +kernel
theorem dL_law_900 : decode cL_law 900 = .ok (.iload 4, 2) := by decide +kernel
theorem dL_law_902 : decode cL_law 902 = .ok (.iconst 1, 1) := by decide +kernel
theorem dL_law_903 : decode cL_law 903 = .ok (.iadd, 1) := by decide +kernel
theorem dL_law_904 : decode cL_law 904 = .ok (.iaload, 1) := by decide +kernel
theorem dL_law_905 : decode cL_law 905 = .ok (.aload_n 0, 1) := by decide +kernel
theorem dL_law_906 : decode cL_law 906 = .ok (.iload 4, 2) := by decide +kernel
theorem dL_law_908 : decode cL_law 908 = .ok (.iconst 2, 1) := by decide +kernel
theorem dL_law_909 : decode cL_law 909 = .ok (.iadd, 1) := by decide +kernel
theorem dL_law_910 : decode cL_law 910 = .ok (.iaload, 1) := by decide +kernel
theorem dL_law_911 : decode cL_law 911 = .ok (.invokevirtual 145, 3) := by decide +kernel
theorem dL_law_914 : decode cL_law 914 = .ok (.aload_n 2, 1) := by decide +kernel
theorem dL_law_915 : decode cL_law 915 = .ok (.invokevirtual 103, 3) := by decide +kernel
theorem dL_law_918 : decode cL_law 918 = .ok (.iload 5, 2) := by decide +kernel
theorem dL_law_920 : decode cL_law 920 = .ok (.if_icmp .eq 5, 3) := by decide +kernel
theorem dL_law_923 : decode cL_law 923 = .ok (.iconst 0, 1) := by decide +kernel
theorem dL_law_924 : decode cL_law 924 = .ok (.ireturn, 1) := by decide +kernel
theorem dL_law_925 : decode cL_law 925 = .ok (.goto 680, 3) := by decide +kernel
theorem dL_law_928 : decode cL_law 928 = .ok (.aload_n 1, 1) := by decide +kernel
theorem dL_law_929 : decode cL_law 929 = .ok (.aload_n 0, 1) := by decide +kernel
theorem dL_law_930 : decode cL_law 930 = .ok (.iload 4, 2) := by decide +kernel
theorem dL_law_932 : decode cL_law 932 = .ok (.iconst 1, 1) := by decide +kernel
theorem dL_law_933 : decode cL_law 933 = .ok (.iadd, 1) := by decide +kernel
theorem dL_law_934 : decode cL_law 934 = .ok (.iaload, 1) := by decide +kernel
theorem dL_law_935 : decode cL_law 935 = .ok (.aload_n 3, 1) := by decide +kernel
theorem dL_law_936 : decode cL_law 936 = .ok (.invokestatic 146, 3) := by decide +kernel
theorem dL_law_939 : decode cL_law 939 = .ok (.istore 5, 2) := by decide +kernel
theorem dL_law_941 : decode cL_law 941 = .ok (.aload_n 2, 1) := by decide +kernel
theorem dL_law_942 : decode cL_law 942 = .ok (.aload_n 0, 1) := by decide +kernel
theorem dL_law_943 : decode cL_law 943 = .ok (.iload 4, 2) := by decide +kernel
theorem dL_law_945 : decode cL_law 945 = .ok (.iconst 1, 1) := by decide +kernel
theorem dL_law_946 : decode cL_law 946 = .ok (.iadd, 1) := by decide +kernel
theorem dL_law_947 : decode cL_law 947 = .ok (.iaload, 1) := by decide +kernel
theorem dL_law_948 : decode cL_law 948 = .ok (.invokevirtual 148, 3) := by decide +kernel
theorem dL_law_951 : decode cL_law 951 = .ok (.istore 6, 2) := by decide +kernel
theorem dL_law_953 : decode cL_law 953 = .ok (.aload_n 2, 1) := by decide +kernel
theorem dL_law_954 : decode cL_law 954 = .ok (.invokevirtual 103, 3) := by decide +kernel
theorem dL_law_957 : decode cL_law 957 = .ok (.iload 5, 2) := by decide +kernel
theorem dL_law_959 : decode cL_law 959 = .ok (.if_icmp .eq 5, 3) := by decide +kernel
theorem dL_law_962 : decode cL_law 962 = .ok (.iconst 0, 1) := by decide +kernel
theorem dL_law_963 : decode cL_law 963 = .ok (.ireturn, 1) := by decide +kernel
theorem dL_law_964 : decode cL_law 964 = .ok (.iload 5, 2) := by decide +kernel
theorem dL_law_966 : decode cL_law 966 = .ok (.ifCond .ne 15, 3) := by decide +kernel
theorem dL_law_969 : decode cL_law 969 = .ok (.aload_n 3, 1) := by decide +kernel
theorem dL_law_970 : decode cL_law 970 = .ok (.iconst 0, 1) := by decide +kernel
theorem dL_law_971 : decode cL_law 971 = .ok (.laload, 1) := by decide +kernel
theorem dL_law_972 : decode cL_law 972 = .ok (.iload 6, 2) := by decide +kernel
theorem dL_law_974 : decode cL_law 974 = .ok (.i2l, 1) := by decide +kernel
theorem dL_law_975 : decode cL_law 975 = .ok (.lcmp, 1) := by decide +kernel
theorem dL_law_976 : decode cL_law 976 = .ok (.ifCond .eq 5, 3) := by decide +kernel
theorem dL_law_979 : decode cL_law 979 = .ok (.iconst 0, 1) := by decide +kernel
theorem dL_law_980 : decode cL_law 980 = .ok (.ireturn, 1) := by decide +kernel
theorem dL_law_981 : decode cL_law 981 = .ok (.goto 624, 3) := by decide +kernel
theorem dL_law_984 : decode cL_law 984 = .ok (.aload_n 1, 1) := by decide +kernel
theorem dL_law_985 : decode cL_law 985 = .ok (.aload_n 0, 1) := by decide +kernel
theorem dL_law_986 : decode cL_law 986 = .ok (.iload 4, 2) := by decide +kernel
theorem dL_law_988 : decode cL_law 988 = .ok (.iconst 1, 1) := by decide +kernel
theorem dL_law_989 : decode cL_law 989 = .ok (.iadd, 1) := by decide +kernel
theorem dL_law_990 : decode cL_law 990 = .ok (.iaload, 1) := by decide +kernel
theorem dL_law_991 : decode cL_law 991 = .ok (.invokestatic 149, 3) := by decide +kernel
theorem dL_law_994 : decode cL_law 994 = .ok (.istore 5, 2) := by decide +kernel
theorem dL_law_996 : decode cL_law 996 = .ok (.aload_n 2, 1) := by decide +kernel
theorem dL_law_997 : decode cL_law 997 = .ok (.aload_n 0, 1) := by decide +kernel
theorem dL_law_998 : decode cL_law 998 = .ok (.iload 4, 2) := by decide +kernel
theorem dL_law_1000 : decode cL_law 1000 = .ok (.iconst 1, 1) := by decide +kernel
theorem dL_law_1001 : decode cL_law 1001 = .ok (.iadd, 1) := by decide +kernel
theorem dL_law_1002 : decode cL_law 1002 = .ok (.iaload, 1) := by decide +kernel
theorem dL_law_1003 : decode cL_law 1003 = .ok (.invokevirtual 152, 3) := by decide +kernel
theorem dL_law_1006 : decode cL_law 1006 = .ok (.aload_n 2, 1) := by decide +kernel
theorem dL_law_1007 : decode cL_law 1007 = .ok (.invokevirtual 103, 3) := by decide +kernel
theorem dL_law_1010 : decode cL_law 1010 = .ok (.iload 5, 2) := by decide +kernel
theorem dL_law_1012 : decode cL_law 1012 = .ok (.if_icmp .eq 5, 3) := by decide +kernel
theorem dL_law_1015 : decode cL_law 1015 = .ok (.iconst 0, 1) := by decide +kernel
theorem dL_law_1016 : decode cL_law 1016 = .ok (.ireturn, 1) := by decide +kernel
theorem dL_law_1017 : decode cL_law 1017 = .ok (.goto 588, 3) := by decide +kernel
theorem dL_law_1020 : decode cL_law 1020 = .ok (.aload_n 1, 1) := by decide +kernel
theorem dL_law_1021 : decode cL_law 1021 = .ok (.aload_n 0, 1) := by decide +kernel
theorem dL_law_1022 : decode cL_law 1022 = .ok (.iload 4, 2) := by decide +kernel
theorem dL_law_1024 : decode cL_law 1024 = .ok (.iconst 1, 1) := by decide +kernel
theorem dL_law_1025 : decode cL_law 1025 = .ok (.iadd, 1) := by decide +kernel
theorem dL_law_1026 : decode cL_law 1026 = .ok (.iaload, 1) := by decide +kernel
theorem dL_law_1027 : decode cL_law 1027 = .ok (.aload_n 0, 1) := by decide +kernel
theorem dL_law_1028 : decode cL_law 1028 = .ok (.iload 4, 2) := by decide +kernel
theorem dL_law_1030 : decode cL_law 1030 = .ok (.iconst 2, 1) := by decide +kernel
theorem dL_law_1031 : decode cL_law 1031 = .ok (.iadd, 1) := by decide +kernel
theorem dL_law_1032 : decode cL_law 1032 = .ok (.iaload, 1) := by decide +kernel
theorem dL_law_1033 : decode cL_law 1033 = .ok (.aload_n 0, 1) := by decide +kernel
theorem dL_law_1034 : decode cL_law 1034 = .ok (.iload 4, 2) := by decide +kernel
theorem dL_law_1036 : decode cL_law 1036 = .ok (.iconst 3, 1) := by decide +kernel
theorem dL_law_1037 : decode cL_law 1037 = .ok (.iadd, 1) := by decide +kernel
theorem dL_law_1038 : decode cL_law 1038 = .ok (.iaload, 1) := by decide +kernel
theorem dL_law_1039 : decode cL_law 1039 = .ok (.aload_n 3, 1) := by decide +kernel
theorem dL_law_1040 : decode cL_law 1040 = .ok (.invokestatic 153, 3) := by decide +kernel
theorem dL_law_1043 : decode cL_law 1043 = .ok (.istore 5, 2) := by decide +kernel
theorem dL_law_1045 : decode cL_law 1045 = .ok (.aload_n 2, 1) := by decide +kernel
theorem dL_law_1046 : decode cL_law 1046 = .ok (.aload_n 0, 1) := by decide +kernel
theorem dL_law_1047 : decode cL_law 1047 = .ok (.iload 4, 2) := by decide +kernel
theorem dL_law_1049 : decode cL_law 1049 = .ok (.iconst 1, 1) := by decide +kernel
theorem dL_law_1050 : decode cL_law 1050 = .ok (.iadd, 1) := by decide +kernel
theorem dL_law_1051 : decode cL_law 1051 = .ok (.iaload, 1) := by decide +kernel
theorem dL_law_1052 : decode cL_law 1052 = .ok (.aload_n 0, 1) := by decide +kernel
theorem dL_law_1053 : decode cL_law 1053 = .ok (.iload 4, 2) := by decide +kernel
theorem dL_law_1055 : decode cL_law 1055 = .ok (.iconst 2, 1) := by decide +kernel
theorem dL_law_1056 : decode cL_law 1056 = .ok (.iadd, 1) := by decide +kernel
theorem dL_law_1057 : decode cL_law 1057 = .ok (.iaload, 1) := by decide +kernel
theorem dL_law_1058 : decode cL_law 1058 = .ok (.aload_n 0, 1) := by decide +kernel
theorem dL_law_1059 : decode cL_law 1059 = .ok (.iload 4, 2) := by decide +kernel
theorem dL_law_1061 : decode cL_law 1061 = .ok (.iconst 3, 1) := by decide +kernel
theorem dL_law_1062 : decode cL_law 1062 = .ok (.iadd, 1) := by decide +kernel
theorem dL_law_1063 : decode cL_law 1063 = .ok (.iaload, 1) := by decide +kernel
theorem dL_law_1064 : decode cL_law 1064 = .ok (.invokevirtual 155, 3) := by decide +kernel
theorem dL_law_1067 : decode cL_law 1067 = .ok (.istore 6, 2) := by decide +kernel
theorem dL_law_1069 : decode cL_law 1069 = .ok (.aload_n 2, 1) := by decide +kernel
theorem dL_law_1070 : decode cL_law 1070 = .ok (.invokevirtual 103, 3) := by decide +kernel
theorem dL_law_1073 : decode cL_law 1073 = .ok (.iload 5, 2) := by decide +kernel
theorem dL_law_1075 : decode cL_law 1075 = .ok (.if_icmp .eq 5, 3) := by decide +kernel
theorem dL_law_1078 : decode cL_law 1078 = .ok (.iconst 0, 1) := by decide +kernel
theorem dL_law_1079 : decode cL_law 1079 = .ok (.ireturn, 1) := by decide +kernel
theorem dL_law_1080 : decode cL_law 1080 = .ok (.iload 5, 2) := by decide +kernel
theorem dL_law_1082 : decode cL_law 1082 = .ok (.ifCond .ne 15, 3) := by decide +kernel
theorem dL_law_1085 : decode cL_law 1085 = .ok (.aload_n 3, 1) := by decide +kernel
theorem dL_law_1086 : decode cL_law 1086 = .ok (.iconst 0, 1) := by decide +kernel
theorem dL_law_1087 : decode cL_law 1087 = .ok (.laload, 1) := by decide +kernel
theorem dL_law_1088 : decode cL_law 1088 = .ok (.iload 6, 2) := by decide +kernel
theorem dL_law_1090 : decode cL_law 1090 = .ok (.i2l, 1) := by decide +kernel
theorem dL_law_1091 : decode cL_law 1091 = .ok (.lcmp, 1) := by decide +kernel
theorem dL_law_1092 : decode cL_law 1092 = .ok (.ifCond .eq 5, 3) := by decide +kernel
theorem dL_law_1095 : decode cL_law 1095 = .ok (.iconst 0, 1) := by decide +kernel
theorem dL_law_1096 : decode cL_law 1096 = .ok (.ireturn, 1) := by decide +kernel
theorem dL_law_1097 : decode cL_law 1097 = .ok (.goto 508, 3) := by decide +kernel
theorem dL_law_1100 : decode cL_law 1100 = .ok (.aload_n 1, 1) := by decide +kernel
theorem dL_law_1101 : decode cL_law 1101 = .ok (.aload_n 0, 1) := by decide +kernel
theorem dL_law_1102 : decode cL_law 1102 = .ok (.iload 4, 2) := by decide +kernel
theorem dL_law_1104 : decode cL_law 1104 = .ok (.iconst 1, 1) := by decide +kernel
theorem dL_law_1105 : decode cL_law 1105 = .ok (.iadd, 1) := by decide +kernel
theorem dL_law_1106 : decode cL_law 1106 = .ok (.iaload, 1) := by decide +kernel
theorem dL_law_1107 : decode cL_law 1107 = .ok (.aload_n 0, 1) := by decide +kernel
theorem dL_law_1108 : decode cL_law 1108 = .ok (.iload 4, 2) := by decide +kernel
theorem dL_law_1110 : decode cL_law 1110 = .ok (.iconst 2, 1) := by decide +kernel
theorem dL_law_1111 : decode cL_law 1111 = .ok (.iadd, 1) := by decide +kernel
theorem dL_law_1112 : decode cL_law 1112 = .ok (.iaload, 1) := by decide +kernel
theorem dL_law_1113 : decode cL_law 1113 = .ok (.aload_n 3, 1) := by decide +kernel
theorem dL_law_1114 : decode cL_law 1114 = .ok (.invokestatic 156, 3) := by decide +kernel
theorem dL_law_1117 : decode cL_law 1117 = .ok (.istore 5, 2) := by decide +kernel
theorem dL_law_1119 : decode cL_law 1119 = .ok (.aload_n 2, 1) := by decide +kernel
theorem dL_law_1120 : decode cL_law 1120 = .ok (.aload_n 0, 1) := by decide +kernel
theorem dL_law_1121 : decode cL_law 1121 = .ok (.iload 4, 2) := by decide +kernel
theorem dL_law_1123 : decode cL_law 1123 = .ok (.iconst 1, 1) := by decide +kernel
theorem dL_law_1124 : decode cL_law 1124 = .ok (.iadd, 1) := by decide +kernel
theorem dL_law_1125 : decode cL_law 1125 = .ok (.iaload, 1) := by decide +kernel
theorem dL_law_1126 : decode cL_law 1126 = .ok (.aload_n 0, 1) := by decide +kernel
theorem dL_law_1127 : decode cL_law 1127 = .ok (.iload 4, 2) := by decide +kernel
theorem dL_law_1129 : decode cL_law 1129 = .ok (.iconst 2, 1) := by decide +kernel
theorem dL_law_1130 : decode cL_law 1130 = .ok (.iadd, 1) := by decide +kernel
theorem dL_law_1131 : decode cL_law 1131 = .ok (.iaload, 1) := by decide +kernel
theorem dL_law_1132 : decode cL_law 1132 = .ok (.invokevirtual 158, 3) := by decide +kernel
theorem dL_law_1135 : decode cL_law 1135 = .ok (.istore 6, 2) := by decide +kernel
theorem dL_law_1137 : decode cL_law 1137 = .ok (.aload_n 2, 1) := by decide +kernel
theorem dL_law_1138 : decode cL_law 1138 = .ok (.invokevirtual 103, 3) := by decide +kernel
theorem dL_law_1141 : decode cL_law 1141 = .ok (.iload 5, 2) := by decide +kernel
theorem dL_law_1143 : decode cL_law 1143 = .ok (.if_icmp .eq 5, 3) := by decide +kernel
theorem dL_law_1146 : decode cL_law 1146 = .ok (.iconst 0, 1) := by decide +kernel
theorem dL_law_1147 : decode cL_law 1147 = .ok (.ireturn, 1) := by decide +kernel
theorem dL_law_1148 : decode cL_law 1148 = .ok (.iload 5, 2) := by decide +kernel
theorem dL_law_1150 : decode cL_law 1150 = .ok (.ifCond .ne 15, 3) := by decide +kernel
theorem dL_law_1153 : decode cL_law 1153 = .ok (.aload_n 3, 1) := by decide +kernel
theorem dL_law_1154 : decode cL_law 1154 = .ok (.iconst 0, 1) := by decide +kernel
theorem dL_law_1155 : decode cL_law 1155 = .ok (.laload, 1) := by decide +kernel
theorem dL_law_1156 : decode cL_law 1156 = .ok (.iload 6, 2) := by decide +kernel
theorem dL_law_1158 : decode cL_law 1158 = .ok (.i2l, 1) := by decide +kernel
theorem dL_law_1159 : decode cL_law 1159 = .ok (.lcmp, 1) := by decide +kernel
theorem dL_law_1160 : decode cL_law 1160 = .ok (.ifCond .eq 5, 3) := by decide +kernel
theorem dL_law_1163 : decode cL_law 1163 = .ok (.iconst 0, 1) := by decide +kernel
theorem dL_law_1164 : decode cL_law 1164 = .ok (.ireturn, 1) := by decide +kernel
theorem dL_law_1165 : decode cL_law 1165 = .ok (.goto 440, 3) := by decide +kernel
theorem dL_law_1168 : decode cL_law 1168 = .ok (.aload_n 1, 1) := by decide +kernel
theorem dL_law_1169 : decode cL_law 1169 = .ok (.aload_n 0, 1) := by decide +kernel
theorem dL_law_1170 : decode cL_law 1170 = .ok (.iload 4, 2) := by decide +kernel
theorem dL_law_1172 : decode cL_law 1172 = .ok (.iconst 1, 1) := by decide +kernel
theorem dL_law_1173 : decode cL_law 1173 = .ok (.iadd, 1) := by decide +kernel
theorem dL_law_1174 : decode cL_law 1174 = .ok (.iaload, 1) := by decide +kernel
theorem dL_law_1175 : decode cL_law 1175 = .ok (.aload_n 3, 1) := by decide +kernel
theorem dL_law_1176 : decode cL_law 1176 = .ok (.invokestatic 159, 3) := by decide +kernel
theorem dL_law_1179 : decode cL_law 1179 = .ok (.istore 5, 2) := by decide +kernel
theorem dL_law_1181 : decode cL_law 1181 = .ok (.aload_n 2, 1) := by decide +kernel
theorem dL_law_1182 : decode cL_law 1182 = .ok (.aload_n 0, 1) := by decide +kernel
theorem dL_law_1183 : decode cL_law 1183 = .ok (.iload 4, 2) := by decide +kernel
theorem dL_law_1185 : decode cL_law 1185 = .ok (.iconst 1, 1) := by decide +kernel
theorem dL_law_1186 : decode cL_law 1186 = .ok (.iadd, 1) := by decide +kernel
theorem dL_law_1187 : decode cL_law 1187 = .ok (.iaload, 1) := by decide +kernel
theorem dL_law_1188 : decode cL_law 1188 = .ok (.invokevirtual 161, 3) := by decide +kernel
theorem dL_law_1191 : decode cL_law 1191 = .ok (.istore 6, 2) := by decide +kernel
theorem dL_law_1193 : decode cL_law 1193 = .ok (.aload_n 2, 1) := by decide +kernel
theorem dL_law_1194 : decode cL_law 1194 = .ok (.invokevirtual 103, 3) := by decide +kernel
theorem dL_law_1197 : decode cL_law 1197 = .ok (.iload 5, 2) := by decide +kernel
theorem dL_law_1199 : decode cL_law 1199 = .ok (.if_icmp .eq 5, 3) := by decide +kernel
theorem dL_law_1202 : decode cL_law 1202 = .ok (.iconst 0, 1) := by decide +kernel
theorem dL_law_1203 : decode cL_law 1203 = .ok (.ireturn, 1) := by decide +kernel
theorem dL_law_1204 : decode cL_law 1204 = .ok (.iload 5, 2) := by decide +kernel
theorem dL_law_1206 : decode cL_law 1206 = .ok (.ifCond .ne 22, 3) := by decide +kernel
theorem dL_law_1209 : decode cL_law 1209 = .ok (.aload_n 3, 1) := by decide +kernel
theorem dL_law_1210 : decode cL_law 1210 = .ok (.iconst 0, 1) := by decide +kernel
theorem dL_law_1211 : decode cL_law 1211 = .ok (.laload, 1) := by decide +kernel
theorem dL_law_1212 : decode cL_law 1212 = .ok (.iload 6, 2) := by decide +kernel
theorem dL_law_1214 : decode cL_law 1214 = .ok (.ifCond .eq 7, 3) := by decide +kernel
theorem dL_law_1217 : decode cL_law 1217 = .ok (.lconst 1, 1) := by decide +kernel
theorem dL_law_1218 : decode cL_law 1218 = .ok (.goto 4, 3) := by decide +kernel
theorem dL_law_1221 : decode cL_law 1221 = .ok (.lconst 0, 1) := by decide +kernel
theorem dL_law_1222 : decode cL_law 1222 = .ok (.lcmp, 1) := by decide +kernel
theorem dL_law_1223 : decode cL_law 1223 = .ok (.ifCond .eq 5, 3) := by decide +kernel
theorem dL_law_1226 : decode cL_law 1226 = .ok (.iconst 0, 1) := by decide +kernel
theorem dL_law_1227 : decode cL_law 1227 = .ok (.ireturn, 1) := by decide +kernel
theorem dL_law_1228 : decode cL_law 1228 = .ok (.goto 377, 3) := by decide +kernel
theorem dL_law_1231 : decode cL_law 1231 = .ok (.aload_n 1, 1) := by decide +kernel
theorem dL_law_1232 : decode cL_law 1232 = .ok (.aload_n 0, 1) := by decide +kernel
theorem dL_law_1233 : decode cL_law 1233 = .ok (.iload 4, 2) := by decide +kernel
theorem dL_law_1235 : decode cL_law 1235 = .ok (.iconst 1, 1) := by decide +kernel
theorem dL_law_1236 : decode cL_law 1236 = .ok (.iadd, 1) := by decide +kernel
theorem dL_law_1237 : decode cL_law 1237 = .ok (.iaload, 1) := by decide +kernel
theorem dL_law_1238 : decode cL_law 1238 = .ok (.aload_n 3, 1) := by decide +kernel
theorem dL_law_1239 : decode cL_law 1239 = .ok (.invokestatic 162, 3) := by decide +kernel
theorem dL_law_1242 : decode cL_law 1242 = .ok (.istore 5, 2) := by decide +kernel
theorem dL_law_1244 : decode cL_law 1244 = .ok (.aload_n 2, 1) := by decide +kernel
theorem dL_law_1245 : decode cL_law 1245 = .ok (.aload_n 0, 1) := by decide +kernel
theorem dL_law_1246 : decode cL_law 1246 = .ok (.iload 4, 2) := by decide +kernel
theorem dL_law_1248 : decode cL_law 1248 = .ok (.iconst 1, 1) := by decide +kernel
theorem dL_law_1249 : decode cL_law 1249 = .ok (.iadd, 1) := by decide +kernel
theorem dL_law_1250 : decode cL_law 1250 = .ok (.iaload, 1) := by decide +kernel
theorem dL_law_1251 : decode cL_law 1251 = .ok (.invokevirtual 164, 3) := by decide +kernel
theorem dL_law_1254 : decode cL_law 1254 = .ok (.istore 6, 2) := by decide +kernel
theorem dL_law_1256 : decode cL_law 1256 = .ok (.aload_n 2, 1) := by decide +kernel
theorem dL_law_1257 : decode cL_law 1257 = .ok (.invokevirtual 103, 3) := by decide +kernel
theorem dL_law_1260 : decode cL_law 1260 = .ok (.iload 5, 2) := by decide +kernel
theorem dL_law_1262 : decode cL_law 1262 = .ok (.if_icmp .eq 5, 3) := by decide +kernel
theorem dL_law_1265 : decode cL_law 1265 = .ok (.iconst 0, 1) := by decide +kernel
theorem dL_law_1266 : decode cL_law 1266 = .ok (.ireturn, 1) := by decide +kernel
theorem dL_law_1267 : decode cL_law 1267 = .ok (.iload 5, 2) := by decide +kernel
theorem dL_law_1269 : decode cL_law 1269 = .ok (.ifCond .ne 22, 3) := by decide +kernel
theorem dL_law_1272 : decode cL_law 1272 = .ok (.aload_n 3, 1) := by decide +kernel
theorem dL_law_1273 : decode cL_law 1273 = .ok (.iconst 0, 1) := by decide +kernel
theorem dL_law_1274 : decode cL_law 1274 = .ok (.laload, 1) := by decide +kernel
theorem dL_law_1275 : decode cL_law 1275 = .ok (.iload 6, 2) := by decide +kernel
theorem dL_law_1277 : decode cL_law 1277 = .ok (.ifCond .eq 7, 3) := by decide +kernel
theorem dL_law_1280 : decode cL_law 1280 = .ok (.lconst 1, 1) := by decide +kernel
theorem dL_law_1281 : decode cL_law 1281 = .ok (.goto 4, 3) := by decide +kernel
theorem dL_law_1284 : decode cL_law 1284 = .ok (.lconst 0, 1) := by decide +kernel
theorem dL_law_1285 : decode cL_law 1285 = .ok (.lcmp, 1) := by decide +kernel
theorem dL_law_1286 : decode cL_law 1286 = .ok (.ifCond .eq 5, 3) := by decide +kernel
theorem dL_law_1289 : decode cL_law 1289 = .ok (.iconst 0, 1) := by decide +kernel
theorem dL_law_1290 : decode cL_law 1290 = .ok (.ireturn, 1) := by decide +kernel
theorem dL_law_1291 : decode cL_law 1291 = .ok (.goto 314, 3) := by decide +kernel
theorem dL_law_1294 : decode cL_law 1294 = .ok (.aload_n 1, 1) := by decide +kernel
theorem dL_law_1295 : decode cL_law 1295 = .ok (.aload_n 0, 1) := by decide +kernel
theorem dL_law_1296 : decode cL_law 1296 = .ok (.iload 4, 2) := by decide +kernel
theorem dL_law_1298 : decode cL_law 1298 = .ok (.iconst 1, 1) := by decide +kernel
theorem dL_law_1299 : decode cL_law 1299 = .ok (.iadd, 1) := by decide +kernel
theorem dL_law_1300 : decode cL_law 1300 = .ok (.iaload, 1) := by decide +kernel
theorem dL_law_1301 : decode cL_law 1301 = .ok (.aload_n 3, 1) := by decide +kernel
theorem dL_law_1302 : decode cL_law 1302 = .ok (.invokestatic 165, 3) := by decide +kernel
theorem dL_law_1305 : decode cL_law 1305 = .ok (.istore 5, 2) := by decide +kernel
theorem dL_law_1307 : decode cL_law 1307 = .ok (.aload_n 2, 1) := by decide +kernel
theorem dL_law_1308 : decode cL_law 1308 = .ok (.aload_n 0, 1) := by decide +kernel
theorem dL_law_1309 : decode cL_law 1309 = .ok (.iload 4, 2) := by decide +kernel
theorem dL_law_1311 : decode cL_law 1311 = .ok (.iconst 1, 1) := by decide +kernel
theorem dL_law_1312 : decode cL_law 1312 = .ok (.iadd, 1) := by decide +kernel
theorem dL_law_1313 : decode cL_law 1313 = .ok (.iaload, 1) := by decide +kernel
theorem dL_law_1314 : decode cL_law 1314 = .ok (.invokevirtual 167, 3) := by decide +kernel
theorem dL_law_1317 : decode cL_law 1317 = .ok (.istore 6, 2) := by decide +kernel
theorem dL_law_1319 : decode cL_law 1319 = .ok (.aload_n 2, 1) := by decide +kernel
theorem dL_law_1320 : decode cL_law 1320 = .ok (.invokevirtual 103, 3) := by decide +kernel
theorem dL_law_1323 : decode cL_law 1323 = .ok (.iload 5, 2) := by decide +kernel
theorem dL_law_1325 : decode cL_law 1325 = .ok (.if_icmp .eq 5, 3) := by decide +kernel
theorem dL_law_1328 : decode cL_law 1328 = .ok (.iconst 0, 1) := by decide +kernel
theorem dL_law_1329 : decode cL_law 1329 = .ok (.ireturn, 1) := by decide +kernel
theorem dL_law_1330 : decode cL_law 1330 = .ok (.iload 5, 2) := by decide +kernel
theorem dL_law_1332 : decode cL_law 1332 = .ok (.ifCond .ne 15, 3) := by decide +kernel
theorem dL_law_1335 : decode cL_law 1335 = .ok (.aload_n 3, 1) := by decide +kernel
theorem dL_law_1336 : decode cL_law 1336 = .ok (.iconst 0, 1) := by decide +kernel
theorem dL_law_1337 : decode cL_law 1337 = .ok (.laload, 1) := by decide +kernel
theorem dL_law_1338 : decode cL_law 1338 = .ok (.iload 6, 2) := by decide +kernel
theorem dL_law_1340 : decode cL_law 1340 = .ok (.i2l, 1) := by decide +kernel
theorem dL_law_1341 : decode cL_law 1341 = .ok (.lcmp, 1) := by decide +kernel
theorem dL_law_1342 : decode cL_law 1342 = .ok (.ifCond .eq 5, 3) := by decide +kernel
theorem dL_law_1345 : decode cL_law 1345 = .ok (.iconst 0, 1) := by decide +kernel
theorem dL_law_1346 : decode cL_law 1346 = .ok (.ireturn, 1) := by decide +kernel
theorem dL_law_1347 : decode cL_law 1347 = .ok (.goto 258, 3) := by decide +kernel
theorem dL_law_1350 : decode cL_law 1350 = .ok (.aload_n 1, 1) := by decide +kernel
theorem dL_law_1351 : decode cL_law 1351 = .ok (.aload_n 0, 1) := by decide +kernel
theorem dL_law_1352 : decode cL_law 1352 = .ok (.iload 4, 2) := by decide +kernel
theorem dL_law_1354 : decode cL_law 1354 = .ok (.iconst 1, 1) := by decide +kernel
theorem dL_law_1355 : decode cL_law 1355 = .ok (.iadd, 1) := by decide +kernel
theorem dL_law_1356 : decode cL_law 1356 = .ok (.iaload, 1) := by decide +kernel
theorem dL_law_1357 : decode cL_law 1357 = .ok (.aload_n 0, 1) := by decide +kernel
theorem dL_law_1358 : decode cL_law 1358 = .ok (.iload 4, 2) := by decide +kernel
theorem dL_law_1360 : decode cL_law 1360 = .ok (.iconst 2, 1) := by decide +kernel
theorem dL_law_1361 : decode cL_law 1361 = .ok (.iadd, 1) := by decide +kernel
theorem dL_law_1362 : decode cL_law 1362 = .ok (.iaload, 1) := by decide +kernel
theorem dL_law_1363 : decode cL_law 1363 = .ok (.aload_n 3, 1) := by decide +kernel
theorem dL_law_1364 : decode cL_law 1364 = .ok (.invokestatic 168, 3) := by decide +kernel
theorem dL_law_1367 : decode cL_law 1367 = .ok (.istore 5, 2) := by decide +kernel
theorem dL_law_1369 : decode cL_law 1369 = .ok (.aload_n 2, 1) := by decide +kernel
theorem dL_law_1370 : decode cL_law 1370 = .ok (.aload_n 0, 1) := by decide +kernel
theorem dL_law_1371 : decode cL_law 1371 = .ok (.iload 4, 2) := by decide +kernel
theorem dL_law_1373 : decode cL_law 1373 = .ok (.iconst 1, 1) := by decide +kernel
theorem dL_law_1374 : decode cL_law 1374 = .ok (.iadd, 1) := by decide +kernel
theorem dL_law_1375 : decode cL_law 1375 = .ok (.iaload, 1) := by decide +kernel
theorem dL_law_1376 : decode cL_law 1376 = .ok (.aload_n 0, 1) := by decide +kernel
theorem dL_law_1377 : decode cL_law 1377 = .ok (.iload 4, 2) := by decide +kernel
theorem dL_law_1379 : decode cL_law 1379 = .ok (.iconst 2, 1) := by decide +kernel
theorem dL_law_1380 : decode cL_law 1380 = .ok (.iadd, 1) := by decide +kernel
theorem dL_law_1381 : decode cL_law 1381 = .ok (.iaload, 1) := by decide +kernel
theorem dL_law_1382 : decode cL_law 1382 = .ok (.invokevirtual 170, 3) := by decide +kernel
theorem dL_law_1385 : decode cL_law 1385 = .ok (.istore 6, 2) := by decide +kernel
theorem dL_law_1387 : decode cL_law 1387 = .ok (.aload_n 2, 1) := by decide +kernel
theorem dL_law_1388 : decode cL_law 1388 = .ok (.invokevirtual 103, 3) := by decide +kernel
theorem dL_law_1391 : decode cL_law 1391 = .ok (.iload 5, 2) := by decide +kernel
theorem dL_law_1393 : decode cL_law 1393 = .ok (.if_icmp .eq 5, 3) := by decide +kernel
theorem dL_law_1396 : decode cL_law 1396 = .ok (.iconst 0, 1) := by decide +kernel
theorem dL_law_1397 : decode cL_law 1397 = .ok (.ireturn, 1) := by decide +kernel
theorem dL_law_1398 : decode cL_law 1398 = .ok (.iload 5, 2) := by decide +kernel
theorem dL_law_1400 : decode cL_law 1400 = .ok (.ifCond .ne 15, 3) := by decide +kernel
theorem dL_law_1403 : decode cL_law 1403 = .ok (.aload_n 3, 1) := by decide +kernel
theorem dL_law_1404 : decode cL_law 1404 = .ok (.iconst 0, 1) := by decide +kernel
theorem dL_law_1405 : decode cL_law 1405 = .ok (.laload, 1) := by decide +kernel
theorem dL_law_1406 : decode cL_law 1406 = .ok (.iload 6, 2) := by decide +kernel
theorem dL_law_1408 : decode cL_law 1408 = .ok (.i2l, 1) := by decide +kernel
theorem dL_law_1409 : decode cL_law 1409 = .ok (.lcmp, 1) := by decide +kernel
theorem dL_law_1410 : decode cL_law 1410 = .ok (.ifCond .eq 5, 3) := by decide +kernel
theorem dL_law_1413 : decode cL_law 1413 = .ok (.iconst 0, 1) := by decide +kernel
theorem dL_law_1414 : decode cL_law 1414 = .ok (.ireturn, 1) := by decide +kernel
theorem dL_law_1415 : decode cL_law 1415 = .ok (.goto 190, 3) := by decide +kernel
theorem dL_law_1418 : decode cL_law 1418 = .ok (.aload_n 1, 1) := by decide +kernel
theorem dL_law_1419 : decode cL_law 1419 = .ok (.aload_n 0, 1) := by decide +kernel
theorem dL_law_1420 : decode cL_law 1420 = .ok (.iload 4, 2) := by decide +kernel
theorem dL_law_1422 : decode cL_law 1422 = .ok (.iconst 1, 1) := by decide +kernel
theorem dL_law_1423 : decode cL_law 1423 = .ok (.iadd, 1) := by decide +kernel
theorem dL_law_1424 : decode cL_law 1424 = .ok (.iaload, 1) := by decide +kernel
theorem dL_law_1425 : decode cL_law 1425 = .ok (.aload_n 3, 1) := by decide +kernel
theorem dL_law_1426 : decode cL_law 1426 = .ok (.invokestatic 171, 3) := by decide +kernel
theorem dL_law_1429 : decode cL_law 1429 = .ok (.istore 5, 2) := by decide +kernel
theorem dL_law_1431 : decode cL_law 1431 = .ok (.aload_n 2, 1) := by decide +kernel
theorem dL_law_1432 : decode cL_law 1432 = .ok (.aload_n 0, 1) := by decide +kernel
theorem dL_law_1433 : decode cL_law 1433 = .ok (.iload 4, 2) := by decide +kernel
theorem dL_law_1435 : decode cL_law 1435 = .ok (.iconst 1, 1) := by decide +kernel
theorem dL_law_1436 : decode cL_law 1436 = .ok (.iadd, 1) := by decide +kernel
theorem dL_law_1437 : decode cL_law 1437 = .ok (.iaload, 1) := by decide +kernel
theorem dL_law_1438 : decode cL_law 1438 = .ok (.invokevirtual 173, 3) := by decide +kernel
theorem dL_law_1441 : decode cL_law 1441 = .ok (.istore 6, 2) := by decide +kernel
theorem dL_law_1443 : decode cL_law 1443 = .ok (.aload_n 2, 1) := by decide +kernel
theorem dL_law_1444 : decode cL_law 1444 = .ok (.invokevirtual 103, 3) := by decide +kernel
theorem dL_law_1447 : decode cL_law 1447 = .ok (.iload 5, 2) := by decide +kernel
theorem dL_law_1449 : decode cL_law 1449 = .ok (.if_icmp .eq 5, 3) := by decide +kernel
theorem dL_law_1452 : decode cL_law 1452 = .ok (.iconst 0, 1) := by decide +kernel
theorem dL_law_1453 : decode cL_law 1453 = .ok (.ireturn, 1) := by decide +kernel
theorem dL_law_1454 : decode cL_law 1454 = .ok (.iload 5, 2) := by decide +kernel
theorem dL_law_1456 : decode cL_law 1456 = .ok (.ifCond .ne 22, 3) := by decide +kernel
theorem dL_law_1459 : decode cL_law 1459 = .ok (.aload_n 3, 1) := by decide +kernel
theorem dL_law_1460 : decode cL_law 1460 = .ok (.iconst 0, 1) := by decide +kernel
theorem dL_law_1461 : decode cL_law 1461 = .ok (.laload, 1) := by decide +kernel
theorem dL_law_1462 : decode cL_law 1462 = .ok (.iload 6, 2) := by decide +kernel
theorem dL_law_1464 : decode cL_law 1464 = .ok (.ifCond .eq 7, 3) := by decide +kernel
theorem dL_law_1467 : decode cL_law 1467 = .ok (.lconst 1, 1) := by decide +kernel
theorem dL_law_1468 : decode cL_law 1468 = .ok (.goto 4, 3) := by decide +kernel
theorem dL_law_1471 : decode cL_law 1471 = .ok (.lconst 0, 1) := by decide +kernel
theorem dL_law_1472 : decode cL_law 1472 = .ok (.lcmp, 1) := by decide +kernel
theorem dL_law_1473 : decode cL_law 1473 = .ok (.ifCond .eq 5, 3) := by decide +kernel
theorem dL_law_1476 : decode cL_law 1476 = .ok (.iconst 0, 1) := by decide +kernel
theorem dL_law_1477 : decode cL_law 1477 = .ok (.ireturn, 1) := by decide +kernel
theorem dL_law_1478 : decode cL_law 1478 = .ok (.goto 127, 3) := by decide +kernel
theorem dL_law_1481 : decode cL_law 1481 = .ok (.aload_n 1, 1) := by decide +kernel
theorem dL_law_1482 : decode cL_law 1482 = .ok (.aload_n 0, 1) := by decide +kernel
theorem dL_law_1483 : decode cL_law 1483 = .ok (.iload 4, 2) := by decide +kernel
theorem dL_law_1485 : decode cL_law 1485 = .ok (.iconst 1, 1) := by decide +kernel
theorem dL_law_1486 : decode cL_law 1486 = .ok (.iadd, 1) := by decide +kernel
theorem dL_law_1487 : decode cL_law 1487 = .ok (.iaload, 1) := by decide +kernel
theorem dL_law_1488 : decode cL_law 1488 = .ok (.aload_n 3, 1) := by decide +kernel
theorem dL_law_1489 : decode cL_law 1489 = .ok (.invokestatic 174, 3) := by decide +kernel
theorem dL_law_1492 : decode cL_law 1492 = .ok (.istore 5, 2) := by decide +kernel
theorem dL_law_1494 : decode cL_law 1494 = .ok (.aload_n 2, 1) := by decide +kernel
theorem dL_law_1495 : decode cL_law 1495 = .ok (.aload_n 0, 1) := by decide +kernel
theorem dL_law_1496 : decode cL_law 1496 = .ok (.iload 4, 2) := by decide +kernel
theorem dL_law_1498 : decode cL_law 1498 = .ok (.iconst 1, 1) := by decide +kernel
theorem dL_law_1499 : decode cL_law 1499 = .ok (.iadd, 1) := by decide +kernel
theorem dL_law_1500 : decode cL_law 1500 = .ok (.iaload, 1) := by decide +kernel
theorem dL_law_1501 : decode cL_law 1501 = .ok (.invokevirtual 176, 3) := by decide +kernel
theorem dL_law_1504 : decode cL_law 1504 = .ok (.istore 6, 2) := by decide +kernel
theorem dL_law_1506 : decode cL_law 1506 = .ok (.aload_n 2, 1) := by decide +kernel
theorem dL_law_1507 : decode cL_law 1507 = .ok (.invokevirtual 103, 3) := by decide +kernel
theorem dL_law_1510 : decode cL_law 1510 = .ok (.iload 5, 2) := by decide +kernel
theorem dL_law_1512 : decode cL_law 1512 = .ok (.if_icmp .eq 5, 3) := by decide +kernel
theorem dL_law_1515 : decode cL_law 1515 = .ok (.iconst 0, 1) := by decide +kernel
theorem dL_law_1516 : decode cL_law 1516 = .ok (.ireturn, 1) := by decide +kernel
theorem dL_law_1517 : decode cL_law 1517 = .ok (.iload 5, 2) := by decide +kernel
theorem dL_law_1519 : decode cL_law 1519 = .ok (.ifCond .ne 15, 3) := by decide +kernel
theorem dL_law_1522 : decode cL_law 1522 = .ok (.aload_n 3, 1) := by decide +kernel
theorem dL_law_1523 : decode cL_law 1523 = .ok (.iconst 0, 1) := by decide +kernel
theorem dL_law_1524 : decode cL_law 1524 = .ok (.laload, 1) := by decide +kernel
theorem dL_law_1525 : decode cL_law 1525 = .ok (.iload 6, 2) := by decide +kernel
theorem dL_law_1527 : decode cL_law 1527 = .ok (.i2l, 1) := by decide +kernel
theorem dL_law_1528 : decode cL_law 1528 = .ok (.lcmp, 1) := by decide +kernel
theorem dL_law_1529 : decode cL_law 1529 = .ok (.ifCond .eq 5, 3) := by decide +kernel
theorem dL_law_1532 : decode cL_law 1532 = .ok (.iconst 0, 1) := by decide +kernel
theorem dL_law_1533 : decode cL_law 1533 = .ok (.ireturn, 1) := by decide +kernel
theorem dL_law_1534 : decode cL_law 1534 = .ok (.goto 71, 3) := by decide +kernel
theorem dL_law_1537 : decode cL_law 1537 = .ok (.aload_n 1, 1) := by decide +kernel
theorem dL_law_1538 : decode cL_law 1538 = .ok (.aload_n 0, 1) := by decide +kernel
theorem dL_law_1539 : decode cL_law 1539 = .ok (.iload 4, 2) := by decide +kernel
theorem dL_law_1541 : decode cL_law 1541 = .ok (.iconst 1, 1) := by decide +kernel
theorem dL_law_1542 : decode cL_law 1542 = .ok (.iadd, 1) := by decide +kernel
theorem dL_law_1543 : decode cL_law 1543 = .ok (.iaload, 1) := by decide +kernel
theorem dL_law_1544 : decode cL_law 1544 = .ok (.aload_n 0, 1) := by decide +kernel
theorem dL_law_1545 : decode cL_law 1545 = .ok (.iload 4, 2) := by decide +kernel
theorem dL_law_1547 : decode cL_law 1547 = .ok (.iconst 2, 1) := by decide +kernel
theorem dL_law_1548 : decode cL_law 1548 = .ok (.iadd, 1) := by decide +kernel
theorem dL_law_1549 : decode cL_law 1549 = .ok (.iaload, 1) := by decide +kernel
theorem dL_law_1550 : decode cL_law 1550 = .ok (.aload_n 3, 1) := by decide +kernel
theorem dL_law_1551 : decode cL_law 1551 = .ok (.invokestatic 177, 3) := by decide +kernel
theorem dL_law_1554 : decode cL_law 1554 = .ok (.istore 5, 2) := by decide +kernel
theorem dL_law_1556 : decode cL_law 1556 = .ok (.aload_n 2, 1) := by decide +kernel
theorem dL_law_1557 : decode cL_law 1557 = .ok (.aload_n 0, 1) := by decide +kernel
theorem dL_law_1558 : decode cL_law 1558 = .ok (.iload 4, 2) := by decide +kernel
theorem dL_law_1560 : decode cL_law 1560 = .ok (.iconst 1, 1) := by decide +kernel
theorem dL_law_1561 : decode cL_law 1561 = .ok (.iadd, 1) := by decide +kernel
theorem dL_law_1562 : decode cL_law 1562 = .ok (.iaload, 1) := by decide +kernel
theorem dL_law_1563 : decode cL_law 1563 = .ok (.aload_n 0, 1) := by decide +kernel
theorem dL_law_1564 : decode cL_law 1564 = .ok (.iload 4, 2) := by decide +kernel
theorem dL_law_1566 : decode cL_law 1566 = .ok (.iconst 2, 1) := by decide +kernel
theorem dL_law_1567 : decode cL_law 1567 = .ok (.iadd, 1) := by decide +kernel
theorem dL_law_1568 : decode cL_law 1568 = .ok (.iaload, 1) := by decide +kernel
theorem dL_law_1569 : decode cL_law 1569 = .ok (.invokevirtual 179, 3) := by decide +kernel
theorem dL_law_1572 : decode cL_law 1572 = .ok (.istore 6, 2) := by decide +kernel
theorem dL_law_1574 : decode cL_law 1574 = .ok (.aload_n 2, 1) := by decide +kernel
theorem dL_law_1575 : decode cL_law 1575 = .ok (.invokevirtual 103, 3) := by decide +kernel
theorem dL_law_1578 : decode cL_law 1578 = .ok (.iload 5, 2) := by decide +kernel
theorem dL_law_1580 : decode cL_law 1580 = .ok (.if_icmp .eq 5, 3) := by decide +kernel
theorem dL_law_1583 : decode cL_law 1583 = .ok (.iconst 0, 1) := by decide +kernel
theorem dL_law_1584 : decode cL_law 1584 = .ok (.ireturn, 1) := by decide +kernel
theorem dL_law_1585 : decode cL_law 1585 = .ok (.iload 5, 2) := by decide +kernel
theorem dL_law_1587 : decode cL_law 1587 = .ok (.ifCond .ne 15, 3) := by decide +kernel
theorem dL_law_1590 : decode cL_law 1590 = .ok (.aload_n 3, 1) := by decide +kernel
theorem dL_law_1591 : decode cL_law 1591 = .ok (.iconst 0, 1) := by decide +kernel
theorem dL_law_1592 : decode cL_law 1592 = .ok (.laload, 1) := by decide +kernel
theorem dL_law_1593 : decode cL_law 1593 = .ok (.iload 6, 2) := by decide +kernel
theorem dL_law_1595 : decode cL_law 1595 = .ok (.i2l, 1) := by decide +kernel
theorem dL_law_1596 : decode cL_law 1596 = .ok (.lcmp, 1) := by decide +kernel
theorem dL_law_1597 : decode cL_law 1597 = .ok (.ifCond .eq 5, 3) := by decide +kernel
theorem dL_law_1600 : decode cL_law 1600 = .ok (.iconst 0, 1) := by decide +kernel
theorem dL_law_1601 : decode cL_law 1601 = .ok (.ireturn, 1) := by decide +kernel
theorem dL_law_1602 : decode cL_law 1602 = .ok (.goto 3, 3) := by decide +kernel
theorem dL_law_1605 : decode cL_law 1605 = .ok (.iinc 4 4, 3) := by decide +kernel
theorem dL_law_1608 : decode cL_law 1608 = .ok (.goto (-1585), 3) := by decide +kernel
theorem dL_law_1611 : decode cL_law 1611 = .ok (.iconst 1, 1) := by decide +kernel
theorem dL_law_1612 : decode cL_law 1612 = .ok (.ireturn, 1) := by decide +kernel
end
section
set_option maxRecDepth 20000 in
theorem ggL_mint_X3_mint : GoodIn wsL_mint wsX3_mint := goodIn_ca (goodIn_ca (goodIn_r _ [7, 8, 9, 10, 11, 12, 13, 6, 14, 15, 16, 17, 18, 19, 20, 21, 22, 23, 24, 25, 26, 27, 28, 29, 30, 31, 32, 33, 34, 35, 36, 37, 38, 39, 40, 41, 42, 43, 44, 45, 46, 47, 48, 49, 50, 51, 52, 53, 54, 55, 56, 57, 58, 59, 60] (by decide +kernel) (by decide +kernel)) (goodIn_sub (fun _ h => List.mem_cons_of_mem _ (List.mem_append_left _ (List.mem_append_right _ h))) (by decide +kernel))) (goodIn_sub (fun _ h => List.mem_cons_of_mem _ (List.mem_append_right _ h)) (by decide +kernel))
set_option maxRecDepth 20000 in
theorem gL_mint_X3_mint : GoodIn wsL_mint (wsV RL 7 RX3 yX3_mint wsX3_mint) := goodIn_app (goodIn_of _ (by decide +kernel)) ggL_mint_X3_mint
set_option maxRecDepth 20000 in
theorem ggL_owner_X3_owner : GoodIn wsL_owner wsX3_owner := goodIn_ca (goodIn_r _ [6, 7, 8, 9, 10, 11, 5, 12, 13, 14, 15, 16, 17, 18, 19, 20, 21, 22, 23, 24, 25, 26, 27, 28, 29, 30, 31, 32, 33, 34, 35, 36, 37] (by decide +kernel) (by decide +kernel)) (goodIn_sub (fun _ h => List.mem_cons_of_mem _ (List.mem_append_right _ h)) (by decide +kernel))
set_option maxRecDepth 20000 in
theorem gL_owner_X3_owner : GoodIn wsL_owner (wsV RL 17 RX3 yX3_owner wsX3_owner) := goodIn_app (goodIn_of _ (by decide +kernel)) ggL_owner_X3_owner
set_option maxRecDepth 20000 in
theorem ggL_ownerByHistory_X3_ownerByHistory : GoodIn wsL_ownerByHistory wsX3_ownerByHistory := goodIn_ca (goodIn_r _ [6, 7, 8, 9, 10, 5, 11, 12, 13, 14, 15, 16, 17, 18, 19, 20, 21, 22, 23, 24, 25, 26, 27, 28, 29, 30, 31, 32, 33, 34, 35, 36, 37, 38, 39, 40, 41, 42, 43, 44, 45, 46, 47, 48] (by decide +kernel) (by decide +kernel)) (goodIn_sub (fun _ h => List.mem_cons_of_mem _ (List.mem_append_right _ h)) (by decide +kernel))
set_option maxRecDepth 20000 in
theorem gL_ownerByHistory_X3_ownerByHistory : GoodIn wsL_ownerByHistory (wsV RL 21 RX3 yX3_ownerByHistory wsX3_ownerByHistory) := goodIn_app (goodIn_of _ (by decide +kernel)) ggL_ownerByHistory_X3_ownerByHistory
set_option maxRecDepth 20000 in
theorem ggL_holder_X3_holder : GoodIn wsL_holder wsX3_holder := goodIn_ca (goodIn_r _ [6, 7, 8, 9, 10, 5, 11, 12, 13, 14, 15, 16, 17, 18, 19, 20, 21, 22, 23, 24, 25, 26, 27, 28, 29, 30, 31, 32, 33, 34, 35, 36, 37, 38, 39, 40, 41, 42, 43] (by decide +kernel) (by decide +kernel)) (goodIn_sub (fun _ h => List.mem_cons_of_mem _ (List.mem_append_right _ h)) (by decide +kernel))
set_option maxRecDepth 20000 in
theorem gL_holder_X3_holder : GoodIn wsL_holder (wsV RL 24 RX3 yX3_holder wsX3_holder) := goodIn_app (goodIn_of _ (by decide +kernel)) ggL_holder_X3_holder
set_option maxRecDepth 20000 in
theorem ggL_stateOf_X3_stateOf : GoodIn wsL_stateOf wsX3_stateOf := goodIn_ca (goodIn_r _ [6, 7, 8, 9, 10, 11, 5, 12, 13, 14, 15, 16, 17, 18, 19, 20, 21, 22, 23, 24, 25, 26, 27, 28, 29, 30, 31, 32, 33, 34, 35, 36, 37] (by decide +kernel) (by decide +kernel)) (goodIn_sub (fun _ h => List.mem_cons_of_mem _ (List.mem_append_right _ h)) (by decide +kernel))
set_option maxRecDepth 20000 in
theorem gL_stateOf_X3_stateOf : GoodIn wsL_stateOf (wsV RL 27 RX3 yX3_stateOf wsX3_stateOf) := goodIn_app (goodIn_of _ (by decide +kernel)) ggL_stateOf_X3_stateOf
set_option maxRecDepth 20000 in
theorem ggL_coins_X3_coins : GoodIn wsL_coins wsX3_coins := goodIn_ca (goodIn_r _ [6, 7, 8, 9, 5, 10, 11, 12, 13, 14, 15, 16, 17, 18, 19, 20] (by decide +kernel) (by decide +kernel)) (goodIn_sub (fun _ h => List.mem_cons_of_mem _ (List.mem_append_right _ h)) (by decide +kernel))
set_option maxRecDepth 20000 in
theorem gL_coins_X3_coins : GoodIn wsL_coins (wsV RL 30 RX3 yX3_coins wsX3_coins) := goodIn_app (goodIn_of _ (by decide +kernel)) ggL_coins_X3_coins
set_option maxRecDepth 20000 in
theorem ggL_sell_X3_sell : GoodIn wsL_sell wsX3_sell := goodIn_ca (goodIn_ca (goodIn_ca (goodIn_r _ [8, 9, 10, 11, 12, 13, 14, 15, 16, 17, 18, 19, 20, 21, 7, 22, 23, 24, 25, 26, 27, 28, 29, 30, 31, 32, 33, 34, 35, 36, 37, 38, 39, 40, 41, 42, 43, 44, 45, 46, 47, 48, 49, 50, 51, 52, 53, 54, 55, 56, 57, 58, 59, 60, 61, 62, 63, 64, 65, 66, 67, 68, 69, 70, 71, 72, 73, 74, 75, 76, 77, 78, 79, 80, 81, 82, 83, 84, 85, 86, 87, 88, 89, 90, 91, 92, 93, 94, 95, 96, 97, 98, 99, 100, 101, 102] (by decide +kernel) (by decide +kernel)) (goodIn_sub (fun _ h => List.mem_cons_of_mem _ (List.mem_append_left _ (List.mem_append_left _ (List.mem_append_right _ h)))) (by decide +kernel))) (goodIn_sub (fun _ h => List.mem_cons_of_mem _ (List.mem_append_left _ (List.mem_append_right _ h))) (by decide +kernel))) (goodIn_sub (fun _ h => List.mem_cons_of_mem _ (List.mem_append_right _ h)) (by decide +kernel))
set_option maxRecDepth 20000 in
theorem gL_sell_X3_sell : GoodIn wsL_sell (wsV RL 33 RX3 yX3_sell wsX3_sell) := goodIn_app (goodIn_of _ (by decide +kernel)) ggL_sell_X3_sell
set_option maxRecDepth 20000 in
theorem ggL_bid_X3_bid : GoodIn wsL_bid wsX3_bid := goodIn_ca (goodIn_ca (goodIn_ca (goodIn_r _ [8, 9, 10, 11, 12, 13, 14, 15, 16, 17, 18, 7, 19, 20, 21, 22, 23, 24, 25, 26, 27, 28, 29, 30, 31, 32, 33, 34, 35, 36, 37, 38, 39, 40, 41, 42, 43, 44, 45, 46, 47, 48, 49, 50, 51, 52, 53, 54, 55, 56, 57, 58, 59, 60, 61, 62, 63, 64, 65, 66, 67, 68, 69, 70, 71, 72, 73, 74, 75, 76, 77, 78, 79, 80, 81, 82, 83, 84, 85, 86, 87, 88, 89, 90, 91, 92, 93, 94, 95, 96, 97, 98, 99, 100, 101, 102, 103, 104, 105] (by decide +kernel) (by decide +kernel)) (goodIn_sub (fun _ h => List.mem_cons_of_mem _ (List.mem_append_left _ (List.mem_append_left _ (List.mem_append_right _ h)))) (by decide +kernel))) (goodIn_sub (fun _ h => List.mem_cons_of_mem _ (List.mem_append_left _ (List.mem_append_right _ h))) (by decide +kernel))) (goodIn_sub (fun _ h => List.mem_cons_of_mem _ (List.mem_append_right _ h)) (by decide +kernel))
set_option maxRecDepth 20000 in
theorem gL_bid_X3_bid : GoodIn wsL_bid (wsV RL 38 RX3 yX3_bid wsX3_bid) := goodIn_app (goodIn_of _ (by decide +kernel)) ggL_bid_X3_bid
set_option maxRecDepth 20000 in
theorem ggL_cancelSale_X3_cancelSale : GoodIn wsL_cancelSale wsX3_cancelSale := goodIn_ca (goodIn_ca (goodIn_r _ [7, 8, 9, 10, 11, 12, 13, 14, 6, 15, 16, 17, 18, 19, 20, 21, 22, 23, 24, 25, 26, 27, 28, 29, 30, 31, 32, 33, 34, 35, 36, 37, 38, 39, 40, 41, 42, 43, 44, 45, 46] (by decide +kernel) (by decide +kernel)) (goodIn_sub (fun _ h => List.mem_cons_of_mem _ (List.mem_append_left _ (List.mem_append_right _ h))) (by decide +kernel))) (goodIn_sub (fun _ h => List.mem_cons_of_mem _ (List.mem_append_right _ h)) (by decide +kernel))
set_option maxRecDepth 20000 in
theorem gL_cancelSale_X3_cancelSale : GoodIn wsL_cancelSale (wsV RL 42 RX3 yX3_cancelSale wsX3_cancelSale) := goodIn_app (goodIn_of _ (by decide +kernel)) ggL_cancelSale_X3_cancelSale
set_option maxRecDepth 20000 in
theorem ggL_cancelBid_X3_cancelBid : GoodIn wsL_cancelBid wsX3_cancelBid := goodIn_ca (goodIn_ca (goodIn_r _ [7, 8, 9, 10, 11, 12, 6, 13, 14, 15, 16, 17, 18, 19, 20, 21, 22, 23, 24, 25, 26, 27, 28, 29, 30, 31, 32, 33, 34, 35, 36, 37, 38, 39, 40, 41, 42, 43] (by decide +kernel) (by decide +kernel)) (goodIn_sub (fun _ h => List.mem_cons_of_mem _ (List.mem_append_left _ (List.mem_append_right _ h))) (by decide +kernel))) (goodIn_sub (fun _ h => List.mem_cons_of_mem _ (List.mem_append_right _ h)) (by decide +kernel))
set_option maxRecDepth 20000 in
theorem gL_cancelBid_X3_cancelBid : GoodIn wsL_cancelBid (wsV RL 45 RX3 yX3_cancelBid wsX3_cancelBid) := goodIn_app (goodIn_of _ (by decide +kernel)) ggL_cancelBid_X3_cancelBid
set_option maxRecDepth 20000 in
theorem ggL_leastSale_X3_leastSale : GoodIn wsL_leastSale wsX3_leastSale := goodIn_ca (goodIn_r _ [6, 7, 8, 9, 10, 5, 11, 12, 13, 14, 15, 16, 17, 18, 19, 20, 21, 22, 23, 24, 25, 26, 27, 28, 29, 30, 31, 32, 33, 34, 35, 36, 37, 38, 39, 40, 41, 42, 43, 44, 45, 46, 47, 48, 49] (by decide +kernel) (by decide +kernel)) (goodIn_sub (fun _ h => List.mem_cons_of_mem _ (List.mem_append_right _ h)) (by decide +kernel))
set_option maxRecDepth 20000 in
theorem gL_leastSale_X3_leastSale : GoodIn wsL_leastSale (wsV RL 48 RX3 yX3_leastSale wsX3_leastSale) := goodIn_app (goodIn_of _ (by decide +kernel)) ggL_leastSale_X3_leastSale
set_option maxRecDepth 20000 in
theorem ggL_greatestBid_X3_greatestBid : GoodIn wsL_greatestBid wsX3_greatestBid := goodIn_ca (goodIn_r _ [6, 7, 8, 9, 10, 5, 11, 12, 13, 14, 15, 16, 17, 18, 19, 20, 21, 22, 23, 24, 25, 26, 27, 28, 29, 30, 31, 32, 33, 34, 35, 36, 37, 38] (by decide +kernel) (by decide +kernel)) (goodIn_sub (fun _ h => List.mem_cons_of_mem _ (List.mem_append_right _ h)) (by decide +kernel))
set_option maxRecDepth 20000 in
theorem gL_greatestBid_X3_greatestBid : GoodIn wsL_greatestBid (wsV RL 51 RX3 yX3_greatestBid wsX3_greatestBid) := goodIn_app (goodIn_of _ (by decide +kernel)) ggL_greatestBid_X3_greatestBid
set_option maxRecDepth 20000 in
theorem ggL_swap_X3_swap : GoodIn wsL_swap wsX3_swap := goodIn_ca (goodIn_ca (goodIn_ca (goodIn_r _ [8, 9, 10, 11, 12, 13, 14, 15, 16, 17, 18, 19, 7, 20, 21, 22, 23, 24, 25, 26, 27, 28, 29, 30, 31, 32, 33, 34, 35, 36, 37, 38, 39, 40, 41, 42, 43, 44, 45] (by decide +kernel) (by decide +kernel)) (goodIn_sub (fun _ h => List.mem_cons_of_mem _ (List.mem_append_left _ (List.mem_append_left _ (List.mem_append_right _ h)))) (by decide +kernel))) (goodIn_sub (fun _ h => List.mem_cons_of_mem _ (List.mem_append_left _ (List.mem_append_right _ h))) (by decide +kernel))) (goodIn_sub (fun _ h => List.mem_cons_of_mem _ (List.mem_append_right _ h)) (by decide +kernel))
set_option maxRecDepth 20000 in
theorem gL_swap_X3_swap : GoodIn wsL_swap (wsV RL 54 RX3 yX3_swap wsX3_swap) := goodIn_app (goodIn_of _ (by decide +kernel)) ggL_swap_X3_swap
set_option maxRecDepth 20000 in
theorem ggL_agree_X3_agree : GoodIn wsL_agree wsX3_agree := goodIn_ca (goodIn_ca (goodIn_r _ [7, 8, 9, 10, 11, 12, 13, 14, 15, 6, 16, 17, 18, 19, 20, 21, 22, 23, 24, 25, 26, 27, 28, 29, 30, 31, 32, 33, 34, 35, 36, 37, 38, 39, 40, 41, 42, 43, 44, 45, 46, 47, 48, 49, 50, 51, 52, 53, 54, 55, 56, 57, 58, 59, 60, 61, 62, 63, 64, 65, 66] (by decide +kernel) (by decide +kernel)) (goodIn_sub (fun _ h => List.mem_cons_of_mem _ (List.mem_append_left _ (List.mem_append_right _ h))) (by decide +kernel))) (goodIn_sub (fun _ h => List.mem_cons_of_mem _ (List.mem_append_right _ h)) (by decide +kernel))
set_option maxRecDepth 20000 in
theorem gL_agree_X3_agree : GoodIn wsL_agree (wsV RL 58 RX3 yX3_agree wsX3_agree) := goodIn_app (goodIn_of _ (by decide +kernel)) ggL_agree_X3_agree
set_option maxRecDepth 20000 in
theorem ggL_cancelSwap_X3_cancelSwap : GoodIn wsL_cancelSwap wsX3_cancelSwap := goodIn_ca (goodIn_ca (goodIn_r _ [7, 8, 9, 10, 11, 12, 13, 14, 6, 15, 16, 17, 18, 19, 20, 21, 22, 23, 24, 25, 26, 27, 28, 29, 30, 31, 32, 33, 34, 35, 36, 37, 38, 39, 40] (by decide +kernel) (by decide +kernel)) (goodIn_sub (fun _ h => List.mem_cons_of_mem _ (List.mem_append_left _ (List.mem_append_right _ h))) (by decide +kernel))) (goodIn_sub (fun _ h => List.mem_cons_of_mem _ (List.mem_append_right _ h)) (by decide +kernel))
set_option maxRecDepth 20000 in
theorem gL_cancelSwap_X3_cancelSwap : GoodIn wsL_cancelSwap (wsV RL 61 RX3 yX3_cancelSwap wsX3_cancelSwap) := goodIn_app (goodIn_of _ (by decide +kernel)) ggL_cancelSwap_X3_cancelSwap
set_option maxRecDepth 20000 in
theorem ggL_lend_X3_lend : GoodIn wsL_lend wsX3_lend := goodIn_ca (goodIn_ca (goodIn_ca (goodIn_r _ [8, 9, 10, 11, 12, 13, 14, 15, 16, 17, 18, 19, 7, 20, 21, 22, 23, 24, 25, 26, 27, 28, 29, 30, 31, 32, 33, 34, 35, 36, 37, 38, 39, 40, 41, 42, 43, 44, 45, 46, 47, 48, 49, 50, 51, 52, 53, 54, 55] (by decide +kernel) (by decide +kernel)) (goodIn_sub (fun _ h => List.mem_cons_of_mem _ (List.mem_append_left _ (List.mem_append_left _ (List.mem_append_right _ h)))) (by decide +kernel))) (goodIn_sub (fun _ h => List.mem_cons_of_mem _ (List.mem_append_left _ (List.mem_append_right _ h))) (by decide +kernel))) (goodIn_sub (fun _ h => List.mem_cons_of_mem _ (List.mem_append_right _ h)) (by decide +kernel))
set_option maxRecDepth 20000 in
theorem gL_lend_X3_lend : GoodIn wsL_lend (wsV RL 65 RX3 yX3_lend wsX3_lend) := goodIn_app (goodIn_of _ (by decide +kernel)) ggL_lend_X3_lend
set_option maxRecDepth 20000 in
theorem ggL_ban_X3_ban : GoodIn wsL_ban wsX3_ban := goodIn_ca (goodIn_ca (goodIn_r _ [7, 8, 9, 10, 11, 12, 13, 6, 14, 15, 16, 17, 18, 19, 20, 21, 22, 23, 24, 25, 26, 27, 28, 29, 30, 31, 32, 33, 34, 35, 36, 37, 38, 39, 40, 41, 42, 43, 44, 45, 46, 47, 48, 49, 50, 51, 52, 53, 54, 55, 56, 57, 58, 59, 60, 61, 62, 63, 64, 65, 66, 67, 68, 69, 70, 71, 72, 73, 74, 75, 76, 77] (by decide +kernel) (by decide +kernel)) (goodIn_sub (fun _ h => List.mem_cons_of_mem _ (List.mem_append_left _ (List.mem_append_right _ h))) (by decide +kernel))) (goodIn_sub (fun _ h => List.mem_cons_of_mem _ (List.mem_append_right _ h)) (by decide +kernel))
set_option maxRecDepth 20000 in
theorem gL_ban_X3_ban : GoodIn wsL_ban (wsV RL 68 RX3 yX3_ban wsX3_ban) := goodIn_app (goodIn_of _ (by decide +kernel)) ggL_ban_X3_ban
set_option maxRecDepth 20000 in
theorem ggL_lift_X3_lift : GoodIn wsL_lift wsX3_lift := goodIn_ca (goodIn_r _ [6, 7, 8, 9, 5, 10, 11, 12, 13, 14, 15, 16, 17, 18, 19, 20] (by decide +kernel) (by decide +kernel)) (goodIn_sub (fun _ h => List.mem_cons_of_mem _ (List.mem_append_right _ h)) (by decide +kernel))
set_option maxRecDepth 20000 in
theorem gL_lift_X3_lift : GoodIn wsL_lift (wsV RL 71 RX3 yX3_lift wsX3_lift) := goodIn_app (goodIn_of _ (by decide +kernel)) ggL_lift_X3_lift
set_option maxRecDepth 20000 in
theorem ggL_isBanned_X3_isBanned : GoodIn wsL_isBanned wsX3_isBanned := goodIn_ca (goodIn_r _ [6, 7, 8, 5, 9, 10, 11, 12, 13, 14, 15, 16, 17, 18, 19, 20, 21, 22, 23, 24, 25] (by decide +kernel) (by decide +kernel)) (goodIn_sub (fun _ h => List.mem_cons_of_mem _ (List.mem_append_right _ h)) (by decide +kernel))
set_option maxRecDepth 20000 in
theorem gL_isBanned_X3_isBanned : GoodIn wsL_isBanned (wsV RL 75 RX3 yX3_isBanned wsX3_isBanned) := goodIn_app (goodIn_of _ (by decide +kernel)) ggL_isBanned_X3_isBanned
set_option maxRecDepth 20000 in
theorem ggL_pass_X3_pass : GoodIn wsL_pass wsX3_pass := goodIn_ca (goodIn_r _ [6, 7, 8, 9, 10, 11, 12, 13, 14, 15, 16, 17, 18, 19, 20, 21, 5, 22, 23, 24, 25, 26, 27, 28, 29, 30, 31, 32, 33, 34, 35, 36, 37, 38, 39, 40, 41, 42, 43, 44, 45, 46, 47, 48, 49, 50, 51, 52, 53, 54, 55, 56, 57, 58, 59, 60, 61, 62, 63, 64, 65, 66, 67, 68, 69, 70, 71, 72, 73, 74, 75, 76] (by decide +kernel) (by decide +kernel)) (goodIn_sub (fun _ h => List.mem_cons_of_mem _ (List.mem_append_right _ h)) (by decide +kernel))
set_option maxRecDepth 20000 in
theorem gL_pass_X3_pass : GoodIn wsL_pass (wsV RL 78 RX3 yX3_pass wsX3_pass) := goodIn_app (goodIn_of _ (by decide +kernel)) ggL_pass_X3_pass
set_option maxRecDepth 20000 in
theorem ggL_toggleDeck_X3_toggleDeck : GoodIn wsL_toggleDeck wsX3_toggleDeck := goodIn_ca (goodIn_r _ [6, 7, 8, 9, 5, 10, 11, 12, 13, 14, 15, 16, 17, 18, 19, 20, 21, 22, 23, 24, 25, 26, 27, 28, 29, 30, 31, 32, 33, 34, 35, 36, 37, 38, 39, 40, 41, 42, 43, 44, 45, 46, 47] (by decide +kernel) (by decide +kernel)) (goodIn_sub (fun _ h => List.mem_cons_of_mem _ (List.mem_append_right _ h)) (by decide +kernel))
set_option maxRecDepth 20000 in
theorem gL_toggleDeck_X3_toggleDeck : GoodIn wsL_toggleDeck (wsV RL 81 RX3 yX3_toggleDeck wsX3_toggleDeck) := goodIn_app (goodIn_of _ (by decide +kernel)) ggL_toggleDeck_X3_toggleDeck
set_option maxRecDepth 20000 in
theorem ggL_isRight_X3_isRight : GoodIn wsL_isRight wsX3_isRight := goodIn_ca (goodIn_r _ [6, 7, 8, 5, 9, 10, 11, 12, 13, 14, 15, 16, 17, 18, 19, 20, 21, 22, 23, 24, 25, 26, 27, 28, 29, 30, 31, 32, 33, 34, 35, 36, 37, 38, 39, 40, 41, 42, 43, 44, 45, 46, 47, 48, 49, 50, 51, 52, 53, 54, 55, 56, 57, 58, 59, 60, 61, 62, 63, 64, 65, 66] (by decide +kernel) (by decide +kernel)) (goodIn_sub (fun _ h => List.mem_cons_of_mem _ (List.mem_append_right _ h)) (by decide +kernel))
set_option maxRecDepth 20000 in
theorem gL_isRight_X3_isRight : GoodIn wsL_isRight (wsV RL 84 RX3 yX3_isRight wsX3_isRight) := goodIn_app (goodIn_of _ (by decide +kernel)) ggL_isRight_X3_isRight
set_option maxRecDepth 20000 in
theorem ggL_strength_X3_strength : GoodIn wsL_strength wsX3_strength := goodIn_ca (goodIn_r _ [6, 7, 8, 5, 9, 10, 11, 12, 13, 14, 15, 16, 17, 18, 19, 20, 21, 22, 23, 24, 25, 26, 27, 28, 29, 30, 31, 32, 33, 34, 35, 36, 37, 38, 39, 40] (by decide +kernel) (by decide +kernel)) (goodIn_sub (fun _ h => List.mem_cons_of_mem _ (List.mem_append_right _ h)) (by decide +kernel))
set_option maxRecDepth 20000 in
theorem gL_strength_X3_strength : GoodIn wsL_strength (wsV RL 87 RX3 yX3_strength wsX3_strength) := goodIn_app (goodIn_of _ (by decide +kernel)) ggL_strength_X3_strength
set_option maxRecDepth 20000 in
theorem ggL_play_X3_play : GoodIn wsL_play wsX3_play := goodIn_ca (goodIn_ca (goodIn_ca (goodIn_r _ [8, 9, 10, 11, 12, 13, 14, 15, 7, 16, 17, 18, 19, 20, 21, 22, 23, 24, 25, 26, 27, 28, 29, 30, 31, 32, 33, 34, 35, 36, 37, 38, 39, 40, 41, 42, 43, 44, 45, 46, 47, 48, 49, 50, 51, 52, 53, 54, 55, 56, 57, 58, 59, 60, 61, 62, 63, 64, 65, 66, 67, 68, 69, 70, 71, 72, 73, 74, 75, 76, 77] (by decide +kernel) (by decide +kernel)) (goodIn_sub (fun _ h => List.mem_cons_of_mem _ (List.mem_append_left _ (List.mem_append_left _ (List.mem_append_right _ h)))) (by decide +kernel))) (goodIn_sub (fun _ h => List.mem_cons_of_mem _ (List.mem_append_left _ (List.mem_append_right _ h))) (by decide +kernel))) (goodIn_sub (fun _ h => List.mem_cons_of_mem _ (List.mem_append_right _ h)) (by decide +kernel))
set_option maxRecDepth 20000 in
theorem gL_play_X3_play : GoodIn wsL_play (wsV RL 90 RX3 yX3_play wsX3_play) := goodIn_app (goodIn_of _ (by decide +kernel)) ggL_play_X3_play
set_option maxRecDepth 20000 in
theorem ggL_law_X3_init : GoodIn wsL_law wsX3_init := goodIn_r _ [9, 10, 11, 12, 13, 14, 15, 16, 17, 18, 19, 20, 21, 22, 23, 24, 25, 26, 27, 28, 29, 30, 31, 32, 33, 34, 35, 36, 37, 38, 39, 40, 41, 42, 43, 44, 45, 46, 47, 48, 49, 50, 51, 52, 53, 54, 55, 56, 57, 58, 584, 585, 586, 587, 588, 589, 590, 591, 592, 559, 560, 561, 562, 563, 564, 565, 566, 593, 594, 595, 596, 597] (by decide +kernel) (by decide +kernel)
set_option maxRecDepth 20000 in
theorem gL_law_X3_init : GoodIn wsL_law (wsX3_init) := ggL_law_X3_init
set_option maxRecDepth 20000 in
theorem ggL_law_X4_init : GoodIn wsL_law wsX4_init := goodIn_r _ [61, 62, 11, 12, 25, 63, 64, 65, 66, 67, 68, 69, 70, 71, 72, 73, 74, 75, 76, 567, 568, 569, 570, 571, 572, 573, 574, 575, 576, 577, 578, 579, 580, 581, 582, 583] (by decide +kernel) (by decide +kernel)
set_option maxRecDepth 20000 in
theorem gL_law_X4_init : GoodIn wsL_law (wsX4_init) := ggL_law_X4_init
set_option maxRecDepth 20000 in
theorem ggL_law_L_mint : GoodIn wsL_law wsL_mint := goodIn_ca (goodIn_ca (goodIn_r _ [80, 81, 82, 83, 84, 85, 2, 86, 87, 88, 16, 24, 89, 90, 91, 92, 93, 94, 95, 96, 97, 98, 99, 15, 100, 42, 101, 102, 103, 104, 34, 35, 36, 105, 106, 107, 23, 108, 54, 52, 53, 559, 560, 561, 562, 563, 564, 565, 566, 584, 585, 586, 587, 588, 589, 590, 591, 592, 595, 596, 597] (by decide +kernel) (by decide +kernel)) (goodIn_sub (fun _ h => List.mem_append_left _ (List.mem_append_left _ (List.mem_append_right _ h))) (by decide +kernel))) (goodIn_sub (fun _ h => List.mem_append_left _ (List.mem_append_right _ h)) (by decide +kernel))
set_option maxRecDepth 20000 in
theorem gL_law_L_mint : GoodIn wsL_law (va_wsS RL 97 yL_mint wsL_mint) := goodIn_app (goodIn_of _ (by decide +kernel)) ggL_law_L_mint
set_option maxRecDepth 20000 in
theorem ggL_law_X4_mint : GoodIn wsL_law wsX4_mint := goodIn_r _ [112, 113, 64, 65, 66, 114, 115, 5, 116, 117, 118, 119, 120, 121, 122, 123, 124, 125, 126, 127, 567, 568, 569, 570, 571, 572, 573, 574, 575, 576, 577, 578, 579, 580, 581, 582, 583] (by decide +kernel) (by decide +kernel)
set_option maxRecDepth 20000 in
theorem gL_law_X4_mint : GoodIn wsL_law (wsV RL 102 RX4 yX4_mint wsX4_mint) := goodIn_app (goodIn_of _ (by decide +kernel)) ggL_law_X4_mint
set_option maxRecDepth 20000 in
theorem ggL_law_X4_thrown : GoodIn wsL_law wsX4_thrown := goodIn_r _ [131, 127, 567, 568, 569, 570, 571, 572, 573, 574, 575, 576, 577, 578, 579, 580, 581, 582, 583] (by decide +kernel) (by decide +kernel)
set_option maxRecDepth 20000 in
theorem gL_law_X4_thrown : GoodIn wsL_law (wsV RL 103 RX4 yX4_thrown wsX4_thrown) := goodIn_app (goodIn_of _ (by decide +kernel)) ggL_law_X4_thrown
set_option maxRecDepth 20000 in
theorem ggL_law_L_owner : GoodIn wsL_law wsL_owner := goodIn_ca (goodIn_r _ [134, 81, 135, 136, 137, 2, 138, 16, 139, 140, 141, 142, 143, 92, 93, 144, 145, 146, 15, 147, 42, 559, 560, 561, 562, 563, 564, 565, 566, 584, 585, 586, 587, 588, 589, 590, 591, 592] (by decide +kernel) (by decide +kernel)) (goodIn_sub (fun _ h => List.mem_append_left _ (List.mem_append_right _ h)) (by decide +kernel))
set_option maxRecDepth 20000 in
theorem gL_law_L_owner : GoodIn wsL_law (va_wsS RL 107 yL_owner wsL_owner) := goodIn_app (goodIn_of _ (by decide +kernel)) ggL_law_L_owner
set_option maxRecDepth 20000 in
theorem ggL_law_X4_owner : GoodIn wsL_law wsX4_owner := goodIn_r _ [151, 65, 152, 153, 154, 5, 155, 113, 117, 118, 119, 156, 157, 158, 159, 127, 567, 568, 569, 570, 571, 572, 573, 574, 575, 576, 577, 578, 579, 580, 581, 582, 583] (by decide +kernel) (by decide +kernel)
set_option maxRecDepth 20000 in
theorem gL_law_X4_owner : GoodIn wsL_law (wsV RL 110 RX4 yX4_owner wsX4_owner) := goodIn_app (goodIn_of _ (by decide +kernel)) ggL_law_X4_owner
set_option maxRecDepth 20000 in
theorem ggL_law_L_ownerByHistory : GoodIn wsL_law wsL_ownerByHistory := goodIn_ca (goodIn_r _ [162, 81, 163, 164, 165, 2, 166, 24, 140, 141, 142, 143, 92, 93, 16, 144, 145, 146, 15, 147, 42, 167, 168, 169, 23, 170, 54, 52, 53, 559, 560, 561, 562, 563, 564, 565, 566, 584, 585, 586, 587, 588, 589, 590, 591, 592, 595, 596, 597] (by decide +kernel) (by decide +kernel)) (goodIn_sub (fun _ h => List.mem_append_left _ (List.mem_append_right _ h)) (by decide +kernel))
set_option maxRecDepth 20000 in
theorem gL_law_L_ownerByHistory : GoodIn wsL_law (va_wsS RL 111 yL_ownerByHistory wsL_ownerByHistory) := goodIn_app (goodIn_of _ (by decide +kernel)) ggL_law_L_ownerByHistory
set_option maxRecDepth 20000 in
theorem ggL_law_X4_ownerByHistory : GoodIn wsL_law wsX4_ownerByHistory := goodIn_r _ [174, 175, 149, 150, 5, 151, 65, 152, 153, 154, 155, 113, 117, 118, 119, 156, 157, 158, 159, 127, 567, 568, 569, 570, 571, 572, 573, 574, 575, 576, 577, 578, 579, 580, 581, 582, 583] (by decide +kernel) (by decide +kernel)
set_option maxRecDepth 20000 in
theorem gL_law_X4_ownerByHistory : GoodIn wsL_law (wsV RL 113 RX4 yX4_ownerByHistory wsX4_ownerByHistory) := goodIn_app (goodIn_of _ (by decide +kernel)) ggL_law_X4_ownerByHistory
set_option maxRecDepth 20000 in
theorem ggL_law_L_holder : GoodIn wsL_law wsL_holder := goodIn_ca (goodIn_r _ [178, 81, 179, 180, 181, 2, 182, 16, 140, 141, 142, 143, 92, 93, 144, 145, 146, 15, 147, 42, 183, 184, 185, 186, 36, 40, 35, 559, 560, 561, 562, 563, 564, 565, 566, 584, 585, 586, 587, 588, 589, 590, 591, 592] (by decide +kernel) (by decide +kernel)) (goodIn_sub (fun _ h => List.mem_append_left _ (List.mem_append_right _ h)) (by decide +kernel))
set_option maxRecDepth 20000 in
theorem gL_law_L_holder : GoodIn wsL_law (va_wsS RL 114 yL_holder wsL_holder) := goodIn_app (goodIn_of _ (by decide +kernel)) ggL_law_L_holder
set_option maxRecDepth 20000 in
theorem ggL_law_X4_holder : GoodIn wsL_law wsX4_holder := goodIn_r _ [190, 152, 153, 154, 5, 155, 113, 117, 118, 119, 156, 157, 158, 159, 127, 191, 192, 193, 194, 66, 70, 65, 567, 568, 569, 570, 571, 572, 573, 574, 575, 576, 577, 578, 579, 580, 581, 582, 583] (by decide +kernel) (by decide +kernel)
set_option maxRecDepth 20000 in
theorem gL_law_X4_holder : GoodIn wsL_law (wsV RL 116 RX4 yX4_holder wsX4_holder) := goodIn_app (goodIn_of _ (by decide +kernel)) ggL_law_X4_holder
set_option maxRecDepth 20000 in
theorem ggL_law_L_stateOf : GoodIn wsL_law wsL_stateOf := goodIn_ca (goodIn_r _ [197, 81, 198, 199, 200, 2, 201, 16, 202, 140, 141, 142, 143, 92, 93, 144, 145, 146, 15, 147, 42, 559, 560, 561, 562, 563, 564, 565, 566, 584, 585, 586, 587, 588, 589, 590, 591, 592] (by decide +kernel) (by decide +kernel)) (goodIn_sub (fun _ h => List.mem_append_left _ (List.mem_append_right _ h)) (by decide +kernel))
set_option maxRecDepth 20000 in
theorem gL_law_L_stateOf : GoodIn wsL_law (va_wsS RL 117 yL_stateOf wsL_stateOf) := goodIn_app (goodIn_of _ (by decide +kernel)) ggL_law_L_stateOf
set_option maxRecDepth 20000 in
theorem ggL_law_X4_stateOf : GoodIn wsL_law wsX4_stateOf := goodIn_r _ [206, 66, 152, 153, 154, 5, 155, 113, 117, 118, 119, 156, 157, 158, 159, 127, 567, 568, 569, 570, 571, 572, 573, 574, 575, 576, 577, 578, 579, 580, 581, 582, 583] (by decide +kernel) (by decide +kernel)
set_option maxRecDepth 20000 in
theorem gL_law_X4_stateOf : GoodIn wsL_law (wsV RL 119 RX4 yX4_stateOf wsX4_stateOf) := goodIn_app (goodIn_of _ (by decide +kernel)) ggL_law_X4_stateOf
set_option maxRecDepth 20000 in
theorem ggL_law_L_coins : GoodIn wsL_law wsL_coins := goodIn_ca (goodIn_r _ [209, 81, 210, 211, 212, 2, 213, 26, 89, 90, 91, 92, 93, 559, 560, 561, 562, 563, 564, 565, 566] (by decide +kernel) (by decide +kernel)) (goodIn_sub (fun _ h => List.mem_append_left _ (List.mem_append_right _ h)) (by decide +kernel))
set_option maxRecDepth 20000 in
theorem gL_law_L_coins : GoodIn wsL_law (va_wsS RL 120 yL_coins wsL_coins) := goodIn_app (goodIn_of _ (by decide +kernel)) ggL_law_L_coins
end
section
set_option maxRecDepth 20000 in
theorem ggL_law_X4_coins : GoodIn wsL_law wsX4_coins := goodIn_r _ [217, 63, 114, 115, 5, 116, 117, 118, 119, 156, 157, 158, 159, 127, 567, 568, 569, 570, 571, 572, 573, 574, 575, 576, 577, 578, 579, 580, 581, 582, 583] (by decide +kernel) (by decide +kernel)
set_option maxRecDepth 20000 in
theorem gL_law_X4_coins : GoodIn wsL_law (wsV RL 122 RX4 yX4_coins wsX4_coins) := goodIn_app (goodIn_of _ (by decide +kernel)) ggL_law_X4_coins
set_option maxRecDepth 20000 in
theorem ggL_law_L_sell : GoodIn wsL_law wsL_sell := goodIn_ca (goodIn_ca (goodIn_ca (goodIn_r _ [220, 81, 221, 82, 222, 223, 224, 2, 225, 87, 88, 16, 226, 202, 20, 139, 227, 29, 26, 140, 141, 142, 143, 92, 93, 144, 145, 146, 15, 147, 42, 228, 229, 230, 231, 232, 233, 234, 235, 236, 27, 30, 237, 238, 239, 19, 240, 241, 242, 243, 244, 47, 245, 246, 247, 248, 48, 249, 250, 251, 252, 36, 37, 38, 253, 254, 255, 256, 257, 258, 259, 260, 24, 105, 106, 107, 23, 108, 54, 52, 53, 559, 560, 561, 562, 563, 564, 565, 566, 584, 585, 586, 587, 588, 589, 590, 591, 592, 593, 594, 595, 596, 597] (by decide +kernel) (by decide +kernel)) (goodIn_sub (fun _ h => List.mem_append_left _ (List.mem_append_left _ (List.mem_append_right _ h))) (by decide +kernel))) (goodIn_sub (fun _ h => List.mem_append_left _ (List.mem_append_right _ h)) (by decide +kernel))) (goodIn_sub (fun _ h => List.mem_append_right _ h) (by decide +kernel))
set_option maxRecDepth 20000 in
theorem gL_law_L_sell : GoodIn wsL_law (va_wsS RL 123 yL_sell wsL_sell) := goodIn_app (goodIn_of _ (by decide +kernel)) ggL_law_L_sell
set_option maxRecDepth 20000 in
theorem ggL_law_X4_sell : GoodIn wsL_law wsX4_sell := goodIn_r _ [264, 66, 64, 265, 65, 72, 63, 67, 68, 152, 153, 154, 5, 155, 113, 117, 118, 119, 266, 267, 268, 269, 74, 270, 271, 272, 273, 274, 127, 275, 276, 277, 278, 73, 567, 568, 569, 570, 571, 572, 573, 574, 575, 576, 577, 578, 579, 580, 581, 582, 583] (by decide +kernel) (by decide +kernel)
set_option maxRecDepth 20000 in
theorem gL_law_X4_sell : GoodIn wsL_law (wsV RL 125 RX4 yX4_sell wsX4_sell) := goodIn_app (goodIn_of _ (by decide +kernel)) ggL_law_X4_sell
set_option maxRecDepth 20000 in
theorem ggL_law_L_bid : GoodIn wsL_law wsL_bid := goodIn_ca (goodIn_ca (goodIn_ca (goodIn_r _ [281, 81, 221, 82, 282, 283, 284, 2, 285, 87, 88, 26, 20, 16, 286, 29, 139, 89, 90, 91, 92, 93, 94, 95, 96, 228, 229, 230, 231, 232, 287, 242, 243, 19, 244, 47, 233, 234, 235, 236, 27, 30, 288, 289, 290, 15, 291, 42, 35, 292, 293, 294, 295, 36, 34, 296, 297, 298, 299, 37, 38, 300, 301, 302, 303, 48, 304, 305, 306, 307, 257, 258, 259, 260, 202, 24, 105, 106, 107, 23, 108, 54, 52, 53, 559, 560, 561, 562, 563, 564, 565, 566, 584, 585, 586, 587, 588, 589, 590, 591, 592, 593, 594, 595, 596, 597] (by decide +kernel) (by decide +kernel)) (goodIn_sub (fun _ h => List.mem_append_left _ (List.mem_append_left _ (List.mem_append_right _ h))) (by decide +kernel))) (goodIn_sub (fun _ h => List.mem_append_left _ (List.mem_append_right _ h)) (by decide +kernel))) (goodIn_sub (fun _ h => List.mem_append_right _ h) (by decide +kernel))
set_option maxRecDepth 20000 in
theorem gL_law_L_bid : GoodIn wsL_law (va_wsS RL 126 yL_bid wsL_bid) := goodIn_app (goodIn_of _ (by decide +kernel)) ggL_law_L_bid
set_option maxRecDepth 20000 in
theorem ggL_law_X4_bid : GoodIn wsL_law wsX4_bid := goodIn_r _ [311, 63, 72, 265, 67, 65, 66, 73, 114, 115, 5, 116, 117, 118, 119, 120, 121, 122, 266, 267, 268, 269, 74, 270, 271, 272, 273, 274, 127, 312, 313, 314, 315, 113, 64, 68, 567, 568, 569, 570, 571, 572, 573, 574, 575, 576, 577, 578, 579, 580, 581, 582, 583] (by decide +kernel) (by decide +kernel)
set_option maxRecDepth 20000 in
theorem gL_law_X4_bid : GoodIn wsL_law (wsV RL 129 RX4 yX4_bid wsX4_bid) := goodIn_app (goodIn_of _ (by decide +kernel)) ggL_law_X4_bid
set_option maxRecDepth 20000 in
theorem ggL_law_L_cancelSale : GoodIn wsL_law wsL_cancelSale := goodIn_ca (goodIn_ca (goodIn_r _ [318, 81, 82, 319, 320, 321, 2, 322, 87, 88, 16, 202, 140, 141, 142, 143, 92, 93, 144, 145, 146, 15, 147, 42, 304, 305, 306, 307, 36, 37, 559, 560, 561, 562, 563, 564, 565, 566, 584, 585, 586, 587, 588, 589, 590, 591, 592] (by decide +kernel) (by decide +kernel)) (goodIn_sub (fun _ h => List.mem_append_left _ (List.mem_append_left _ (List.mem_append_right _ h))) (by decide +kernel))) (goodIn_sub (fun _ h => List.mem_append_left _ (List.mem_append_right _ h)) (by decide +kernel))
set_option maxRecDepth 20000 in
theorem gL_law_L_cancelSale : GoodIn wsL_law (va_wsS RL 130 yL_cancelSale wsL_cancelSale) := goodIn_app (goodIn_of _ (by decide +kernel)) ggL_law_L_cancelSale
set_option maxRecDepth 20000 in
theorem ggL_law_X4_cancelSale : GoodIn wsL_law wsX4_cancelSale := goodIn_r _ [326, 66, 67, 152, 153, 154, 5, 155, 113, 117, 118, 119, 123, 124, 125, 126, 127, 567, 568, 569, 570, 571, 572, 573, 574, 575, 576, 577, 578, 579, 580, 581, 582, 583] (by decide +kernel) (by decide +kernel)
set_option maxRecDepth 20000 in
theorem gL_law_X4_cancelSale : GoodIn wsL_law (wsV RL 132 RX4 yX4_cancelSale wsX4_cancelSale) := goodIn_app (goodIn_of _ (by decide +kernel)) ggL_law_X4_cancelSale
set_option maxRecDepth 20000 in
theorem ggL_law_L_cancelBid : GoodIn wsL_law wsL_cancelBid := goodIn_ca (goodIn_ca (goodIn_r _ [329, 81, 82, 330, 331, 332, 2, 333, 87, 88, 20, 89, 90, 91, 92, 93, 94, 95, 96, 287, 242, 243, 19, 244, 47, 334, 335, 336, 337, 26, 253, 254, 255, 256, 559, 560, 561, 562, 563, 564, 565, 566, 593, 594] (by decide +kernel) (by decide +kernel)) (goodIn_sub (fun _ h => List.mem_append_left _ (List.mem_append_left _ (List.mem_append_right _ h))) (by decide +kernel))) (goodIn_sub (fun _ h => List.mem_append_left _ (List.mem_append_right _ h)) (by decide +kernel))
set_option maxRecDepth 20000 in
theorem gL_law_L_cancelBid : GoodIn wsL_law (va_wsS RL 133 yL_cancelBid wsL_cancelBid) := goodIn_app (goodIn_of _ (by decide +kernel)) ggL_law_L_cancelBid
set_option maxRecDepth 20000 in
theorem ggL_law_X4_cancelBid : GoodIn wsL_law wsX4_cancelBid := goodIn_r _ [341, 72, 63, 114, 115, 5, 116, 117, 118, 119, 120, 121, 122, 123, 124, 125, 126, 127, 567, 568, 569, 570, 571, 572, 573, 574, 575, 576, 577, 578, 579, 580, 581, 582, 583] (by decide +kernel) (by decide +kernel)
set_option maxRecDepth 20000 in
theorem gL_law_X4_cancelBid : GoodIn wsL_law (wsV RL 135 RX4 yX4_cancelBid wsX4_cancelBid) := goodIn_app (goodIn_of _ (by decide +kernel)) ggL_law_X4_cancelBid
set_option maxRecDepth 20000 in
theorem ggL_law_L_leastSale : GoodIn wsL_law wsL_leastSale := goodIn_ca (goodIn_r _ [344, 81, 345, 346, 347, 2, 348, 16, 286, 94, 95, 96, 92, 93, 288, 289, 290, 15, 291, 42, 35, 292, 293, 294, 295, 36, 34, 296, 297, 298, 299, 37, 38, 559, 560, 561, 562, 563, 564, 565, 566, 584, 585, 586, 587, 588, 589, 590, 591, 592] (by decide +kernel) (by decide +kernel)) (goodIn_sub (fun _ h => List.mem_append_left _ (List.mem_append_right _ h)) (by decide +kernel))
set_option maxRecDepth 20000 in
theorem gL_law_L_leastSale : GoodIn wsL_law (va_wsS RL 136 yL_leastSale wsL_leastSale) := goodIn_app (goodIn_of _ (by decide +kernel)) ggL_law_L_leastSale
set_option maxRecDepth 20000 in
theorem ggL_law_X4_leastSale : GoodIn wsL_law wsX4_leastSale := goodIn_r _ [352, 67, 120, 121, 5, 122, 117, 118, 119, 156, 157, 158, 159, 127, 312, 313, 314, 315, 113, 66, 64, 65, 68, 567, 568, 569, 570, 571, 572, 573, 574, 575, 576, 577, 578, 579, 580, 581, 582, 583] (by decide +kernel) (by decide +kernel)
set_option maxRecDepth 20000 in
theorem gL_law_X4_leastSale : GoodIn wsL_law (wsV RL 138 RX4 yX4_leastSale wsX4_leastSale) := goodIn_app (goodIn_of _ (by decide +kernel)) ggL_law_X4_leastSale
set_option maxRecDepth 20000 in
theorem ggL_law_L_greatestBid : GoodIn wsL_law wsL_greatestBid := goodIn_ca (goodIn_r _ [355, 81, 356, 357, 358, 2, 359, 20, 227, 94, 95, 96, 92, 93, 237, 238, 239, 19, 240, 241, 242, 243, 244, 47, 245, 246, 247, 248, 48, 559, 560, 561, 562, 563, 564, 565, 566, 593, 594] (by decide +kernel) (by decide +kernel)) (goodIn_sub (fun _ h => List.mem_append_left _ (List.mem_append_right _ h)) (by decide +kernel))
set_option maxRecDepth 20000 in
theorem gL_law_L_greatestBid : GoodIn wsL_law (va_wsS RL 139 yL_greatestBid wsL_greatestBid) := goodIn_app (goodIn_of _ (by decide +kernel)) ggL_law_L_greatestBid
set_option maxRecDepth 20000 in
theorem ggL_law_X4_greatestBid : GoodIn wsL_law wsX4_greatestBid := goodIn_r _ [363, 72, 120, 121, 5, 122, 117, 118, 119, 156, 157, 158, 159, 127, 275, 276, 277, 278, 73, 567, 568, 569, 570, 571, 572, 573, 574, 575, 576, 577, 578, 579, 580, 581, 582, 583] (by decide +kernel) (by decide +kernel)
set_option maxRecDepth 20000 in
theorem gL_law_X4_greatestBid : GoodIn wsL_law (wsV RL 141 RX4 yX4_greatestBid wsX4_greatestBid) := goodIn_app (goodIn_of _ (by decide +kernel)) ggL_law_X4_greatestBid
set_option maxRecDepth 20000 in
theorem ggL_law_L_swap : GoodIn wsL_law wsL_swap := goodIn_ca (goodIn_ca (goodIn_ca (goodIn_r _ [366, 81, 221, 82, 367, 368, 369, 2, 370, 231, 232, 87, 88, 16, 139, 202, 371, 140, 141, 142, 143, 92, 93, 144, 145, 146, 15, 147, 42, 559, 560, 561, 562, 563, 564, 565, 566, 584, 585, 586, 587, 588, 589, 590, 591, 592] (by decide +kernel) (by decide +kernel)) (goodIn_sub (fun _ h => List.mem_append_right _ h) (by decide +kernel))) (goodIn_sub (fun _ h => List.mem_append_left _ (List.mem_append_left _ (List.mem_append_right _ h))) (by decide +kernel))) (goodIn_sub (fun _ h => List.mem_append_left _ (List.mem_append_right _ h)) (by decide +kernel))
set_option maxRecDepth 20000 in
theorem gL_law_L_swap : GoodIn wsL_law (va_wsS RL 142 yL_swap wsL_swap) := goodIn_app (goodIn_of _ (by decide +kernel)) ggL_law_L_swap
set_option maxRecDepth 20000 in
theorem ggL_law_X4_swap : GoodIn wsL_law wsX4_swap := goodIn_r _ [375, 65, 66, 69, 152, 153, 154, 5, 155, 113, 117, 118, 119, 271, 272, 273, 274, 127, 567, 568, 569, 570, 571, 572, 573, 574, 575, 576, 577, 578, 579, 580, 581, 582, 583] (by decide +kernel) (by decide +kernel)
set_option maxRecDepth 20000 in
theorem gL_law_X4_swap : GoodIn wsL_law (wsV RL 145 RX4 yX4_swap wsX4_swap) := goodIn_app (goodIn_of _ (by decide +kernel)) ggL_law_X4_swap
set_option maxRecDepth 20000 in
theorem ggL_law_L_agree : GoodIn wsL_law wsL_agree := goodIn_ca (goodIn_ca (goodIn_r _ [378, 81, 82, 379, 380, 381, 2, 382, 87, 88, 16, 371, 139, 140, 141, 142, 143, 92, 93, 144, 145, 146, 15, 147, 42, 383, 384, 385, 386, 39, 36, 35, 387, 257, 258, 259, 260, 202, 24, 105, 106, 107, 23, 108, 54, 52, 53, 559, 560, 561, 562, 563, 564, 565, 566, 584, 585, 586, 587, 588, 589, 590, 591, 592, 595, 596, 597] (by decide +kernel) (by decide +kernel)) (goodIn_sub (fun _ h => List.mem_append_left _ (List.mem_append_left _ (List.mem_append_right _ h))) (by decide +kernel))) (goodIn_sub (fun _ h => List.mem_append_left _ (List.mem_append_right _ h)) (by decide +kernel))
set_option maxRecDepth 20000 in
theorem gL_law_L_agree : GoodIn wsL_law (va_wsS RL 146 yL_agree wsL_agree) := goodIn_app (goodIn_of _ (by decide +kernel)) ggL_law_L_agree
set_option maxRecDepth 20000 in
theorem ggL_law_X4_agree : GoodIn wsL_law wsX4_agree := goodIn_r _ [391, 66, 69, 65, 152, 153, 154, 5, 155, 113, 117, 118, 119, 123, 124, 125, 126, 127, 567, 568, 569, 570, 571, 572, 573, 574, 575, 576, 577, 578, 579, 580, 581, 582, 583] (by decide +kernel) (by decide +kernel)
set_option maxRecDepth 20000 in
theorem gL_law_X4_agree : GoodIn wsL_law (wsV RL 148 RX4 yX4_agree wsX4_agree) := goodIn_app (goodIn_of _ (by decide +kernel)) ggL_law_X4_agree
set_option maxRecDepth 20000 in
theorem ggL_law_L_cancelSwap : GoodIn wsL_law wsL_cancelSwap := goodIn_ca (goodIn_ca (goodIn_r _ [394, 81, 82, 395, 396, 397, 2, 398, 87, 88, 16, 202, 140, 141, 142, 143, 92, 93, 144, 145, 146, 15, 147, 42, 559, 560, 561, 562, 563, 564, 565, 566, 584, 585, 586, 587, 588, 589, 590, 591, 592] (by decide +kernel) (by decide +kernel)) (goodIn_sub (fun _ h => List.mem_append_left _ (List.mem_append_left _ (List.mem_append_right _ h))) (by decide +kernel))) (goodIn_sub (fun _ h => List.mem_append_left _ (List.mem_append_right _ h)) (by decide +kernel))
set_option maxRecDepth 20000 in
theorem gL_law_L_cancelSwap : GoodIn wsL_law (va_wsS RL 149 yL_cancelSwap wsL_cancelSwap) := goodIn_app (goodIn_of _ (by decide +kernel)) ggL_law_L_cancelSwap
set_option maxRecDepth 20000 in
theorem ggL_law_X4_cancelSwap : GoodIn wsL_law wsX4_cancelSwap := goodIn_r _ [402, 66, 152, 153, 154, 5, 155, 113, 117, 118, 119, 123, 124, 125, 126, 127, 567, 568, 569, 570, 571, 572, 573, 574, 575, 576, 577, 578, 579, 580, 581, 582, 583] (by decide +kernel) (by decide +kernel)
set_option maxRecDepth 20000 in
theorem gL_law_X4_cancelSwap : GoodIn wsL_law (wsV RL 152 RX4 yX4_cancelSwap wsX4_cancelSwap) := goodIn_app (goodIn_of _ (by decide +kernel)) ggL_law_X4_cancelSwap
set_option maxRecDepth 20000 in
theorem ggL_law_L_lend : GoodIn wsL_law wsL_lend := goodIn_ca (goodIn_ca (goodIn_ca (goodIn_r _ [405, 81, 221, 82, 406, 407, 408, 2, 409, 231, 232, 87, 88, 16, 139, 202, 30, 140, 141, 142, 143, 92, 93, 144, 145, 146, 15, 147, 42, 89, 90, 91, 410, 411, 412, 413, 36, 40, 41, 559, 560, 561, 562, 563, 564, 565, 566, 584, 585, 586, 587, 588, 589, 590, 591, 592] (by decide +kernel) (by decide +kernel)) (goodIn_sub (fun _ h => List.mem_append_right _ h) (by decide +kernel))) (goodIn_sub (fun _ h => List.mem_append_left _ (List.mem_append_left _ (List.mem_append_right _ h))) (by decide +kernel))) (goodIn_sub (fun _ h => List.mem_append_left _ (List.mem_append_right _ h)) (by decide +kernel))
set_option maxRecDepth 20000 in
theorem gL_law_L_lend : GoodIn wsL_law (va_wsS RL 153 yL_lend wsL_lend) := goodIn_app (goodIn_of _ (by decide +kernel)) ggL_law_L_lend
set_option maxRecDepth 20000 in
theorem ggL_law_X4_lend : GoodIn wsL_law wsX4_lend := goodIn_r _ [417, 65, 66, 70, 71, 270, 152, 153, 154, 5, 155, 113, 117, 118, 119, 114, 115, 116, 271, 272, 273, 274, 127, 567, 568, 569, 570, 571, 572, 573, 574, 575, 576, 577, 578, 579, 580, 581, 582, 583] (by decide +kernel) (by decide +kernel)
set_option maxRecDepth 20000 in
theorem gL_law_X4_lend : GoodIn wsL_law (wsV RL 155 RX4 yX4_lend wsX4_lend) := goodIn_app (goodIn_of _ (by decide +kernel)) ggL_law_X4_lend
set_option maxRecDepth 20000 in
theorem ggL_law_L_ban : GoodIn wsL_law wsL_ban := goodIn_ca (goodIn_ca (goodIn_r _ [420, 81, 221, 421, 422, 423, 2, 424, 231, 232, 30, 27, 94, 95, 96, 92, 93, 233, 234, 235, 236, 425, 426, 427, 428, 16, 20, 429, 430, 431, 15, 432, 42, 292, 293, 294, 295, 36, 34, 433, 305, 306, 307, 37, 287, 242, 243, 19, 244, 47, 334, 335, 336, 337, 26, 253, 254, 255, 256, 559, 560, 561, 562, 563, 564, 565, 566, 584, 585, 586, 587, 588, 589, 590, 591, 592, 593, 594] (by decide +kernel) (by decide +kernel)) (goodIn_sub (fun _ h => List.mem_append_right _ h) (by decide +kernel))) (goodIn_sub (fun _ h => List.mem_append_left _ (List.mem_append_right _ h)) (by decide +kernel))
set_option maxRecDepth 20000 in
theorem gL_law_L_ban : GoodIn wsL_law (va_wsS RL 156 yL_ban wsL_ban) := goodIn_app (goodIn_of _ (by decide +kernel)) ggL_law_L_ban
set_option maxRecDepth 20000 in
theorem ggL_law_X4_ban : GoodIn wsL_law wsX4_ban := goodIn_r _ [437, 270, 74, 120, 121, 5, 122, 117, 118, 119, 123, 124, 125, 126, 127, 266, 267, 268, 269, 438, 439, 440, 441, 113, 66, 64, 72, 63, 567, 568, 569, 570, 571, 572, 573, 574, 575, 576, 577, 578, 579, 580, 581, 582, 583] (by decide +kernel) (by decide +kernel)
set_option maxRecDepth 20000 in
theorem gL_law_X4_ban : GoodIn wsL_law (wsV RL 158 RX4 yX4_ban wsX4_ban) := goodIn_app (goodIn_of _ (by decide +kernel)) ggL_law_X4_ban
set_option maxRecDepth 20000 in
theorem ggL_law_L_lift : GoodIn wsL_law wsL_lift := goodIn_ca (goodIn_r _ [444, 81, 445, 446, 447, 2, 448, 27, 94, 95, 96, 92, 93, 559, 560, 561, 562, 563, 564, 565, 566] (by decide +kernel) (by decide +kernel)) (goodIn_sub (fun _ h => List.mem_append_left _ (List.mem_append_right _ h)) (by decide +kernel))
set_option maxRecDepth 20000 in
theorem gL_law_L_lift : GoodIn wsL_law (va_wsS RL 159 yL_lift wsL_lift) := goodIn_app (goodIn_of _ (by decide +kernel)) ggL_law_L_lift
set_option maxRecDepth 20000 in
theorem ggL_law_X4_lift : GoodIn wsL_law wsX4_lift := goodIn_r _ [452, 74, 76, 120, 121, 5, 122, 117, 118, 119, 156, 157, 158, 159, 127, 567, 568, 569, 570, 571, 572, 573, 574, 575, 576, 577, 578, 579, 580, 581, 582, 583] (by decide +kernel) (by decide +kernel)
set_option maxRecDepth 20000 in
theorem gL_law_X4_lift : GoodIn wsL_law (wsV RL 161 RX4 yX4_lift wsX4_lift) := goodIn_app (goodIn_of _ (by decide +kernel)) ggL_law_X4_lift
set_option maxRecDepth 20000 in
theorem ggL_law_L_isBanned : GoodIn wsL_law wsL_isBanned := goodIn_ca (goodIn_r _ [455, 81, 456, 457, 458, 2, 459, 94, 95, 96, 92, 93, 233, 234, 235, 236, 27, 30, 559, 560, 561, 562, 563, 564, 565, 566] (by decide +kernel) (by decide +kernel)) (goodIn_sub (fun _ h => List.mem_append_left _ (List.mem_append_right _ h)) (by decide +kernel))
set_option maxRecDepth 20000 in
theorem gL_law_L_isBanned : GoodIn wsL_law (va_wsS RL 162 yL_isBanned wsL_isBanned) := goodIn_app (goodIn_of _ (by decide +kernel)) ggL_law_L_isBanned
set_option maxRecDepth 20000 in
theorem ggL_law_X4_isBanned : GoodIn wsL_law wsX4_isBanned := goodIn_r _ [463, 120, 121, 5, 122, 117, 118, 119, 156, 157, 158, 159, 127, 266, 267, 268, 269, 74, 270, 567, 568, 569, 570, 571, 572, 573, 574, 575, 576, 577, 578, 579, 580, 581, 582, 583] (by decide +kernel) (by decide +kernel)
set_option maxRecDepth 20000 in
theorem gL_law_X4_isBanned : GoodIn wsL_law (wsV RL 164 RX4 yX4_isBanned wsX4_isBanned) := goodIn_app (goodIn_of _ (by decide +kernel)) ggL_law_X4_isBanned
set_option maxRecDepth 20000 in
theorem ggL_law_L_pass : GoodIn wsL_law wsL_pass := goodIn_ca (goodIn_r _ [466, 221, 467, 468, 469, 2, 470, 231, 232, 30, 16, 471, 472, 473, 15, 474, 42, 36, 41, 233, 234, 235, 236, 27, 425, 426, 427, 428, 20, 429, 430, 431, 432, 292, 293, 294, 295, 34, 433, 305, 306, 307, 37, 287, 242, 243, 19, 244, 47, 334, 335, 336, 337, 26, 253, 254, 255, 256, 559, 560, 561, 562, 563, 564, 565, 566, 584, 585, 586, 587, 588, 589, 590, 591, 592, 593, 594] (by decide +kernel) (by decide +kernel)) (goodIn_sub (fun _ h => List.mem_append_right _ h) (by decide +kernel))
set_option maxRecDepth 20000 in
theorem gL_law_L_pass : GoodIn wsL_law (va_wsS RL 165 yL_pass wsL_pass) := goodIn_app (goodIn_of _ (by decide +kernel)) ggL_law_L_pass
set_option maxRecDepth 20000 in
theorem ggL_law_X4_pass : GoodIn wsL_law wsX4_pass := goodIn_r _ [478, 270, 113, 66, 71, 117, 118, 5, 119, 156, 157, 158, 159, 127, 266, 267, 268, 269, 74, 438, 439, 440, 441, 64, 72, 63, 567, 568, 569, 570, 571, 572, 573, 574, 575, 576, 577, 578, 579, 580, 581, 582, 583] (by decide +kernel) (by decide +kernel)
set_option maxRecDepth 20000 in
theorem gL_law_X4_pass : GoodIn wsL_law (wsV RL 167 RX4 yX4_pass wsX4_pass) := goodIn_app (goodIn_of _ (by decide +kernel)) ggL_law_X4_pass
set_option maxRecDepth 20000 in
theorem ggL_law_L_toggleDeck : GoodIn wsL_law wsL_toggleDeck := goodIn_ca (goodIn_r _ [481, 81, 482, 483, 484, 2, 485, 28, 89, 90, 91, 92, 93, 140, 141, 142, 143, 16, 144, 145, 146, 15, 147, 42, 486, 487, 488, 489, 490, 491, 492, 559, 560, 561, 562, 563, 564, 565, 566, 584, 585, 586, 587, 588, 589, 590, 591, 592] (by decide +kernel) (by decide +kernel)) (goodIn_sub (fun _ h => List.mem_append_left _ (List.mem_append_right _ h)) (by decide +kernel))
set_option maxRecDepth 20000 in
theorem gL_law_L_toggleDeck : GoodIn wsL_law (va_wsS RL 168 yL_toggleDeck wsL_toggleDeck) := goodIn_app (goodIn_of _ (by decide +kernel)) ggL_law_L_toggleDeck
set_option maxRecDepth 20000 in
theorem ggL_law_X4_toggleDeck : GoodIn wsL_law wsX4_toggleDeck := goodIn_r _ [496, 75, 114, 115, 5, 116, 117, 118, 119, 152, 153, 154, 155, 113, 156, 157, 158, 159, 127, 497, 498, 499, 500, 567, 568, 569, 570, 571, 572, 573, 574, 575, 576, 577, 578, 579, 580, 581, 582, 583] (by decide +kernel) (by decide +kernel)
set_option maxRecDepth 20000 in
theorem gL_law_X4_toggleDeck : GoodIn wsL_law (wsV RL 170 RX4 yX4_toggleDeck wsX4_toggleDeck) := goodIn_app (goodIn_of _ (by decide +kernel)) ggL_law_X4_toggleDeck
set_option maxRecDepth 20000 in
theorem ggL_law_L_isRight : GoodIn wsL_law wsL_isRight := goodIn_ca (goodIn_r _ [503, 81, 504, 505, 506, 2, 507, 89, 90, 91, 92, 93, 508, 509, 510, 511, 28, 16, 512, 486, 487, 488, 489, 490, 491, 492, 513, 514, 515, 516, 517, 518, 519, 520, 202, 226, 183, 184, 185, 15, 186, 36, 40, 35, 233, 234, 235, 236, 27, 30, 559, 560, 561, 562, 563, 564, 565, 566, 584, 585, 586, 587, 588, 589, 590, 591, 592] (by decide +kernel) (by decide +kernel)) (goodIn_sub (fun _ h => List.mem_append_left _ (List.mem_append_right _ h)) (by decide +kernel))
set_option maxRecDepth 20000 in
theorem gL_law_L_isRight : GoodIn wsL_law (va_wsS RL 171 yL_isRight wsL_isRight) := goodIn_app (goodIn_of _ (by decide +kernel)) ggL_law_L_isRight
set_option maxRecDepth 20000 in
theorem ggL_law_X4_isRight : GoodIn wsL_law wsX4_isRight := goodIn_r _ [524, 114, 115, 5, 116, 117, 118, 119, 156, 157, 158, 159, 127, 525, 526, 527, 528, 113, 75, 66, 64, 497, 498, 499, 500, 191, 192, 193, 194, 70, 65, 266, 267, 268, 269, 74, 270, 567, 568, 569, 570, 571, 572, 573, 574, 575, 576, 577, 578, 579, 580, 581, 582, 583] (by decide +kernel) (by decide +kernel)
set_option maxRecDepth 20000 in
theorem gL_law_X4_isRight : GoodIn wsL_law (wsV RL 173 RX4 yX4_isRight wsX4_isRight) := goodIn_app (goodIn_of _ (by decide +kernel)) ggL_law_X4_isRight
set_option maxRecDepth 20000 in
theorem ggL_law_L_strength : GoodIn wsL_law wsL_strength := goodIn_ca (goodIn_r _ [531, 81, 532, 533, 534, 2, 535, 89, 90, 91, 92, 93, 536, 537, 538, 539, 16, 512, 226, 513, 514, 515, 516, 28, 559, 560, 561, 562, 563, 564, 565, 566, 584, 585, 586, 587, 588, 589, 590, 591, 592] (by decide +kernel) (by decide +kernel)) (goodIn_sub (fun _ h => List.mem_append_left _ (List.mem_append_right _ h)) (by decide +kernel))
set_option maxRecDepth 20000 in
theorem gL_law_L_strength : GoodIn wsL_law (va_wsS RL 174 yL_strength wsL_strength) := goodIn_app (goodIn_of _ (by decide +kernel)) ggL_law_L_strength
set_option maxRecDepth 20000 in
theorem ggL_law_X4_strength : GoodIn wsL_law wsX4_strength := goodIn_r _ [543, 114, 115, 5, 116, 117, 118, 119, 156, 157, 158, 159, 127, 544, 545, 546, 547, 113, 75, 64, 567, 568, 569, 570, 571, 572, 573, 574, 575, 576, 577, 578, 579, 580, 581, 582, 583] (by decide +kernel) (by decide +kernel)
set_option maxRecDepth 20000 in
theorem gL_law_X4_strength : GoodIn wsL_law (wsV RL 176 RX4 yX4_strength wsX4_strength) := goodIn_app (goodIn_of _ (by decide +kernel)) ggL_law_X4_strength
set_option maxRecDepth 20000 in
theorem ggL_law_L_play : GoodIn wsL_law wsL_play := goodIn_ca (goodIn_ca (goodIn_ca (goodIn_r _ [550, 81, 221, 82, 551, 552, 553, 2, 554, 231, 232, 87, 88, 26, 89, 90, 91, 92, 93, 508, 509, 510, 511, 28, 16, 512, 486, 487, 488, 489, 490, 491, 492, 513, 514, 515, 516, 517, 518, 519, 520, 202, 226, 183, 184, 185, 15, 186, 36, 40, 35, 233, 234, 235, 236, 27, 30, 536, 537, 538, 539, 559, 560, 561, 562, 563, 564, 565, 566, 584, 585, 586, 587, 588, 589, 590, 591, 592] (by decide +kernel) (by decide +kernel)) (goodIn_sub (fun _ h => List.mem_append_right _ h) (by decide +kernel))) (goodIn_sub (fun _ h => List.mem_append_left _ (List.mem_append_left _ (List.mem_append_right _ h))) (by decide +kernel))) (goodIn_sub (fun _ h => List.mem_append_left _ (List.mem_append_right _ h)) (by decide +kernel))
set_option maxRecDepth 20000 in
theorem gL_law_L_play : GoodIn wsL_law (va_wsS RL 177 yL_play wsL_play) := goodIn_app (goodIn_of _ (by decide +kernel)) ggL_law_L_play
set_option maxRecDepth 20000 in
theorem ggL_law_X4_play : GoodIn wsL_law wsX4_play := goodIn_r _ [558, 63, 114, 115, 5, 116, 117, 118, 119, 525, 526, 527, 528, 113, 75, 66, 64, 497, 498, 499, 500, 191, 192, 193, 194, 70, 65, 266, 267, 268, 269, 74, 270, 271, 272, 273, 274, 127, 544, 545, 546, 547, 567, 568, 569, 570, 571, 572, 573, 574, 575, 576, 577, 578, 579, 580, 581, 582, 583] (by decide +kernel) (by decide +kernel)
set_option maxRecDepth 20000 in
theorem gL_law_X4_play : GoodIn wsL_law (wsV RL 179 RX4 yX4_play wsX4_play) := goodIn_app (goodIn_of _ (by decide +kernel)) ggL_law_X4_play
end
section
set_option maxRecDepth 20000 in
theorem wsL_law_in0_r1 : ∀ w ∈ wsL_law0_r1, w ∈ lw_tbl := fun w h => (goodIn_p wsL_law0_r1 [40, 43] (by decide +kernel) (by decide +kernel) w h).1
set_option maxRecDepth 20000 in
theorem wsL_law_in0_r2 : ∀ w ∈ wsL_law0_r2, w ∈ lw_tbl := fun w h => (goodIn_p wsL_law0_r2 [48, 89] (by decide +kernel) (by decide +kernel) w h).1
set_option maxRecDepth 20000 in
theorem wsL_law_in0_r3 : ∀ w ∈ wsL_law0_r3, w ∈ lw_tbl := fun w h => (goodIn_p wsL_law0_r3 [105, 119, 569] (by decide +kernel) (by decide +kernel) w h).1
set_option maxRecDepth 20000 in
theorem wsL_law_in0_r4 : ∀ w ∈ wsL_law0_r4, w ∈ lw_tbl := fun w h => (goodIn_p wsL_law0_r4 [153, 156] (by decide +kernel) (by decide +kernel) w h).1
set_option maxRecDepth 20000 in
theorem wsL_law_in0_r5 : ∀ w ∈ wsL_law0_r5, w ∈ lw_tbl := fun w h => (goodIn_p wsL_law0_r5 [227, 232, 252, 256, 631, 634, 637] (by decide +kernel) (by decide +kernel) w h).1
set_option maxRecDepth 20000 in
theorem wsL_law_in0_r6 : ∀ w ∈ wsL_law0_r6, w ∈ lw_tbl := fun w h => (goodIn_p wsL_law0_r6 [640, 644, 627, 263, 267] (by decide +kernel) (by decide +kernel) w h).1
set_option maxRecDepth 20000 in
theorem wsL_law_in0_r7 : ∀ w ∈ wsL_law0_r7, w ∈ lw_tbl := fun w h => (goodIn_p wsL_law0_r7 [271, 648, 652, 656, 279] (by decide +kernel) (by decide +kernel) w h).1
set_option maxRecDepth 20000 in
theorem wsL_law_in0_r8 : ∀ w ∈ wsL_law0_r8, w ∈ lw_tbl := fun w h => (goodIn_p wsL_law0_r8 [283, 660, 290, 294, 665] (by decide +kernel) (by decide +kernel) w h).1
set_option maxRecDepth 20000 in
theorem wsL_law_in0_r9 : ∀ w ∈ wsL_law0_r9, w ∈ lw_tbl := fun w h => (goodIn_p wsL_law0_r9 [669, 301, 673, 308] (by decide +kernel) (by decide +kernel) w h).1
set_option maxRecDepth 20000 in
theorem wsL_law_in0_r10 : ∀ w ∈ wsL_law0_r10, w ∈ lw_tbl := fun w h => (goodIn_p wsL_law0_r10 [677, 316, 319, 339] (by decide +kernel) (by decide +kernel) w h).1
set_option maxRecDepth 20000 in
theorem wsL_law_in0_r11 : ∀ w ∈ wsL_law0_r11, w ∈ lw_tbl := fun w h => (goodIn_p wsL_law0_r11 [344, 348, 352, 356, 360, 364] (by decide +kernel) (by decide +kernel) w h).1
set_option maxRecDepth 20000 in
theorem wsL_law_in0_r12 : ∀ w ∈ wsL_law0_r12, w ∈ lw_tbl := fun w h => (goodIn_p wsL_law0_r12 [681, 685, 689, 693, 371] (by decide +kernel) (by decide +kernel) w h).1
end
section
set_option maxRecDepth 20000 in
theorem wsL_law_in0_r13 : ∀ w ∈ wsL_law0_r13, w ∈ lw_tbl := fun w h => (goodIn_p wsL_law0_r13 [377, 381, 385, 389, 393, 697] (by decide +kernel) (by decide +kernel) w h).1
set_option maxRecDepth 20000 in
theorem wsL_law_in0_r14 : ∀ w ∈ wsL_law0_r14, w ∈ lw_tbl := fun w h => (goodIn_p wsL_law0_r14 [701, 400, 705, 408] (by decide +kernel) (by decide +kernel) w h).1
set_option maxRecDepth 20000 in
theorem wsL_law_in0_r15 : ∀ w ∈ wsL_law0_r15, w ∈ lw_tbl := fun w h => (goodIn_p wsL_law0_r15 [413, 709, 420, 713, 427] (by decide +kernel) (by decide +kernel) w h).1
set_option maxRecDepth 20000 in
theorem wsL_law_in0_r16 : ∀ w ∈ wsL_law0_r16, w ∈ lw_tbl := fun w h => (goodIn_p wsL_law0_r16 [717, 434, 721, 443] (by decide +kernel) (by decide +kernel) w h).1
set_option maxRecDepth 20000 in
theorem wsL_law_in0_r17 : ∀ w ∈ wsL_law0_r17, w ∈ lw_tbl := fun w h => (goodIn_p wsL_law0_r17 [447, 725, 456, 729] (by decide +kernel) (by decide +kernel) w h).1
set_option maxRecDepth 20000 in
theorem wsL_law_in0_r18 : ∀ w ∈ wsL_law0_r18, w ∈ lw_tbl := fun w h => (goodIn_p wsL_law0_r18 [464, 469, 733, 476, 481] (by decide +kernel) (by decide +kernel) w h).1
set_option maxRecDepth 20000 in
theorem wsL_law_in0_r19 : ∀ w ∈ wsL_law0_r19, w ∈ lw_tbl := fun w h => (goodIn_p wsL_law0_r19 [485, 737, 741, 493, 745] (by decide +kernel) (by decide +kernel) w h).1
set_option maxRecDepth 20000 in
theorem wsL_law_in0_r20 : ∀ w ∈ wsL_law0_r20, w ∈ lw_tbl := fun w h => (goodIn_p wsL_law0_r20 [500, 749, 507, 512, 753] (by decide +kernel) (by decide +kernel) w h).1
set_option maxRecDepth 20000 in
theorem wsL_law_in0_r21 : ∀ w ∈ wsL_law0_r21, w ∈ lw_tbl := fun w h => (goodIn_p wsL_law0_r21 [519, 522, 757, 761] (by decide +kernel) (by decide +kernel) w h).1
set_option maxRecDepth 20000 in
theorem wsL_law_in0_r22 : ∀ w ∈ wsL_law0_r22, w ∈ lw_tbl := fun w h => (goodIn_p wsL_law0_r22 [532, 536, 540, 544, 765] (by decide +kernel) (by decide +kernel) w h).1
set_option maxRecDepth 20000 in
theorem wsL_law_in0_r23 : ∀ w ∈ wsL_law0_r23, w ∈ lw_tbl := fun w h => (goodIn_p wsL_law0_r23 [769, 551, 555, 773, 777] (by decide +kernel) (by decide +kernel) w h).1
set_option maxRecDepth 20000 in
theorem wsL_law_in0_r24 : ∀ w ∈ wsL_law0_r24, w ∈ lw_tbl := fun w h => (goodIn_p wsL_law0_r24 [562, 781] (by decide +kernel) (by decide +kernel) w h).1
theorem wsL_uX30 : ∀ w ∈ wsX30, w ∈ lw_tbl := by decide +kernel
theorem wsL_uX40 : ∀ w ∈ wsX40, w ∈ lw_tbl := by decide +kernel
theorem wsL_uX10 : ∀ w ∈ wsX10, w ∈ lw_tbl := by decide +kernel
theorem wsL_uX00 : ∀ w ∈ wsX00, w ∈ lw_tbl := by decide +kernel
theorem wsL_uX20 : ∀ w ∈ wsX20, w ∈ lw_tbl := by decide +kernel
theorem wsL_law_in0 : ∀ w ∈ wsL_law0, w ∈ lw_tbl := fun w h => (List.mem_append.mp h).elim (fun h => (List.mem_append.mp h).elim (fun h => (List.mem_append.mp h).elim (fun h => (List.mem_append.mp h).elim (fun h => (List.mem_append.mp h).elim (fun h => (List.mem_append.mp h).elim (fun h => (List.mem_append.mp h).elim (fun h => wsL_law_in0_r1 w h) (fun h => (List.mem_append.mp h).elim (fun h => wsL_law_in0_r2 w h) (fun h => (List.mem_append.mp h).elim (fun h => wsL_law_in0_r3 w h) (fun h => (List.mem_append.mp h).elim (fun h => wsL_law_in0_r4 w h) (fun h => (List.mem_append.mp h).elim (fun h => wsL_law_in0_r5 w h) (fun h => (List.mem_append.mp h).elim (fun h => wsL_law_in0_r6 w h) (fun h => (List.mem_append.mp h).elim (fun h => wsL_law_in0_r7 w h) (fun h => (List.mem_append.mp h).elim (fun h => wsL_law_in0_r8 w h) (fun h => (List.mem_append.mp h).elim (fun h => wsL_law_in0_r9 w h) (fun h => (List.mem_append.mp h).elim (fun h => wsL_law_in0_r10 w h) (fun h => (List.mem_append.mp h).elim (fun h => wsL_law_in0_r11 w h) (fun h => (List.mem_append.mp h).elim (fun h => wsL_law_in0_r12 w h) (fun h => (List.mem_append.mp h).elim (fun h => wsL_law_in0_r13 w h) (fun h => (List.mem_append.mp h).elim (fun h => wsL_law_in0_r14 w h) (fun h => (List.mem_append.mp h).elim (fun h => wsL_law_in0_r15 w h) (fun h => (List.mem_append.mp h).elim (fun h => wsL_law_in0_r16 w h) (fun h => (List.mem_append.mp h).elim (fun h => wsL_law_in0_r17 w h) (fun h => (List.mem_append.mp h).elim (fun h => wsL_law_in0_r18 w h) (fun h => (List.mem_append.mp h).elim (fun h => wsL_law_in0_r19 w h) (fun h => (List.mem_append.mp h).elim (fun h => wsL_law_in0_r20 w h) (fun h => (List.mem_append.mp h).elim (fun h => wsL_law_in0_r21 w h) (fun h => (List.mem_append.mp h).elim (fun h => wsL_law_in0_r22 w h) (fun h => (List.mem_append.mp h).elim (fun h => wsL_law_in0_r23 w h) (fun h => wsL_law_in0_r24 w h)))))))))))))))))))))))) (fun h => wsL_uX30 w h)) (fun h => wsL_uX40 w h)) (fun h => wsL_uX10 w h)) (fun h => wsL_uX00 w h)) (fun h => wsL_uX20 w h)) (fun h => absurd h List.not_mem_nil)
theorem wsL_law_x0 : ∀ w ∈ (vx_atS RX3 68 "java/lang/IllegalStateException" ["java/lang/RuntimeException", "java/lang/Exception"]).filter goodWord, w ∈ lw_tbl := by decide +kernel
theorem wsL_law_x1 : ∀ w ∈ (vx_atS RX3 201 "java/lang/IndexOutOfBoundsException" ["java/lang/RuntimeException", "java/lang/Exception"]).filter goodWord, w ∈ lw_tbl := by decide +kernel
theorem wsL_law_x2 : ∀ w ∈ (vx_atS RX3 154 "java/lang/IllegalArgumentException" ["java/lang/RuntimeException", "java/lang/Exception"]).filter goodWord, w ∈ lw_tbl := by decide +kernel
theorem wsL_law_in : ∀ w ∈ wsL_law, w ∈ lw_tbl := fun w h => (List.mem_append.mp h).elim (fun h => (List.mem_append.mp h).elim (fun h => (List.mem_append.mp h).elim (fun h => wsL_law_in0 w h) (fun h => wsL_law_x0 w h)) (fun h => wsL_law_x1 w h)) (fun h => wsL_law_x2 w h)
theorem inlX0 : ∀ w ∈ wsX00, w ∈ wsL_law := fun _ h => List.mem_append_left _ (List.mem_append_left _ (List.mem_append_left _ (List.mem_append_left _ (List.mem_append_left _ (List.mem_append_right _ h)))))
theorem inX0 : ∀ w ∈ wsX00, w ∈ lw_tbl := fun w h => wsL_law_in w (inlX0 w h)
theorem inlX1 : ∀ w ∈ wsX10, w ∈ wsL_law := fun _ h => List.mem_append_left _ (List.mem_append_left _ (List.mem_append_left _ (List.mem_append_left _ (List.mem_append_left _ (List.mem_append_left _ (List.mem_append_right _ h))))))
theorem inX1 : ∀ w ∈ wsX10, w ∈ lw_tbl := fun w h => wsL_law_in w (inlX1 w h)
theorem inlX2 : ∀ w ∈ wsX20, w ∈ wsL_law := fun _ h => List.mem_append_left _ (List.mem_append_left _ (List.mem_append_left _ (List.mem_append_left _ (List.mem_append_right _ h))))
theorem inX2 : ∀ w ∈ wsX20, w ∈ lw_tbl := fun w h => wsL_law_in w (inlX2 w h)
theorem inlX3 : ∀ w ∈ wsX30, w ∈ wsL_law := fun _ h => List.mem_append_left _ (List.mem_append_left _ (List.mem_append_left _ (List.mem_append_left _ (List.mem_append_left _ (List.mem_append_left _ (List.mem_append_left _ (List.mem_append_left _ (List.mem_append_right _ h))))))))
theorem inX3 : ∀ w ∈ wsX30, w ∈ lw_tbl := fun w h => wsL_law_in w (inlX3 w h)
theorem inlX4 : ∀ w ∈ wsX40, w ∈ wsL_law := fun _ h => List.mem_append_left _ (List.mem_append_left _ (List.mem_append_left _ (List.mem_append_left _ (List.mem_append_left _ (List.mem_append_left _ (List.mem_append_left _ (List.mem_append_right _ h)))))))
theorem inX4 : ∀ w ∈ wsX40, w ∈ lw_tbl := fun w h => wsL_law_in w (inlX4 w h)
theorem inJx145de : ∀ w ∈ wsJx145de0, w ∈ lw_tbl := by decide +kernel
theorem inJ6 : ∀ w ∈ wsJ60, w ∈ lw_tbl := by decide +kernel
theorem inJ0 : ∀ w ∈ wsJ00, w ∈ lw_tbl := by decide +kernel
theorem inJ7 : ∀ w ∈ wsJ70, w ∈ lw_tbl := by decide +kernel
end
section
section VV
/-- a value of the list of locals -/
def lvg : List (Nat × Value) → Nat → Option Value
  | [], _ => none
  | (j, v) :: r, i => if j = i then some v else lvg r i
theorem lvg_mem : ∀ {lv : List (Nat × Value)} {i : Nat} {v : Value}, lvg lv i = some v → (i, v) ∈ lv
  | [], _, _, h => by cases h
  | (j, u) :: r, i, v, h => by
    unfold lvg at h
    by_cases e : j = i
    · rw [if_pos e] at h
      cases h
      rw [e]
      exact List.mem_cons_self
    · rw [if_neg e] at h
      exact List.mem_cons_of_mem _ (lvg_mem h)
theorem lvg_at {ls : Array Slot} {nL : Nat} {lv : List (Nat × Value)} {i : Nat} {v : Value} (h : lv_has ls nL lv) (hg : lvg lv i = some v) : ls[i]? = some (.val v) := h.2.2 (i, v) (lvg_mem hg)
theorem lvg_ix {lv : List (Nat × Value)} {i : Nat} {v : Value} (hg : lvg lv i = some v) : ∃ k : Nat, lv[k]? = some (i, v) := List.getElem?_of_mem (lvg_mem hg)
abbrev lvs (lv : List (Nat × Value)) (i : Nat) (v : Value) : List (Nat × Value) := (i, v) :: lv.filter (fun q => !(q.1 == i) && !(q.1 + 1 == i && q.2.category == 2))
/-- what a walk stands on -/
def v_C (p : Program) (s : State) (m : MethodId) (args : Array Value) (c : Code) (cc : ByteArray) (own : String) (Ts : List Cond) (nL : Nat) (D : va_G) (cl : List vw_C) (tys : List (ClassId × FieldType)) (A : Nat → Prop) : Prop :=
  p.tables.exec = Jvm.exec ∧ c.code = cc ∧ s.vm.findClass own = some m.cls ∧ (∀ w ∈ Ts, w.before args s = true) ∧ c.maxLocals = nL ∧ va_K D cl tys s ∧ (∀ q : Nat, s.heap.size ≤ q → A q)
/-- the machine at pc, over any heap that holds the world w -/
def v_V (p : Program) (l : Launch) (e : Env) (R : Room) (s : State) (m : MethodId) (args : Array Value) (below : List Frame) (meth : Method) (c : Code) (D : va_G) (cl : List vw_C) (A : Nat → Prop) (nL : Nat) (Q : State → Prop) (cells slots : Nat) (w : va_W) (pc : Nat) (lv : List (Nat × Value)) (st : List Value) : Prop :=
  ∀ (H : Heap) (locs : List Loc) (ls : Array Slot), va_P D cl w H → va_D A w → va_S A s.heap H locs → lv_has ls nL lv → W p l e R s m args below meth c H locs cells slots Q (F0 m pc ls st)
variable {p : Program} {l : Launch} {e : Env} {R : Room} {s : State} {m : MethodId} {args : Array Value} {below : List Frame} {meth : Method} {c : Code} {cc : ByteArray} {own : String} {Ts : List Cond} {nL : Nat} {D : va_G} {cl : List vw_C} {tys : List (ClassId × FieldType)} {A : Nat → Prop} {Q : State → Prop} {cells slots : Nat} {w w' : va_W} {pc tgt : Nat} {lv lv' : List (Nat × Value)} {st : List Value} {x y z : Int32} {off : Int}
theorem v_pc {pc' : Nat} (h : pc' = pc) (k : v_V p l e R s m args below meth c D cl A nL Q cells slots w pc lv st) : v_V p l e R s m args below meth c D cl A nL Q cells slots w pc' lv st := h ▸ k
theorem v_wd {cells' slots' : Nat} (h1 : cells ≤ cells') (h2 : slots ≤ slots') (k : v_V p l e R s m args below meth c D cl A nL Q cells' slots' w pc lv st) : v_V p l e R s m args below meth c D cl A nL Q cells slots w pc lv st :=
  fun H locs ls hP hD hS hl => W.widen h1 h2 (k H locs ls hP hD hS hl)
theorem v_w (hw : w = w') (k : v_V p l e R s m args below meth c D cl A nL Q cells slots w' pc lv st) : v_V p l e R s m args below meth c D cl A nL Q cells slots w pc lv st := hw ▸ k
theorem v_lv (ks : List Nat) (hl' : lv_pick lv ks = lv') (k : v_V p l e R s m args below meth c D cl A nL Q cells slots w pc lv' st) : v_V p l e R s m args below meth c D cl A nL Q cells slots w pc lv st :=
  fun H locs ls hP hD hS hl => k H locs ls hP hD hS (lv_sub hl ks hl')
theorem v_iload_n (X : v_C p s m args c cc own Ts nL D cl tys A) {i : Fin 4} (hdg : decode cc pc = .ok (.iload_n i, 1)) (hg : lvg lv i = some (.int x)) (k : v_V p l e R s m args below meth c D cl A nL Q cells slots w (pc + 1) lv (.int x :: st)) : v_V p l e R s m args below meth c D cl A nL Q cells slots w pc lv st :=
  fun H locs ls hP hD hS hl => lv_iload_n X.1 X.2.1 hdg rfl (lvg_at hl hg) (k H locs ls hP hD hS hl)
theorem v_iload (X : v_C p s m args c cc own Ts nL D cl tys A) {i : Nat} (hdg : decode cc pc = .ok (.iload i, 2)) (hg : lvg lv i = some (.int x)) (k : v_V p l e R s m args below meth c D cl A nL Q cells slots w (pc + 2) lv (.int x :: st)) : v_V p l e R s m args below meth c D cl A nL Q cells slots w pc lv st :=
  fun H locs ls hP hD hS hl => lv_iload X.1 X.2.1 hdg (lvg_at hl hg) (k H locs ls hP hD hS hl)
theorem v_aload_n (X : v_C p s m args c cc own Ts nL D cl tys A) {i : Fin 4} {a : Nat} (hdg : decode cc pc = .ok (.aload_n i, 1)) (hg : lvg lv i = some (.ref a)) (k : v_V p l e R s m args below meth c D cl A nL Q cells slots w (pc + 1) lv (.ref a :: st)) : v_V p l e R s m args below meth c D cl A nL Q cells slots w pc lv st :=
  fun H locs ls hP hD hS hl => lv_aload_n X.1 X.2.1 hdg rfl (lvg_at hl hg) (k H locs ls hP hD hS hl)
theorem v_aload (X : v_C p s m args c cc own Ts nL D cl tys A) {i a : Nat} (hdg : decode cc pc = .ok (.aload i, 2)) (hg : lvg lv i = some (.ref a)) (k : v_V p l e R s m args below meth c D cl A nL Q cells slots w (pc + 2) lv (.ref a :: st)) : v_V p l e R s m args below meth c D cl A nL Q cells slots w pc lv st :=
  fun H locs ls hP hD hS hl => lv_aload X.1 X.2.1 hdg (lvg_at hl hg) (k H locs ls hP hD hS hl)
theorem v_istore_n (X : v_C p s m args c cc own Ts nL D cl tys A) {i : Fin 4} (hdg : decode cc pc = .ok (.istore_n i, 1)) (hn : (i : Nat) < nL) (hl' : lvs lv i (.int x) = lv') (k : v_V p l e R s m args below meth c D cl A nL Q cells slots w (pc + 1) lv' st) : v_V p l e R s m args below meth c D cl A nL Q cells slots w pc lv (.int x :: st) :=
  fun H locs ls hP hD hS hl => lv_istore_n (lv' := lv') X.1 X.2.1 hdg rfl hl hn hl' (fun ls2 hl2 => k H locs ls2 hP hD hS hl2)
theorem v_istore (X : v_C p s m args c cc own Ts nL D cl tys A) {i : Nat} (hdg : decode cc pc = .ok (.istore i, 2)) (hn : i < nL) (hl' : lvs lv i (.int x) = lv') (k : v_V p l e R s m args below meth c D cl A nL Q cells slots w (pc + 2) lv' st) : v_V p l e R s m args below meth c D cl A nL Q cells slots w pc lv (.int x :: st) :=
  fun H locs ls hP hD hS hl => lv_istore (lv' := lv') X.1 X.2.1 hdg hl hn hl' (fun ls2 hl2 => k H locs ls2 hP hD hS hl2)
theorem v_astore_n (X : v_C p s m args c cc own Ts nL D cl tys A) {i : Fin 4} {a : Nat} (hdg : decode cc pc = .ok (.astore_n i, 1)) (hn : (i : Nat) < nL) (hl' : lvs lv i (.ref a) = lv') (k : v_V p l e R s m args below meth c D cl A nL Q cells slots w (pc + 1) lv' st) : v_V p l e R s m args below meth c D cl A nL Q cells slots w pc lv (.ref a :: st) :=
  fun H locs ls hP hD hS hl => lv_astore_n (lv' := lv') X.1 X.2.1 hdg rfl hl hn hl' (fun ls2 hl2 => k H locs ls2 hP hD hS hl2)
theorem v_astore (X : v_C p s m args c cc own Ts nL D cl tys A) {i : Nat} {a : Nat} (hdg : decode cc pc = .ok (.astore i, 2)) (hn : i < nL) (hl' : lvs lv i (.ref a) = lv') (k : v_V p l e R s m args below meth c D cl A nL Q cells slots w (pc + 2) lv' st) : v_V p l e R s m args below meth c D cl A nL Q cells slots w pc lv (.ref a :: st) :=
  fun H locs ls hP hD hS hl => lv_astore (lv' := lv') X.1 X.2.1 hdg hl hn hl' (fun ls2 hl2 => k H locs ls2 hP hD hS hl2)
theorem v_iinc (X : v_C p s m args c cc own Ts nL D cl tys A) {i : Nat} {n : Int} (hdg : decode cc pc = .ok (.iinc i n, 3)) (hg : lvg lv i = some (.int x)) (hv : x + Int32.ofInt n = y) (hn : i < nL) (hl' : lvs lv i (.int y) = lv') (k : v_V p l e R s m args below meth c D cl A nL Q cells slots w (pc + 3) lv' st) : v_V p l e R s m args below meth c D cl A nL Q cells slots w pc lv st := by
  intro H locs ls hP hD hS hl
  obtain ⟨j, hj⟩ := lvg_ix hg
  exact lv_iinc (v := y) (lv' := lv') X.1 X.2.1 hdg hl hj hv hn hl' (fun ls2 hl2 => k H locs ls2 hP hD hS hl2)
theorem v_iconst (X : v_C p s m args c cc own Ts nL D cl tys A) {n : Int} (hdg : decode cc pc = .ok (.iconst n, 1)) (hv : Int32.ofInt n = x) (k : v_V p l e R s m args below meth c D cl A nL Q cells slots w (pc + 1) lv (.int x :: st)) : v_V p l e R s m args below meth c D cl A nL Q cells slots w pc lv st :=
  fun H locs ls hP hD hS hl => lv_iconst X.1 X.2.1 hdg hv (k H locs ls hP hD hS hl)
theorem v_bipush (X : v_C p s m args c cc own Ts nL D cl tys A) {n : Int} (hdg : decode cc pc = .ok (.bipush n, 2)) (hv : (Int8.ofInt n).toInt32 = x) (k : v_V p l e R s m args below meth c D cl A nL Q cells slots w (pc + 2) lv (.int x :: st)) : v_V p l e R s m args below meth c D cl A nL Q cells slots w pc lv st :=
  fun H locs ls hP hD hS hl => lv_bipush X.1 X.2.1 hdg hv (k H locs ls hP hD hS hl)
theorem v_sipush (X : v_C p s m args c cc own Ts nL D cl tys A) {n : Int} (hdg : decode cc pc = .ok (.sipush n, 3)) (hv : (Int16.ofInt n).toInt32 = x) (k : v_V p l e R s m args below meth c D cl A nL Q cells slots w (pc + 3) lv (.int x :: st)) : v_V p l e R s m args below meth c D cl A nL Q cells slots w pc lv st :=
  fun H locs ls hP hD hS hl => lv_sipush X.1 X.2.1 hdg hv (k H locs ls hP hD hS hl)
theorem v_ldc (X : v_C p s m args c cc own Ts nL D cl tys A) {index : Nat} (hc : Jvm.Cond.constant own index x ∈ Ts) (hdg : decode cc pc = .ok (.ldc index, 2)) (k : v_V p l e R s m args below meth c D cl A nL Q cells slots w (pc + 2) lv (.int x :: st)) : v_V p l e R s m args below meth c D cl A nL Q cells slots w pc lv st :=
  fun H locs ls hP hD hS hl => lv_ldc X.1 X.2.1 X.2.2.1 (X.2.2.2.1 _ hc) hdg (k H locs ls hP hD hS hl)
theorem v_iadd (X : v_C p s m args c cc own Ts nL D cl tys A) (hdg : decode cc pc = .ok (.iadd, 1)) (k : v_V p l e R s m args below meth c D cl A nL Q cells slots w (pc + 1) lv (.int (x + y) :: st)) : v_V p l e R s m args below meth c D cl A nL Q cells slots w pc lv (.int y :: .int x :: st) :=
  fun H locs ls hP hD hS hl => lv_iadd X.1 X.2.1 hdg (k H locs ls hP hD hS hl)
theorem v_isub (X : v_C p s m args c cc own Ts nL D cl tys A) (hdg : decode cc pc = .ok (.isub, 1)) (k : v_V p l e R s m args below meth c D cl A nL Q cells slots w (pc + 1) lv (.int (x - y) :: st)) : v_V p l e R s m args below meth c D cl A nL Q cells slots w pc lv (.int y :: .int x :: st) :=
  fun H locs ls hP hD hS hl => lv_isub X.1 X.2.1 hdg (k H locs ls hP hD hS hl)
theorem v_imul (X : v_C p s m args c cc own Ts nL D cl tys A) (hdg : decode cc pc = .ok (.imul, 1)) (k : v_V p l e R s m args below meth c D cl A nL Q cells slots w (pc + 1) lv (.int (x * y) :: st)) : v_V p l e R s m args below meth c D cl A nL Q cells slots w pc lv (.int y :: .int x :: st) :=
  fun H locs ls hP hD hS hl => lv_imul X.1 X.2.1 hdg (k H locs ls hP hD hS hl)
theorem v_iand (X : v_C p s m args c cc own Ts nL D cl tys A) (hdg : decode cc pc = .ok (.iand, 1)) (k : v_V p l e R s m args below meth c D cl A nL Q cells slots w (pc + 1) lv (.int (x &&& y) :: st)) : v_V p l e R s m args below meth c D cl A nL Q cells slots w pc lv (.int y :: .int x :: st) :=
  fun H locs ls hP hD hS hl => lv_iand X.1 X.2.1 hdg (k H locs ls hP hD hS hl)
theorem v_ixor (X : v_C p s m args c cc own Ts nL D cl tys A) (hdg : decode cc pc = .ok (.ixor, 1)) (k : v_V p l e R s m args below meth c D cl A nL Q cells slots w (pc + 1) lv (.int (x ^^^ y) :: st)) : v_V p l e R s m args below meth c D cl A nL Q cells slots w pc lv (.int y :: .int x :: st) :=
  fun H locs ls hP hD hS hl => lv_ixor X.1 X.2.1 hdg (k H locs ls hP hD hS hl)
theorem v_ishl (X : v_C p s m args c cc own Ts nL D cl tys A) (hdg : decode cc pc = .ok (.ishl, 1)) (k : v_V p l e R s m args below meth c D cl A nL Q cells slots w (pc + 1) lv (.int (x <<< (y &&& 31)) :: st)) : v_V p l e R s m args below meth c D cl A nL Q cells slots w pc lv (.int y :: .int x :: st) :=
  fun H locs ls hP hD hS hl => lv_ishl X.1 X.2.1 hdg (k H locs ls hP hD hS hl)
theorem v_ishr (X : v_C p s m args c cc own Ts nL D cl tys A) (hdg : decode cc pc = .ok (.ishr, 1)) (k : v_V p l e R s m args below meth c D cl A nL Q cells slots w (pc + 1) lv (.int (x >>> (y &&& 31)) :: st)) : v_V p l e R s m args below meth c D cl A nL Q cells slots w pc lv (.int y :: .int x :: st) :=
  fun H locs ls hP hD hS hl => lv_ishr X.1 X.2.1 hdg (k H locs ls hP hD hS hl)
theorem v_dup (X : v_C p s m args c cc own Ts nL D cl tys A) {v : Value} (hdg : decode cc pc = .ok (.dup, 1)) (hv : v.category = 1) (k : v_V p l e R s m args below meth c D cl A nL Q cells slots w (pc + 1) lv (v :: v :: st)) : v_V p l e R s m args below meth c D cl A nL Q cells slots w pc lv (v :: st) :=
  fun H locs ls hP hD hS hl => lv_dup X.1 X.2.1 hdg hv (k H locs ls hP hD hS hl)
theorem v_dup2 (X : v_C p s m args c cc own Ts nL D cl tys A) {v u : Value} (hdg : decode cc pc = .ok (.dup2, 1)) (hv : v.category = 1) (hu : u.category = 1) (k : v_V p l e R s m args below meth c D cl A nL Q cells slots w (pc + 1) lv (v :: u :: v :: u :: st)) : v_V p l e R s m args below meth c D cl A nL Q cells slots w pc lv (v :: u :: st) :=
  fun H locs ls hP hD hS hl => lv_dup2_11 X.1 X.2.1 hdg hv hu (k H locs ls hP hD hS hl)
theorem v_pop (X : v_C p s m args c cc own Ts nL D cl tys A) {v : Value} (hdg : decode cc pc = .ok (.pop, 1)) (hv : v.category = 1) (k : v_V p l e R s m args below meth c D cl A nL Q cells slots w (pc + 1) lv st) : v_V p l e R s m args below meth c D cl A nL Q cells slots w pc lv (v :: st) :=
  fun H locs ls hP hD hS hl => lv_pop X.1 X.2.1 hdg hv (k H locs ls hP hD hS hl)
theorem v_goto (X : v_C p s m args c cc own Ts nL D cl tys A) (hdg : decode cc pc = .ok (.goto off, 3)) (ht : (pc : Int) + off = (tgt : Int)) (k : v_V p l e R s m args below meth c D cl A nL Q cells slots w tgt lv st) : v_V p l e R s m args below meth c D cl A nL Q cells slots w pc lv st :=
  fun H locs ls hP hD hS hl => lv_goto X.1 X.2.1 hdg ht (k H locs ls hP hD hS hl)
theorem v_if_eq (X : v_C p s m args c cc own Ts nL D cl tys A) (hdg : decode cc pc = .ok (.ifCond .eq off, 3)) (ht : (pc : Int) + off = (tgt : Int)) (kt : x = 0 → v_V p l e R s m args below meth c D cl A nL Q cells slots w tgt lv st) (kf : ¬ x = 0 → v_V p l e R s m args below meth c D cl A nL Q cells slots w (pc + 3) lv st) : v_V p l e R s m args below meth c D cl A nL Q cells slots w pc lv (.int x :: st) :=
  fun H locs ls hP hD hS hl => lv_if_eq X.1 X.2.1 hdg ht (fun h => kt h H locs ls hP hD hS hl) (fun h => kf h H locs ls hP hD hS hl)
theorem v_if_ne (X : v_C p s m args c cc own Ts nL D cl tys A) (hdg : decode cc pc = .ok (.ifCond .ne off, 3)) (ht : (pc : Int) + off = (tgt : Int)) (kt : ¬ x = 0 → v_V p l e R s m args below meth c D cl A nL Q cells slots w tgt lv st) (kf : x = 0 → v_V p l e R s m args below meth c D cl A nL Q cells slots w (pc + 3) lv st) : v_V p l e R s m args below meth c D cl A nL Q cells slots w pc lv (.int x :: st) :=
  fun H locs ls hP hD hS hl => lv_if_ne X.1 X.2.1 hdg ht (fun h => kt h H locs ls hP hD hS hl) (fun h => kf h H locs ls hP hD hS hl)
theorem v_if_lt (X : v_C p s m args c cc own Ts nL D cl tys A) (hdg : decode cc pc = .ok (.ifCond .lt off, 3)) (ht : (pc : Int) + off = (tgt : Int)) (kt : x < 0 → v_V p l e R s m args below meth c D cl A nL Q cells slots w tgt lv st) (kf : ¬ x < 0 → v_V p l e R s m args below meth c D cl A nL Q cells slots w (pc + 3) lv st) : v_V p l e R s m args below meth c D cl A nL Q cells slots w pc lv (.int x :: st) :=
  fun H locs ls hP hD hS hl => lv_if_lt X.1 X.2.1 hdg ht (fun h => kt h H locs ls hP hD hS hl) (fun h => kf h H locs ls hP hD hS hl)
theorem v_if_le (X : v_C p s m args c cc own Ts nL D cl tys A) (hdg : decode cc pc = .ok (.ifCond .le off, 3)) (ht : (pc : Int) + off = (tgt : Int)) (kt : x ≤ 0 → v_V p l e R s m args below meth c D cl A nL Q cells slots w tgt lv st) (kf : ¬ x ≤ 0 → v_V p l e R s m args below meth c D cl A nL Q cells slots w (pc + 3) lv st) : v_V p l e R s m args below meth c D cl A nL Q cells slots w pc lv (.int x :: st) :=
  fun H locs ls hP hD hS hl => lv_if_le X.1 X.2.1 hdg ht (fun h => kt h H locs ls hP hD hS hl) (fun h => kf h H locs ls hP hD hS hl)
theorem v_if_gt (X : v_C p s m args c cc own Ts nL D cl tys A) (hdg : decode cc pc = .ok (.ifCond .gt off, 3)) (ht : (pc : Int) + off = (tgt : Int)) (kt : 0 < x → v_V p l e R s m args below meth c D cl A nL Q cells slots w tgt lv st) (kf : ¬ 0 < x → v_V p l e R s m args below meth c D cl A nL Q cells slots w (pc + 3) lv st) : v_V p l e R s m args below meth c D cl A nL Q cells slots w pc lv (.int x :: st) :=
  fun H locs ls hP hD hS hl => lv_if_gt X.1 X.2.1 hdg ht (fun h => kt h H locs ls hP hD hS hl) (fun h => kf h H locs ls hP hD hS hl)
theorem v_if_ge (X : v_C p s m args c cc own Ts nL D cl tys A) (hdg : decode cc pc = .ok (.ifCond .ge off, 3)) (ht : (pc : Int) + off = (tgt : Int)) (kt : 0 ≤ x → v_V p l e R s m args below meth c D cl A nL Q cells slots w tgt lv st) (kf : ¬ 0 ≤ x → v_V p l e R s m args below meth c D cl A nL Q cells slots w (pc + 3) lv st) : v_V p l e R s m args below meth c D cl A nL Q cells slots w pc lv (.int x :: st) :=
  fun H locs ls hP hD hS hl => lv_if_ge X.1 X.2.1 hdg ht (fun h => kt h H locs ls hP hD hS hl) (fun h => kf h H locs ls hP hD hS hl)
theorem v_icmp_eq (X : v_C p s m args c cc own Ts nL D cl tys A) (hdg : decode cc pc = .ok (.if_icmp .eq off, 3)) (ht : (pc : Int) + off = (tgt : Int)) (kt : x = y → v_V p l e R s m args below meth c D cl A nL Q cells slots w tgt lv st) (kf : ¬ x = y → v_V p l e R s m args below meth c D cl A nL Q cells slots w (pc + 3) lv st) : v_V p l e R s m args below meth c D cl A nL Q cells slots w pc lv (.int y :: .int x :: st) :=
  fun H locs ls hP hD hS hl => lv_icmp_eq X.1 X.2.1 hdg ht (fun h => kt h H locs ls hP hD hS hl) (fun h => kf h H locs ls hP hD hS hl)
theorem v_icmp_ne (X : v_C p s m args c cc own Ts nL D cl tys A) (hdg : decode cc pc = .ok (.if_icmp .ne off, 3)) (ht : (pc : Int) + off = (tgt : Int)) (kt : ¬ x = y → v_V p l e R s m args below meth c D cl A nL Q cells slots w tgt lv st) (kf : x = y → v_V p l e R s m args below meth c D cl A nL Q cells slots w (pc + 3) lv st) : v_V p l e R s m args below meth c D cl A nL Q cells slots w pc lv (.int y :: .int x :: st) :=
  fun H locs ls hP hD hS hl => lv_icmp_ne X.1 X.2.1 hdg ht (fun h => kt h H locs ls hP hD hS hl) (fun h => kf h H locs ls hP hD hS hl)
theorem v_icmp_lt (X : v_C p s m args c cc own Ts nL D cl tys A) (hdg : decode cc pc = .ok (.if_icmp .lt off, 3)) (ht : (pc : Int) + off = (tgt : Int)) (kt : x < y → v_V p l e R s m args below meth c D cl A nL Q cells slots w tgt lv st) (kf : ¬ x < y → v_V p l e R s m args below meth c D cl A nL Q cells slots w (pc + 3) lv st) : v_V p l e R s m args below meth c D cl A nL Q cells slots w pc lv (.int y :: .int x :: st) :=
  fun H locs ls hP hD hS hl => lv_icmp_lt X.1 X.2.1 hdg ht (fun h => kt h H locs ls hP hD hS hl) (fun h => kf h H locs ls hP hD hS hl)
theorem v_icmp_le (X : v_C p s m args c cc own Ts nL D cl tys A) (hdg : decode cc pc = .ok (.if_icmp .le off, 3)) (ht : (pc : Int) + off = (tgt : Int)) (kt : x ≤ y → v_V p l e R s m args below meth c D cl A nL Q cells slots w tgt lv st) (kf : ¬ x ≤ y → v_V p l e R s m args below meth c D cl A nL Q cells slots w (pc + 3) lv st) : v_V p l e R s m args below meth c D cl A nL Q cells slots w pc lv (.int y :: .int x :: st) :=
  fun H locs ls hP hD hS hl => lv_icmp_le X.1 X.2.1 hdg ht (fun h => kt h H locs ls hP hD hS hl) (fun h => kf h H locs ls hP hD hS hl)
theorem v_icmp_gt (X : v_C p s m args c cc own Ts nL D cl tys A) (hdg : decode cc pc = .ok (.if_icmp .gt off, 3)) (ht : (pc : Int) + off = (tgt : Int)) (kt : y < x → v_V p l e R s m args below meth c D cl A nL Q cells slots w tgt lv st) (kf : ¬ y < x → v_V p l e R s m args below meth c D cl A nL Q cells slots w (pc + 3) lv st) : v_V p l e R s m args below meth c D cl A nL Q cells slots w pc lv (.int y :: .int x :: st) :=
  fun H locs ls hP hD hS hl => lv_icmp_gt X.1 X.2.1 hdg ht (fun h => kt h H locs ls hP hD hS hl) (fun h => kf h H locs ls hP hD hS hl)
theorem v_icmp_ge (X : v_C p s m args c cc own Ts nL D cl tys A) (hdg : decode cc pc = .ok (.if_icmp .ge off, 3)) (ht : (pc : Int) + off = (tgt : Int)) (kt : y ≤ x → v_V p l e R s m args below meth c D cl A nL Q cells slots w tgt lv st) (kf : ¬ y ≤ x → v_V p l e R s m args below meth c D cl A nL Q cells slots w (pc + 3) lv st) : v_V p l e R s m args below meth c D cl A nL Q cells slots w pc lv (.int y :: .int x :: st) :=
  fun H locs ls hP hD hS hl => lv_icmp_ge X.1 X.2.1 hdg ht (fun h => kt h H locs ls hP hD hS hl) (fun h => kf h H locs ls hP hD hS hl)
end VV
end
section
section VH
variable {p : Program} {l : Launch} {e : Env} {R : Room} {s : State} {m : MethodId} {args : Array Value} {below : List Frame} {meth : Method} {c : Code} {cc : ByteArray} {own : String} {Ts : List Cond} {nL : Nat} {D : va_G} {cl : List vw_C} {tys : List (ClassId × FieldType)} {A : Nat → Prop} {Q : State → Prop} {cells slots : Nat} {w w' : va_W} {pc tgt : Nat} {lv lv' : List (Nat × Value)} {st : List Value} {x y z : Int32} {off : Int} {a : Nat} {cA : ClassId} {n : Nat}
theorem v_getfield (X : v_C p s m args c cc own Ts nL D cl tys A) {ref C : String} {T : u_T} {N ci index : Nat} (hin : ∀ w ∈ u_ws C T N, w ∈ Ts) (q0 : Nat) {fs : List Value} (he : w[q0]? = some (a, .inr (ci, fs))) (hc : cl[ci]? = some (C, T, N)) (k : Nat) (hk : k < N) (hlink : Cond.fieldLink own index ref (T k).2.1 (T k).2.2.1 ∈ Ts) (hsame : ∀ x, s.fieldFound? (T k).1 (T k).2.1 (T k).2.2.1 = some x → s.fieldFound? ref (T k).2.1 (T k).2.2.1 = some x) {v : Value} (hv : fs[k]? = some v) (hdg : decode cc pc = .ok (.getfield index, 3))
    (kk : v_V p l e R s m args below meth c D cl A nL Q cells slots w (pc + 3) lv (v :: st)) : v_V p l e R s m args below meth c D cl A nL Q cells slots w pc lv (.ref a :: st) :=
  fun H locs ls hP hD hS hl => va_get X.1 X.2.1 X.2.2.2.1 hin X.2.2.1 X.2.2.2.2.2.1 hP q0 he hc k hk (X.2.2.2.1 _ hlink) hsame hv hdg (kk H locs ls hP hD hS hl)
theorem v_putfield (X : v_C p s m args c cc own Ts nL D cl tys A) {ref C : String} {T : u_T} {N ci index : Nat} (hin : ∀ w ∈ u_ws C T N, w ∈ Ts) (ty0 : Nat → FieldType) (hty : ∀ k, k < N → parseFieldDescriptor (T k).2.2.1 = some (ty0 k)) (hnm : ∀ a, a < N → ∀ b, b < N → a ≠ b → (T a).2.1 ≠ (T b).2.1) (q0 : Nat) {fs : List Value} (he : w[q0]? = some (a, .inr (ci, fs))) (hc : cl[ci]? = some (C, T, N)) (k : Nat) (hk : k < N) (hlink : Cond.fieldLink own index ref (T k).2.1 (T k).2.2.1 ∈ Ts) (hsame : ∀ x, s.fieldFound? (T k).1 (T k).2.1 (T k).2.2.1 = some x → s.fieldFound? ref (T k).2.1 (T k).2.2.1 = some x) (hfin : (T k).2.2.2 = false) {ty : FieldType} {v : Value} (hd : parseFieldDescriptor (T k).2.2.1 = some ty) (hn : narrow ty v = v) (hfit : fits ty v = true) (hlen : k < fs.length) (hdg : decode cc pc = .ok (.putfield index, 3)) (hw : w.set q0 (a, .inr (ci, fs.set k v)) = w')
    (kk : v_V p l e R s m args below meth c D cl A nL Q cells slots w' (pc + 3) lv st) : v_V p l e R s m args below meth c D cl A nL Q cells slots w pc lv (v :: .ref a :: st) := by
  intro H locs ls hP hD hS hl
  subst hw
  exact va_put X.1 X.2.1 X.2.2.2.1 hin ty0 hty hnm X.2.2.1 X.2.2.2.2.2.1 hP hD hS q0 he hc k hk (X.2.2.2.1 _ hlink) hsame hfin hd hn hfit hlen hdg (fun H1 locs1 hP1 hD1 hS1 => kk H1 locs1 ls hP1 hD1 hS1 hl)
theorem v_putfieldF (X : v_C p s m args c cc own Ts nL D cl tys A) {ref C : String} {T : u_T} {N ci index : Nat} (hin : ∀ w ∈ u_ws C T N, w ∈ Ts) (ty0 : Nat → FieldType) (hty : ∀ k, k < N → parseFieldDescriptor (T k).2.2.1 = some (ty0 k)) (hnm : ∀ a, a < N → ∀ b, b < N → a ≠ b → (T a).2.1 ≠ (T b).2.1) (q0 : Nat) {fs : List Value} (he : w[q0]? = some (a, .inr (ci, fs))) (hc : cl[ci]? = some (C, T, N)) (k : Nat) (hk : k < N) (hlink : Cond.fieldLink own index ref (T k).2.1 (T k).2.2.1 ∈ Ts) (hsame : ∀ x, s.fieldFound? (T k).1 (T k).2.1 (T k).2.2.1 = some x → s.fieldFound? ref (T k).2.1 (T k).2.2.1 = some x) (hfin : (T k).2.2.2 = true) (hin2 : meth.name = "<init>") (hdecl : (T k).1 = own) {ty : FieldType} {v : Value} (hd : parseFieldDescriptor (T k).2.2.1 = some ty) (hn : narrow ty v = v) (hfit : fits ty v = true) (hlen : k < fs.length) (hdg : decode cc pc = .ok (.putfield index, 3)) (hw : w.set q0 (a, .inr (ci, fs.set k v)) = w')
    (kk : v_V p l e R s m args below meth c D cl A nL Q cells slots w' (pc + 3) lv st) : v_V p l e R s m args below meth c D cl A nL Q cells slots w pc lv (v :: .ref a :: st) := by
  intro H locs ls hP hD hS hl
  subst hw
  exact va_putF X.1 X.2.1 X.2.2.2.1 hin ty0 hty hnm X.2.2.1 X.2.2.2.2.2.1 hP hD hS q0 he hc k hk (X.2.2.2.1 _ hlink) hsame hfin hin2 hdecl hd hn hfit hlen hdg (fun H1 locs1 hP1 hD1 hS1 => kk H1 locs1 ls hP1 hD1 hS1 hl)
theorem v_iald (X : v_C p s m args c cc own Ts nL D cl tys A) (q0 t0 : Nat) {f : Nat → Int32} (ha : w[q0]? = some (a, .inl (cA, n, .inl f))) (ht : tys[t0]? = some (cA, .int)) {i : Int32} (hin : vp_in i n) (hdg : decode cc pc = .ok (.iaload, 1))
    (kk : v_V p l e R s m args below meth c D cl A nL Q cells slots w (pc + 1) lv (.int (f i.toNatClampNeg) :: st)) : v_V p l e R s m args below meth c D cl A nL Q cells slots w pc lv (.int i :: .ref a :: st) :=
  fun H locs ls hP hD hS hl => va_iald X.1 X.2.1 X.2.2.2.2.2.1 hP q0 t0 ha ht hin hdg (kk H locs ls hP hD hS hl)
theorem v_iast (X : v_C p s m args c cc own Ts nL D cl tys A) (q0 t0 : Nat) {f : Nat → Int32} (ha : w[q0]? = some (a, .inl (cA, n, .inl f))) (ht : tys[t0]? = some (cA, .int)) {i : Int32} (hin : vp_in i n) (hdg : decode cc pc = .ok (.iastore, 1)) (hw : w.set q0 (a, .inl (cA, n, .inl (upd f i.toNatClampNeg x))) = w')
    (kk : v_V p l e R s m args below meth c D cl A nL Q cells slots w' (pc + 1) lv st) : v_V p l e R s m args below meth c D cl A nL Q cells slots w pc lv (.int x :: .int i :: .ref a :: st) := by
  intro H locs ls hP hD hS hl
  subst hw
  exact va_iast X.1 X.2.1 X.2.2.2.2.2.1 hP hD hS q0 t0 ha ht hin hdg (fun H1 locs1 hP1 hD1 hS1 => kk H1 locs1 ls hP1 hD1 hS1 hl)
theorem va_ald2 {H : Heap} {locs : List Loc} {ls : Array Slot} {ws : va_W} (hexec : p.tables.exec = Jvm.exec) (hb : c.code = cc) (hK : va_K D cl tys s) (hP : va_P D cl ws H) (q0 t0 : Nat) {f : Nat → Option Nat} (ha : ws[q0]? = some (a, .inl (cA, n, .inr (.inr (.inr (.inr f)))))) (ht : tys[t0]? = some (cA, .array .int)) {i : Int32} (hin : vp_in i n) (hdg : decode cc pc = .ok (.aaload, 1))
    (kk : W p l e R s m args below meth c H locs cells slots Q (F0 m (pc + 1) ls (va_rf (f i.toNatClampNeg) :: st))) : W p l e R s m args below meth c H locs cells slots Q (F0 m pc ls (.int i :: .ref a :: st)) := by
  have hlt : i.toNatClampNeg < n := Nat.not_le.mp fun q => hin (Or.inr q)
  exact W.aald (v := va_rf (f i.toNatClampNeg)) (ty := .array .int) hexec hb (hP q0 _ ha) ((hK.2 t0 _ ht).1 n (fun j => va_rf (f j))) rfl (fun q => by cases q) (by show ¬ (i < 0 ∨ (arrV _ _ _).slots.size ≤ _); rw [arrV_size]; exact hin) (by show (arrV _ _ _).slots[_]? = _; rw [arrV_read _ _ hlt]) rfl rfl hdg kk
theorem v_aald (X : v_C p s m args c cc own Ts nL D cl tys A) (q0 t0 : Nat) {f : Nat → Option Nat} (ha : w[q0]? = some (a, .inl (cA, n, .inr (.inr (.inr (.inr f)))))) (ht : tys[t0]? = some (cA, .array .int)) {i : Int32} (hin : vp_in i n) {b : Nat} (hf : f i.toNatClampNeg = some b) (hdg : decode cc pc = .ok (.aaload, 1))
    (kk : v_V p l e R s m args below meth c D cl A nL Q cells slots w (pc + 1) lv (.ref b :: st)) : v_V p l e R s m args below meth c D cl A nL Q cells slots w pc lv (.int i :: .ref a :: st) := by
  intro H locs ls hP hD hS hl
  refine va_ald2 X.1 X.2.1 X.2.2.2.2.2.1 hP q0 t0 ha ht hin hdg ?_
  rw [hf]
  exact kk H locs ls hP hD hS hl
theorem v_lald (X : v_C p s m args c cc own Ts nL D cl tys A) (q0 t0 : Nat) {f : Nat → Int64} (ha : w[q0]? = some (a, .inl (cA, n, .inr (.inl f)))) (ht : tys[t0]? = some (cA, .long)) {i : Int32} (hin : vp_in i n) (hdg : decode cc pc = .ok (.laload, 1))
    (kk : v_V p l e R s m args below meth c D cl A nL Q cells slots w (pc + 1) lv (.long (f i.toNatClampNeg) :: st)) : v_V p l e R s m args below meth c D cl A nL Q cells slots w pc lv (.int i :: .ref a :: st) :=
  fun H locs ls hP hD hS hl => va_lald X.1 X.2.1 X.2.2.2.2.2.1 hP q0 t0 ha ht hin hdg (kk H locs ls hP hD hS hl)
theorem v_last (X : v_C p s m args c cc own Ts nL D cl tys A) (q0 t0 : Nat) {f : Nat → Int64} {v : Int64} (ha : w[q0]? = some (a, .inl (cA, n, .inr (.inl f)))) (ht : tys[t0]? = some (cA, .long)) {i : Int32} (hin : vp_in i n) (hdg : decode cc pc = .ok (.lastore, 1)) (hw : w.set q0 (a, .inl (cA, n, .inr (.inl (vp_updL f i.toNatClampNeg v)))) = w')
    (kk : v_V p l e R s m args below meth c D cl A nL Q cells slots w' (pc + 1) lv st) : v_V p l e R s m args below meth c D cl A nL Q cells slots w pc lv (.long v :: .int i :: .ref a :: st) := by
  intro H locs ls hP hD hS hl
  subst hw
  exact va_last X.1 X.2.1 X.2.2.2.2.2.1 hP hD hS q0 t0 ha ht hin hdg (fun H1 locs1 hP1 hD1 hS1 => kk H1 locs1 ls hP1 hD1 hS1 hl)
/-- contracts of methods that return, make nothing, and whose answer and world are told by functions of the start -/
def v_Mi (l : Launch) (D : va_G) (cl : List vw_C) (tys : List (ClassId × FieldType)) (y : MethodName) (ws : List Cond) (rm : Room) (av : List Value) (w : va_W) (r : Int32) (w' : va_W) : Prop :=
  ∀ sz : Nat, Met l y ws rm (va_Pc av (fun U => U.heap.size = sz ∧ va_P D cl w U.heap ∧ va_K D cl tys U ∧ va_D (fun _ => True) w)) (va_Qi (fun (x : Int32) (_ : Unit) => x = r) (fun _ t => va_P D cl w' t.heap ∧ va_K D cl tys t ∧ va_D (va_A w sz) w') (va_A w sz)) rm.cells rm.slots (va_A w sz)
def v_Mv (l : Launch) (D : va_G) (cl : List vw_C) (tys : List (ClassId × FieldType)) (y : MethodName) (ws : List Cond) (rm : Room) (av : List Value) (w : va_W) (w' : va_W) : Prop :=
  ∀ sz : Nat, Met l y ws rm (va_Pc av (fun U => U.heap.size = sz ∧ va_P D cl w U.heap ∧ va_K D cl tys U ∧ va_D (fun _ => True) w)) (va_Qv (fun (_ : Unit) => True) (fun _ t => va_P D cl w' t.heap ∧ va_K D cl tys t ∧ va_D (va_A w sz) w') (va_A w sz)) rm.cells rm.slots (va_A w sz)
def v_Qi (below : List Frame) (s : State) (D : va_G) (cl : List vw_C) (tys : List (ClassId × FieldType)) (rm : Room) (av : List Value) (w : va_W) (r : Int32) (w' : va_W) : State → Prop :=
  MQ below (va_Qi (fun (x : Int32) (_ : Unit) => x = r) (fun _ t => va_P D cl w' t.heap ∧ va_K D cl tys t ∧ va_D (va_A w s.heap.size) w') (va_A w s.heap.size)) av.toArray s rm.cells rm.slots (va_A w s.heap.size)
def v_Qv (below : List Frame) (s : State) (D : va_G) (cl : List vw_C) (tys : List (ClassId × FieldType)) (rm : Room) (av : List Value) (w : va_W) (w' : va_W) : State → Prop :=
  MQ below (va_Qv (fun (_ : Unit) => True) (fun _ t => va_P D cl w' t.heap ∧ va_K D cl tys t ∧ va_D (va_A w s.heap.size) w') (va_A w s.heap.size)) av.toArray s rm.cells rm.slots (va_A w s.heap.size)
theorem v_ofMi {y : MethodName} {ws ws' : List Cond} {rm : Room} {maxL : Nat} {ret : Option FieldType} {av : List Value} {r : Int32} {lv0 : List (Nat × Value)} (hy : plainName y.cls = true) (hw : ws = Cond.code y cc maxL ret :: ws') (hown : y.cls = own) (hlv : lv_args 0 av = lv0) (hn : (lg_sl av).length ≤ maxL)
    (body : ∀ (p : Program) (e : Env) (s : State) (m : MethodId) (below : List Frame) (meth : Method) (c : Code), v_C p s m av.toArray c cc own ws maxL D cl tys (va_A w s.heap.size) → meth.sig.returnType = ret → meth.locks = false → (y.name = "<init>" → meth.name = "<init>") →
      v_V p l e rm s m av.toArray below meth c D cl (va_A w s.heap.size) maxL (v_Qi below s D cl tys rm av w r w') 0 0 w 0 lv0 []) : v_Mi l D cl tys y ws rm av w r w' := by
  intro sz
  refine Met.ofW (cc := cc) (maxL := maxL) (ret := ret) hy hw ?_
  intro p e s m args below meth c s₁ B hml hv
  obtain ⟨rfl, hsz, hP, hK, hD0⟩ := hv
  subst hsz
  have hl := lv_entry av (n := maxL) hn
  rw [hlv] at hl
  rw [lg_entry_eq]
  exact body p e s m below meth c ⟨B.exec, B.bytes, by rw [← hown]; exact findClass_of_methodNamed B.named, atoms_spec (ws := ws) B.pre, hml, hK, fun q h => Or.inr h⟩ B.returns B.notSynchronized (fun h => by rw [(name_of_methodNamed B.named B.method).1]; exact h) s.heap [] _ hP (hD0.self (sz := s.heap.size)) va_S.rf hl
theorem v_ofMv {y : MethodName} {ws ws' : List Cond} {rm : Room} {maxL : Nat} {ret : Option FieldType} {av : List Value} {lv0 : List (Nat × Value)} (hy : plainName y.cls = true) (hw : ws = Cond.code y cc maxL ret :: ws') (hown : y.cls = own) (hlv : lv_args 0 av = lv0) (hn : (lg_sl av).length ≤ maxL)
    (body : ∀ (p : Program) (e : Env) (s : State) (m : MethodId) (below : List Frame) (meth : Method) (c : Code), v_C p s m av.toArray c cc own ws maxL D cl tys (va_A w s.heap.size) → meth.sig.returnType = ret → meth.locks = false → (y.name = "<init>" → meth.name = "<init>") →
      v_V p l e rm s m av.toArray below meth c D cl (va_A w s.heap.size) maxL (v_Qv below s D cl tys rm av w w') 0 0 w 0 lv0 []) : v_Mv l D cl tys y ws rm av w w' := by
  intro sz
  refine Met.ofW (cc := cc) (maxL := maxL) (ret := ret) hy hw ?_
  intro p e s m args below meth c s₁ B hml hv
  obtain ⟨rfl, hsz, hP, hK, hD0⟩ := hv
  subst hsz
  have hl := lv_entry av (n := maxL) hn
  rw [hlv] at hl
  rw [lg_entry_eq]
  exact body p e s m below meth c ⟨B.exec, B.bytes, by rw [← hown]; exact findClass_of_methodNamed B.named, atoms_spec (ws := ws) B.pre, hml, hK, fun q h => Or.inr h⟩ B.returns B.notSynchronized (fun h => by rw [(name_of_methodNamed B.named B.method).1]; exact h) s.heap [] _ hP (hD0.self (sz := s.heap.size)) va_S.rf hl
theorem v_reti {av : List Value} {w0 : va_W} {r : Int32} {rm : Room} (X : v_C p s m av.toArray c cc own Ts nL D cl tys (va_A w0 s.heap.size)) {ty : FieldType} (hr : meth.sig.returnType = some ty) (hlk : meth.locks = false) (hn : narrow ty (.int x) = .int x) (hv : x = r) (hw : w = w') (hc : cells ≤ rm.cells) (hs : slots ≤ rm.slots) (hdg : decode cc pc = .ok (.ireturn, 1)) :
    v_V p l e R s m av.toArray below meth c D cl (va_A w0 s.heap.size) nL (v_Qi below s D cl tys rm av w0 r w') cells slots w pc lv [.int x] := by
  intro H locs ls hP hD hS hl
  subst hv hw
  refine W.widen hc hs ?_
  exact W.zret X.1 X.2.1 hr hn (fun t ht hW => ⟨⟨x, (), rfl, rfl, by rw [ht]; exact hP, va_K.moved hW.alike X.2.2.2.2.2.1, hD⟩, hS.F ht⟩) hS.2.2 hdg hlk
theorem v_retv {av : List Value} {w0 : va_W} {rm : Room} (X : v_C p s m av.toArray c cc own Ts nL D cl tys (va_A w0 s.heap.size)) (hr : meth.sig.returnType = none) (hlk : meth.locks = false) (hw : w = w') (hc : cells ≤ rm.cells) (hs : slots ≤ rm.slots) (hdg : decode cc pc = .ok (.return_, 1)) :
    v_V p l e R s m av.toArray below meth c D cl (va_A w0 s.heap.size) nL (v_Qv below s D cl tys rm av w0 w') cells slots w pc lv [] := by
  intro H locs ls hP hD hS hl
  subst hw
  refine W.widen hc hs ?_
  exact W.vret X.1 X.2.1 hr (fun t ht hW => ⟨⟨(), rfl, trivial, by rw [ht]; exact hP, va_K.moved hW.alike X.2.2.2.2.2.1, hD⟩, hS.F ht⟩) hS.2.2 hdg hlk
theorem v_fm {α : Type} {ws ws' : List α} {is : List Nat} (h : is.map (fun i => ws[i]?) = ws'.map some) : is.filterMap (fun i => ws[i]?) = ws' := by
  have h2 := congrArg (List.filterMap id) h
  rw [List.filterMap_map, List.filterMap_map] at h2
  simpa using h2
end VH
end
section
section VC5
variable {p : Program} {l : Launch} {e : Env} {R : Room} {s : State} {m : MethodId} {args : Array Value} {below : List Frame} {meth : Method} {c : Code} {cc : ByteArray} {own : String} {Ts : List Cond} {nL : Nat} {D : va_G} {cl : List vw_C} {tys : List (ClassId × FieldType)} {A : Nat → Prop} {Q : State → Prop} {cells slots : Nat} {w w' : va_W} {pc tgt : Nat} {lv lv' : List (Nat × Value)} {st rest : List Value} {a b n index : Nat} {r : Int32}
variable {y : MethodName} {bytes : ByteArray} {maxL : Nat} {ret : Option FieldType} {ws : List Cond} {rm : Room} {C : String} {As : List Value} {wc wc' wr : va_W}
/-- the callee's cells among the caller's, and the caller's world behind it -/
def v_cut (w wc wr wc' w' : va_W) (isC isR perm : List Nat) : Prop :=
  isC.map (fun i => w[i]?) = wc.map some ∧ isR.map (fun i => w[i]?) = wr.map some ∧ va_nd isC = true ∧ va_nd isR = true ∧ (∀ i ∈ isR, i ∉ isC) ∧ perm.map (fun i => (wr ++ wc')[i]?) = w'.map some ∧ va_nd perm = true
theorem v_fr0 {H : Heap} {locs : List Loc} (X : v_C p s m args c cc own Ts nL D cl tys A) (hD : va_D A w) (hS : va_S A s.heap H locs) : ∀ q, va_A w H.size q → A q := by
  intro q h
  rcases h with ⟨k, e, h⟩ | h
  · exact hD.2 k (q, e) h
  · exact X.2.2.2.2.2.2 q (Nat.le_trans hS.1 h)
theorem v_blind {av : List Value} {sz : Nat} : FrameBlind (va_Pc av (fun U => U.heap.size = sz ∧ va_P D cl w U.heap ∧ va_K D cl tys U ∧ va_D (fun _ => True) w)) :=
  fun a U g mk q => ⟨q.1, q.2.1, q.2.2.1, va_K.moved (u := U) (U := U.calling g mk a) (Vm.Alike.refl U.vm) q.2.2.2.1, q.2.2.2.2⟩
theorem v_pre {H : Heap} {av : List Value} (X : v_C p s m args c cc own Ts nL D cl tys A) (hP : va_P D cl w H) (hD : va_D A w) (U : State) (hU : U.heap = H) (hW : s.WarmedH U.vm) : va_Pc av (fun U => U.heap.size = H.size ∧ va_P D cl w U.heap ∧ va_K D cl tys U ∧ va_D (fun _ => True) w) av.toArray U :=
  ⟨rfl, by rw [hU], by rw [hU]; exact hP, va_K.moved hW.alike X.2.2.2.2.2.1, hD.weaken (fun _ _ _ _ => trivial)⟩
/-- an instance method, the callee's cells are the whole world -/
theorem v_callVi (X : v_C p s m args c cc own Ts nL D cl tys A) (hM : v_Mi l D cl tys y ws rm (.ref b :: As) w r w') (cw : CallW R s args own C index y bytes maxL ret ws rm rm.cells rm.slots n)
    (q0 ci : Nat) {q : vw_C} {fs : List Value} (hcl : cl[ci]? = some q) (hqC : q.1 = C) (he : w[q0]? = some (b, .inr (ci, fs))) (hn : As.length = n) (hst : st = As.reverse ++ .ref b :: rest) (hroom : (rest.map fun v => v.category).sum ≤ 8) (hdg : decode cc pc = .ok (.invokevirtual index, 3)) (hf : cells + rm.cells ≤ R.cells ∧ slots + rm.slots ≤ R.slots)
    (kk : v_V p l e R s m args below meth c D cl A nL Q (cells + rm.cells) (slots + rm.slots) w' (pc + 3) lv (.int r :: rest)) : v_V p l e R s m args below meth c D cl A nL Q cells slots w pc lv st := by
  intro H locs ls hP hD hS hl
  subst hst hqC
  have hFc := v_fr0 X hD hS
  refine va_calli (va_runV (As := As) (rest := rest) ⟨X.1, X.2.1, X.2.2.2.2.1, X.2.2.1, X.2.2.2.1⟩ (hM H.size) cw ⟨v_blind, va_recv X.2.2.2.2.2.1 hP hcl he, v_pre X hP hD⟩ rfl hn hl.1 rfl (lv_room hroom) hdg hf) hS (fun q _ h => hFc q h) hFc (fun r' u t H1 locs1 ht hvm hw hB hz1 hk1 hS1 => ?_)
  obtain ⟨hP1, hK1, hD1⟩ := hB
  rw [ht] at hP1
  subst hw
  exact kk H1 locs1 ls hP1 (hD1.weaken (fun _ q _ h => hFc q.1 h)) hS1 hl
theorem v_callVv (X : v_C p s m args c cc own Ts nL D cl tys A) (hM : v_Mv l D cl tys y ws rm (.ref b :: As) w w') (cw : CallW R s args own C index y bytes maxL ret ws rm rm.cells rm.slots n)
    (q0 ci : Nat) {q : vw_C} {fs : List Value} (hcl : cl[ci]? = some q) (hqC : q.1 = C) (he : w[q0]? = some (b, .inr (ci, fs))) (hn : As.length = n) (hst : st = As.reverse ++ .ref b :: rest) (hroom : (rest.map fun v => v.category).sum ≤ 8) (hdg : decode cc pc = .ok (.invokevirtual index, 3)) (hf : cells + rm.cells ≤ R.cells ∧ slots + rm.slots ≤ R.slots)
    (kk : v_V p l e R s m args below meth c D cl A nL Q (cells + rm.cells) (slots + rm.slots) w' (pc + 3) lv rest) : v_V p l e R s m args below meth c D cl A nL Q cells slots w pc lv st := by
  intro H locs ls hP hD hS hl
  subst hst hqC
  have hFc := v_fr0 X hD hS
  refine va_callv (va_runV (As := As) (rest := rest) ⟨X.1, X.2.1, X.2.2.2.2.1, X.2.2.1, X.2.2.2.1⟩ (hM H.size) cw ⟨v_blind, va_recv X.2.2.2.2.2.1 hP hcl he, v_pre X hP hD⟩ rfl hn hl.1 rfl (lv_room hroom) hdg hf) hS (fun q _ h => hFc q h) hFc (fun u t H1 locs1 ht hvm hw hB hz1 hk1 hS1 => ?_)
  obtain ⟨hP1, hK1, hD1⟩ := hB
  rw [ht] at hP1
  exact kk H1 locs1 ls hP1 (hD1.weaken (fun _ q _ h => hFc q.1 h)) hS1 hl
/-- .. the callee's cells are a part of it -/
theorem v_callVic (X : v_C p s m args c cc own Ts nL D cl tys A) (hM : v_Mi l D cl tys y ws rm (.ref b :: As) wc r wc') (cw : CallW R s args own C index y bytes maxL ret ws rm rm.cells rm.slots n) (isC isR perm : List Nat) (hcut : v_cut w wc wr wc' w' isC isR perm)
    (q0 ci : Nat) {q : vw_C} {fs : List Value} (hcl : cl[ci]? = some q) (hqC : q.1 = C) (he : wc[q0]? = some (b, .inr (ci, fs))) (hn : As.length = n) (hst : st = As.reverse ++ .ref b :: rest) (hroom : (rest.map fun v => v.category).sum ≤ 8) (hdg : decode cc pc = .ok (.invokevirtual index, 3)) (hf : cells + rm.cells ≤ R.cells ∧ slots + rm.slots ≤ R.slots)
    (kk : v_V p l e R s m args below meth c D cl A nL Q (cells + rm.cells) (slots + rm.slots) w' (pc + 3) lv (.int r :: rest)) : v_V p l e R s m args below meth c D cl A nL Q cells slots w pc lv st := by
  intro H locs ls hP hD hS hl
  subst hst hqC
  obtain ⟨hC, hR, hnC, hnR, hdis, hj, hnj⟩ := hcut
  have hPc := hP.sub (ws' := wc) isC (v_fm hC)
  have hDc := hD.sub (ws' := wc) isC hnC hC
  have hFc := va_free (wc := wc) hD hS X.2.2.2.2.2.2 isC hC
  refine va_calli (va_runV (As := As) (rest := rest) ⟨X.1, X.2.1, X.2.2.2.2.1, X.2.2.1, X.2.2.2.1⟩ (hM H.size) cw ⟨v_blind, va_recv X.2.2.2.2.2.1 hPc hcl he, v_pre X hPc hDc⟩ rfl hn hl.1 rfl (lv_room hroom) hdg hf) hS (fun q _ h => hFc q h) hFc (fun r' u t H1 locs1 ht hvm hw hB hz1 hk1 hS1 => ?_)
  obtain ⟨hP1, hK1, hD1⟩ := hB
  rw [ht] at hP1
  subst hw
  obtain ⟨hP2, hD2⟩ := va_join (wr := wr) (w1 := wc') hP hD isC isR hC hR hnR hdis hk1 hFc hP1 hD1
  exact kk H1 locs1 ls (hP2.sub perm (v_fm hj)) (hD2.sub perm hnj hj) hS1 hl
theorem v_callVvc (X : v_C p s m args c cc own Ts nL D cl tys A) (hM : v_Mv l D cl tys y ws rm (.ref b :: As) wc wc') (cw : CallW R s args own C index y bytes maxL ret ws rm rm.cells rm.slots n) (isC isR perm : List Nat) (hcut : v_cut w wc wr wc' w' isC isR perm)
    (q0 ci : Nat) {q : vw_C} {fs : List Value} (hcl : cl[ci]? = some q) (hqC : q.1 = C) (he : wc[q0]? = some (b, .inr (ci, fs))) (hn : As.length = n) (hst : st = As.reverse ++ .ref b :: rest) (hroom : (rest.map fun v => v.category).sum ≤ 8) (hdg : decode cc pc = .ok (.invokevirtual index, 3)) (hf : cells + rm.cells ≤ R.cells ∧ slots + rm.slots ≤ R.slots)
    (kk : v_V p l e R s m args below meth c D cl A nL Q (cells + rm.cells) (slots + rm.slots) w' (pc + 3) lv rest) : v_V p l e R s m args below meth c D cl A nL Q cells slots w pc lv st := by
  intro H locs ls hP hD hS hl
  subst hst hqC
  obtain ⟨hC, hR, hnC, hnR, hdis, hj, hnj⟩ := hcut
  have hPc := hP.sub (ws' := wc) isC (v_fm hC)
  have hDc := hD.sub (ws' := wc) isC hnC hC
  have hFc := va_free (wc := wc) hD hS X.2.2.2.2.2.2 isC hC
  refine va_callv (va_runV (As := As) (rest := rest) ⟨X.1, X.2.1, X.2.2.2.2.1, X.2.2.1, X.2.2.2.1⟩ (hM H.size) cw ⟨v_blind, va_recv X.2.2.2.2.2.1 hPc hcl he, v_pre X hPc hDc⟩ rfl hn hl.1 rfl (lv_room hroom) hdg hf) hS (fun q _ h => hFc q h) hFc (fun u t H1 locs1 ht hvm hw hB hz1 hk1 hS1 => ?_)
  obtain ⟨hP1, hK1, hD1⟩ := hB
  rw [ht] at hP1
  obtain ⟨hP2, hD2⟩ := va_join (wr := wr) (w1 := wc') hP hD isC isR hC hR hnR hdis hk1 hFc hP1 hD1
  exact kk H1 locs1 ls (hP2.sub perm (v_fm hj)) (hD2.sub perm hnj hj) hS1 hl
/-- a static method that sees no cell -/
theorem v_callSi0 (X : v_C p s m args c cc own Ts nL D cl tys A) (hM : v_Mi l D cl tys y ws rm As [] r []) (cw : CallB R s args own index y bytes maxL ret ws rm rm.cells rm.slots n ∧ (Cond.static y).before args s = true)
    (hn : As.length = n) (hst : st = As.reverse ++ rest) (hroom : (rest.map fun v => v.category).sum ≤ 8) (hdg : decode cc pc = .ok (.invokestatic index, 3)) (hf : cells + rm.cells ≤ R.cells ∧ slots + rm.slots ≤ R.slots)
    (kk : v_V p l e R s m args below meth c D cl A nL Q (cells + rm.cells) (slots + rm.slots) w (pc + 3) lv (.int r :: rest)) : v_V p l e R s m args below meth c D cl A nL Q cells slots w pc lv st := by
  intro H locs ls hP hD hS hl
  subst hst
  have hP0 : va_P D cl [] H := fun k q h => by simp at h
  have hD0 : va_D A [] := ⟨fun i j p q h => by simp at h, fun k q h => by simp at h⟩
  have hFc : ∀ q, va_A [] H.size q → A q := v_fr0 X hD0 hS
  refine va_calli (va_runS (As := As) (rest := rest) ⟨X.1, X.2.1, X.2.2.2.2.1, X.2.2.1, X.2.2.2.1⟩ (hM H.size) cw ⟨v_blind, v_pre X hP0 hD0⟩ rfl hn hl.1 rfl (lv_room hroom) hdg hf) hS (fun q _ h => hFc q h) hFc (fun r' u t H1 locs1 ht hvm hw hB hz1 hk1 hS1 => ?_)
  subst hw
  refine kk H1 locs1 ls (hP.kept (fun k q hk => hk1 q.1 (hP k q hk).lt (fun h => ?_))) hD hS1 hl
  rcases h with ⟨k2, e2, h⟩ | h
  · simp at h
  · exact absurd (hP k q hk).lt (Nat.not_lt.mpr h)
end VC5
end
section
def v_E1 : String := "java/lang/IndexOutOfBoundsException"
def v_E2 : String := "java/lang/IllegalArgumentException"
def v_E3 : String := "java/lang/IllegalStateException"
def v_nm : List String := ["java/lang/RuntimeException", "java/lang/Exception"]
def v_strs : List (Nat × String) := [(66, "there are as many cards as there can be"), (105, "the card is not free, or its kind is banned"), (128, "too few coins, a bid for the kind already, or a banned kind"), (143, "the card is not for sale"), (145, "the player has no bid for the kind"), (152, "both cards have the same owner"), (155, "the card is not free"), (163, "the card can't be swapped now"), (165, "no swap is told of the card"), (167, "days out of range, or the player is the owner"), (172, "day out of range"), (177, "days out of range"), (193, "a match needs two players"), (195, "one of the decks is not right"), (199, "no such player"), (202, "no such kind"), (206, "no such card"), (208, "price out of range")]
def v_sup : List String := ["java/lang/RuntimeException", "java/lang/Exception", Bundle.tN]
/-- what a throw asks of the start, beside the words -/
def v_XW (A : Nat → Prop) (U : State) : Prop :=
  vx_Zq Bundle.tN "UNASSIGNED_STACK" Bundle.steD A U U.heap ∧ vx_Zq Bundle.tN "SUPPRESSED_SENTINEL" Bundle.listD A U U.heap ∧ (∀ q ∈ v_strs, ∃ sa : Nat, vk_R RX3 q.1 q.2 sa U) ∧ (∀ E ∈ [v_E1, v_E2, v_E3], va_Nw (.castable E E) U) ∧ (∀ Y ∈ v_sup, va_Nw (.declares (Bundle.initS Y)) U) ∧ ∀ q ∈ [(v_E2, v_E1), (v_E3, v_E1), (v_E3, v_E2)], va_Nc q.1 q.2 U
theorem v_XW.to {A B : Nat → Prop} {s U : State} {H : Heap} {locs : List Loc} (h : v_XW A s) (hS : va_S A s.heap H locs) (hU : U.heap = H) (hW : s.WarmedH U.vm) (hAB : ∀ q, B q → A q) : v_XW B U := by
  obtain ⟨h1, h2, h3, h4, h6, h5⟩ := h
  refine ⟨?_, ?_, fun q hq => ?_, fun E hE => va_Nw.same rfl (rfl : (s.setVm U.vm).vm = U.vm) (va_Nw.warmC hW (h4 E hE)), fun Y hY => va_tabs rfl (rfl : (s.setVm U.vm).vm = U.vm) (by rw [Cond.declares_setVm hW.alike]; exact h6 Y hY), fun q hq => (h5 q hq).moved hW.alike⟩
  · rw [hU]; exact ((h1.kept hS.2.1).moved hW.alike).narrow hAB
  · rw [hU]; exact ((h2.kept hS.2.1).moved hW.alike).narrow hAB
  · obtain ⟨sa, ha⟩ := h3 q hq
    exact ⟨sa, vk_R.warm hW ha⟩
theorem v_XW.calling {A : Nat → Prop} {U : State} {g : JFrame} {mk : MethodId} {a : Array Value} (h : v_XW A U) : v_XW A (U.calling g mk a) := by
  obtain ⟨h1, h2, h3, h4, h6, h5⟩ := h
  refine ⟨vx_Zq.moved (u := U) (Vm.Alike.refl U.vm) h1, vx_Zq.moved (u := U) (Vm.Alike.refl U.vm) h2, fun q hq => ?_, fun E hE => va_Nw.same rfl rfl (h4 E hE), fun Y hY => va_Nw.same rfl rfl (h6 Y hY), fun q hq => va_Nc.moved (u := U) (Vm.Alike.refl U.vm) (h5 q hq)⟩
  obtain ⟨sa, ha⟩ := h3 q hq
  exact ⟨sa, vk_R.same rfl ha⟩
section VX6
variable {p : Program} {l : Launch} {e : Env} {R : Room} {s : State} {m : MethodId} {args : Array Value} {below : List Frame} {meth : Method} {c : Code} {cc : ByteArray} {own : String} {Ts : List Cond} {nL : Nat} {D : va_G} {cl : List vw_C} {tys : List (ClassId × FieldType)} {A : Nat → Prop} {Q : State → Prop} {cells slots : Nat} {w w' : va_W} {pc tgt : Nat} {lv lv' : List (Nat × Value)} {st rest : List Value} {a b n index : Nat} {x r : Int32}
variable {y : MethodName} {bytes : ByteArray} {maxL : Nat} {ret : Option FieldType} {ws : List Cond} {rm : Room} {C : String} {As av : List Value} {wc wc' wr w0 : va_W} {xc xo : Option String}
def v_Pc (D : va_G) (cl : List vw_C) (tys : List (ClassId × FieldType)) (av : List Value) (w : va_W) (sz : Nat) : Array Value → State → Prop :=
  va_Pc av (fun U => U.heap.size = sz ∧ va_P D cl w U.heap ∧ va_K D cl tys U ∧ va_D (fun _ => True) w ∧ v_XW (va_A w sz) U)
def v_XC (D : va_G) (cl : List vw_C) (tys : List (ClassId × FieldType)) (w : va_W) (sz : Nat) (xo : Option String) : String → State → State → Prop :=
  vx_X (fun (_ : Unit) => True) (fun E _ t => xo = some E ∧ va_P D cl w t.heap ∧ va_K D cl tys t ∧ va_D (va_A w sz) w) (va_A w sz)
/-- contracts of methods that return or throw, the start's functions tell which -/
def v_Xi (l : Launch) (D : va_G) (cl : List vw_C) (tys : List (ClassId × FieldType)) (y : MethodName) (ws : List Cond) (rm : Room) (av : List Value) (w : va_W) (xo : Option String) (r : Int32) (w' : va_W) : Prop :=
  ∀ sz : Nat, vx_Met l y ws rm (v_Pc D cl tys av w sz) (va_Qi (fun (x : Int32) (_ : Unit) => xo = none ∧ x = r) (fun _ t => va_P D cl w' t.heap ∧ va_K D cl tys t ∧ va_D (va_A w sz) w') (va_A w sz)) (v_XC D cl tys w sz xo) rm.cells rm.slots (va_A w sz)
def v_Xv (l : Launch) (D : va_G) (cl : List vw_C) (tys : List (ClassId × FieldType)) (y : MethodName) (ws : List Cond) (rm : Room) (av : List Value) (w : va_W) (xo : Option String) (w' : va_W) : Prop :=
  ∀ sz : Nat, vx_Met l y ws rm (v_Pc D cl tys av w sz) (va_Qv (fun (_ : Unit) => xo = none) (fun _ t => va_P D cl w' t.heap ∧ va_K D cl tys t ∧ va_D (va_A w sz) w') (va_A w sz)) (v_XC D cl tys w sz xo) rm.cells rm.slots (va_A w sz)
def v_QXi (below : List Frame) (s : State) (D : va_G) (cl : List vw_C) (tys : List (ClassId × FieldType)) (rm : Room) (av : List Value) (w : va_W) (xo : Option String) (r : Int32) (w' : va_W) : State → Prop :=
  vx_MQ below (va_Qi (fun (x : Int32) (_ : Unit) => xo = none ∧ x = r) (fun _ t => va_P D cl w' t.heap ∧ va_K D cl tys t ∧ va_D (va_A w s.heap.size) w') (va_A w s.heap.size)) (v_XC D cl tys w s.heap.size xo) av.toArray s rm.cells rm.slots (va_A w s.heap.size)
def v_QXv (below : List Frame) (s : State) (D : va_G) (cl : List vw_C) (tys : List (ClassId × FieldType)) (rm : Room) (av : List Value) (w : va_W) (xo : Option String) (w' : va_W) : State → Prop :=
  vx_MQ below (va_Qv (fun (_ : Unit) => xo = none) (fun _ t => va_P D cl w' t.heap ∧ va_K D cl tys t ∧ va_D (va_A w s.heap.size) w') (va_A w s.heap.size)) (v_XC D cl tys w s.heap.size xo) av.toArray s rm.cells rm.slots (va_A w s.heap.size)
/-- what a walk that may throw stands on beside v_C -/
def v_T (l : Launch) (s : State) (meth : Method) (c : Code) (A : Nat → Prop) : Prop := l.stackTraces = false ∧ v_XW A s ∧ (∀ x ∈ c.exceptionTable.toList, False) ∧ meth.locks = false
theorem v_ofXi {ws' : List Cond} {lv0 : List (Nat × Value)} (hlt : l.stackTraces = false) (hy : plainName y.cls = true) (hw : ws = Cond.code y cc maxL ret :: ws') (hown : y.cls = own) (hlv : lv_args 0 av = lv0) (hn : (lg_sl av).length ≤ maxL)
    (body : ∀ (p : Program) (e : Env) (s : State) (m : MethodId) (below : List Frame) (meth : Method) (c : Code), v_C p s m av.toArray c cc own ws maxL D cl tys (va_A w s.heap.size) → v_T l s meth c (va_A w s.heap.size) → meth.sig.returnType = ret →
      v_V p l e rm s m av.toArray below meth c D cl (va_A w s.heap.size) maxL (v_QXi below s D cl tys rm av w xo r w') 0 0 w 0 lv0 []) : v_Xi l D cl tys y ws rm av w xo r w' := by
  intro sz
  refine vx_ofW (cc := cc) (maxL := maxL) (ret := ret) hy hw ?_
  intro p e s m args below meth c s₁ B hml ht hv
  obtain ⟨rfl, hsz, hP, hK, hD0, hXW⟩ := hv
  subst hsz
  have hl := lv_entry av (n := maxL) hn
  rw [hlv] at hl
  rw [lg_entry_eq]
  exact body p e s m below meth c ⟨B.exec, B.bytes, by rw [← hown]; exact findClass_of_methodNamed B.named, atoms_spec (ws := ws) B.pre, hml, hK, fun q h => Or.inr h⟩ ⟨hlt, hXW, ht, B.notSynchronized⟩ B.returns s.heap [] _ hP (hD0.self (sz := s.heap.size)) va_S.rf hl
theorem v_ofXv {ws' : List Cond} {lv0 : List (Nat × Value)} (hlt : l.stackTraces = false) (hy : plainName y.cls = true) (hw : ws = Cond.code y cc maxL ret :: ws') (hown : y.cls = own) (hlv : lv_args 0 av = lv0) (hn : (lg_sl av).length ≤ maxL)
    (body : ∀ (p : Program) (e : Env) (s : State) (m : MethodId) (below : List Frame) (meth : Method) (c : Code), v_C p s m av.toArray c cc own ws maxL D cl tys (va_A w s.heap.size) → v_T l s meth c (va_A w s.heap.size) → meth.sig.returnType = ret →
      v_V p l e rm s m av.toArray below meth c D cl (va_A w s.heap.size) maxL (v_QXv below s D cl tys rm av w xo w') 0 0 w 0 lv0 []) : v_Xv l D cl tys y ws rm av w xo w' := by
  intro sz
  refine vx_ofW (cc := cc) (maxL := maxL) (ret := ret) hy hw ?_
  intro p e s m args below meth c s₁ B hml ht hv
  obtain ⟨rfl, hsz, hP, hK, hD0, hXW⟩ := hv
  subst hsz
  have hl := lv_entry av (n := maxL) hn
  rw [hlv] at hl
  rw [lg_entry_eq]
  exact body p e s m below meth c ⟨B.exec, B.bytes, by rw [← hown]; exact findClass_of_methodNamed B.named, atoms_spec (ws := ws) B.pre, hml, hK, fun q h => Or.inr h⟩ ⟨hlt, hXW, ht, B.notSynchronized⟩ B.returns s.heap [] _ hP (hD0.self (sz := s.heap.size)) va_S.rf hl
theorem v_xreti (X : v_C p s m av.toArray c cc own Ts nL D cl tys (va_A w0 s.heap.size)) (T : v_T l s meth c (va_A w0 s.heap.size)) {ty : FieldType} (hr : meth.sig.returnType = some ty) (hn : narrow ty (.int x) = .int x) (hxo : xo = none) (hv : x = r) (hw : w = w') (hc : cells ≤ rm.cells) (hs : slots ≤ rm.slots) (hdg : decode cc pc = .ok (.ireturn, 1)) :
    v_V p l e R s m av.toArray below meth c D cl (va_A w0 s.heap.size) nL (v_QXi below s D cl tys rm av w0 xo r w') cells slots w pc lv [.int x] := by
  intro H locs ls hP hD hS hl
  subst hv hw
  refine W.widen hc hs (vx_ret ?_)
  exact W.zret X.1 X.2.1 hr hn (fun t ht hW => ⟨⟨x, (), rfl, ⟨hxo, rfl⟩, by rw [ht]; exact hP, va_K.moved hW.alike X.2.2.2.2.2.1, hD⟩, hS.F ht⟩) hS.2.2 hdg T.2.2.2
theorem v_xretv (X : v_C p s m av.toArray c cc own Ts nL D cl tys (va_A w0 s.heap.size)) (T : v_T l s meth c (va_A w0 s.heap.size)) (hr : meth.sig.returnType = none) (hxo : xo = none) (hw : w = w') (hc : cells ≤ rm.cells) (hs : slots ≤ rm.slots) (hdg : decode cc pc = .ok (.return_, 1)) :
    v_V p l e R s m av.toArray below meth c D cl (va_A w0 s.heap.size) nL (v_QXv below s D cl tys rm av w0 xo w') cells slots w pc lv [] := by
  intro H locs ls hP hD hS hl
  subst hw
  refine W.widen hc hs (vx_ret ?_)
  exact W.vret X.1 X.2.1 hr (fun t ht hW => ⟨⟨(), rfl, hxo, by rw [ht]; exact hP, va_K.moved hW.alike X.2.2.2.2.2.1, hD⟩, hS.F ht⟩) hS.2.2 hdg T.2.2.2
/-- what a throw of E links: the places ik (the class), ic (its constructor) -/
def v_EL (E : String) (ik ic : Nat) : Prop := Bundle.fit E = true ∧ (∀ w ∈ Cond.classLink RX3 ik E :: Cond.initialized E :: vx_atS RX3 ic E v_nm, vx_ot w = true) ∧ (∀ w ∈ (vx_atS RX3 ic E v_nm).filter (fun w => !goodWord w), w ∈ Cond.castable E E :: v_sup.map (fun Y => Cond.declares (Bundle.initS Y))) ∧ E ∈ [v_E1, v_E2, v_E3]
theorem v_EL1 : v_EL v_E1 197 201 := ⟨by decide +kernel, by decide +kernel, by decide +kernel, by decide +kernel⟩
theorem v_EL2 : v_EL v_E2 150 154 := ⟨by decide +kernel, by decide +kernel, by decide +kernel, by decide +kernel⟩
theorem v_EL3 : v_EL v_E3 64 68 := ⟨by decide +kernel, by decide +kernel, by decide +kernel, by decide +kernel⟩
theorem v_nmok : ∀ n ∈ v_nm, Bundle.fit n = true := by decide +kernel
theorem v_throwG {Qc : Array Value → State → Outcome → State → Prop} {E text : String} {ik is ic : Nat} (X : v_C p s m av.toArray c cc RX3 Ts nL D cl tys (va_A w0 s.heap.size)) (T : v_T l s meth c (va_A w0 s.heap.size)) (hE : v_EL E ik ic) (hk : Cond.classLink RX3 ik E ∈ Ts) (hini : Cond.initialized E ∈ Ts) (hat : ∀ w ∈ (vx_atS RX3 ic E v_nm).filter goodWord, w ∈ Ts) (hstr : (is, text) ∈ v_strs)
    (d0 : decode cc pc = .ok (.new ik, 3)) (d3 : decode cc (pc + 3) = .ok (.dup, 1)) (d4 : decode cc (pc + 4) = .ok (.ldc is, 2)) (d6 : decode cc (pc + 6) = .ok (.invokespecial ic, 3)) (d9 : decode cc (pc + 9) = .ok (.athrow, 1))
    (hxo : xo = some E) (hw : w = w0) (hR : 6 ≤ R.frames ∧ (st.map fun v => v.category).sum + 82 ≤ R.locals ∧ cells + 1 ≤ R.cells ∧ slots + 6 ≤ R.slots) (hc : cells + 1 ≤ rm.cells) (hs : slots + 6 ≤ rm.slots) :
    v_V p l e R s m av.toArray below meth c D cl (va_A w0 s.heap.size) nL (vx_MQ below Qc (v_XC D cl tys w0 s.heap.size xo) av.toArray s rm.cells rm.slots (va_A w0 s.heap.size)) cells slots w pc lv st := by
  intro H locs ls hP hD hS hl
  subst hw
  obtain ⟨hEf, hgood, hng, hEm⟩ := hE
  obtain ⟨hlt, hXW, htab, hlocks⟩ := T
  obtain ⟨sa, hsa⟩ := hXW.2.2.1 _ hstr
  have hcast : (Cond.castable E E).before av.toArray s = true := va_Nw.use rfl (hXW.2.2.2.1 E hEm)
  refine vx_throwS (A := va_A w s.heap.size) (text := text) (is := is) (sa := sa) X.1 X.2.1 hlt X.2.2.1 hEf v_nmok (X.2.2.2.1 _ hk) (X.2.2.2.1 _ hini) hsa (vx_hat (fun w hw => X.2.2.2.1 _ (hat w hw)) hng (vx_c hcast (fun w hw => by
    obtain ⟨Y, hY, rfl⟩ := List.mem_map.mp hw
    exact va_Nw.use rfl (hXW.2.2.2.2.1 Y hY)))) hgood hXW.1 hXW.2.1 hS (hl.1.trans X.2.2.2.2.1.symm) d0 d3 d4 d6 d9 (fun x hx => (htab x hx).elim) ?_ ?_ hR.2.2.1 hR.2.2.2 hlocks ?_ hS.2.2 hc hs
  · show 2 + 3 < R.frames
    exact hR.1
  · exact hR.2.1
  · intro t hal hz hk
    refine ⟨(), trivial, ⟨hxo, hP.kept (fun k q hq => hk q.1 (hP k q hq).lt), va_K.moved hal X.2.2.2.2.2.1, hD⟩, Nat.le_trans hS.1 hz, fun q h1 h2 => ?_⟩
    rw [hk q (Nat.lt_of_lt_of_le h1 hS.1)]
    exact hS.2.1 q h1 h2
/-- a thrown E is under way at pc -/
def v_VX (p : Program) (l : Launch) (e : Env) (R : Room) (s : State) (m : MethodId) (args : Array Value) (below : List Frame) (meth : Method) (c : Code) (D : va_G) (cl : List vw_C) (A : Nat → Prop) (nL : Nat) (Q : State → Prop) (cells slots : Nat) (w : va_W) (pc : Nat) (lv : List (Nat × Value)) (st : List Value) (E : String) (q9 : Nat) : Prop :=
  ∀ (H : Heap) (locs : List Loc) (ls : Array Slot) (ce : Cell), va_P D cl w H → va_D A w → va_S A s.heap H locs → lv_has ls nL lv → H[q9]? = some ce → ce.vm = .none → s.vm.findClass E = some ce.cls → vx_W p l e R s m args below meth c H locs cells slots Q (F0 m pc ls st) q9
theorem v_outG {Qc : Array Value → State → Outcome → State → Prop} {E : String} {q9 : Nat} (X : v_C p s m av.toArray c cc own Ts nL D cl tys (va_A w0 s.heap.size)) (T : v_T l s meth c (va_A w0 s.heap.size)) (hxo : xo = some E) (hw : w = w0) (hc : cells ≤ rm.cells) (hs : slots ≤ rm.slots) :
    v_VX p l e R s m av.toArray below meth c D cl (va_A w0 s.heap.size) nL (vx_MQ below Qc (v_XC D cl tys w0 s.heap.size xo) av.toArray s rm.cells rm.slots (va_A w0 s.heap.size)) cells slots w pc lv st E q9 := by
  intro H locs ls ce hP hD hS hl hce hcv hcl
  subst hw
  refine vx_out (fun x hx => (T.2.2.1 x hx).elim) T.2.2.2 hce hcv hcl (fun t ht hal => ?_) hS.2.2 hc hs
  exact ⟨(), trivial, ⟨hxo, by rw [ht]; exact hP, va_K.moved hal X.2.2.2.2.2.1, hD⟩, hS.F ht⟩
theorem v_catch {E name : String} {q9 : Nat} {pre suf : List ExceptionTableEntry} {z : ExceptionTableEntry} (X : v_C p s m args c cc own Ts nL D cl tys A) (htab : c.exceptionTable.toList = pre ++ z :: suf) (hpass : ∀ y ∈ pre, covers y pc = false ∨ (y.catchType ≠ 0 ∧ ∃ nm : String, (Cond.classLink own y.catchType nm).before args s = true ∧ va_Nc E nm s)) (hz : covers z pc = true) (h0 : z.catchType ≠ 0) (hlink : Cond.classLink own z.catchType name ∈ Ts) (hcast : va_Nw (.castable E name) s)
    (k : v_V p l e R s m args below meth c D cl A nL Q cells slots w z.handlerPc lv [.ref q9]) : v_VX p l e R s m args below meth c D cl A nL Q cells slots w pc lv st E q9 := by
  intro H locs ls ce hP hD hS hl hce hcv hcl
  exact vx_catch X.2.2.1 pre z suf htab hpass hz h0 (X.2.2.2.1 _ hlink) (va_Nw.use rfl hcast) hce hcv hcl (k H locs ls hP hD hS hl)
theorem v_blindX {sz : Nat} : FrameBlind (v_Pc D cl tys av w sz) :=
  fun a U g mk q => ⟨q.1, q.2.1, q.2.2.1, va_K.moved (u := U) (U := U.calling g mk a) (Vm.Alike.refl U.vm) q.2.2.2.1, q.2.2.2.2.1, q.2.2.2.2.2.calling⟩
theorem v_preX {H : Heap} {locs : List Loc} (X : v_C p s m args c cc own Ts nL D cl tys A) (hXW : v_XW A s) (hS : va_S A s.heap H locs) (hP : va_P D cl w H) (hD : va_D A w) (hF : ∀ q, va_A w H.size q → A q) (U : State) (hU : U.heap = H) (hW : s.WarmedH U.vm) : v_Pc D cl tys av w H.size av.toArray U :=
  ⟨rfl, by rw [hU], by rw [hU]; exact hP, va_K.moved hW.alike X.2.2.2.2.2.1, hD.weaken (fun _ _ _ _ => trivial), hXW.to hS hU hW hF⟩
/-- calls of methods that may throw -/
theorem v_xcallVi (X : v_C p s m args c cc own Ts nL D cl tys A) (hXW : v_XW A s) (hM : v_Xi l D cl tys y ws rm (.ref b :: As) w xc r w') (cw : CallW R s args own C index y bytes maxL ret ws rm rm.cells rm.slots n)
    (q0 ci : Nat) {q : vw_C} {fs : List Value} (hcl : cl[ci]? = some q) (hqC : q.1 = C) (he : w[q0]? = some (b, .inr (ci, fs))) (hn : As.length = n) (hst : st = As.reverse ++ .ref b :: rest) (hroom : (rest.map fun v => v.category).sum ≤ 8) (hdg : decode cc pc = .ok (.invokevirtual index, 3)) (hf : cells + rm.cells ≤ R.cells ∧ slots + rm.slots ≤ R.slots)
    (kx : ∀ (E : String) (q9 : Nat), xc = some E → v_VX p l e R s m args below meth c D cl A nL Q (cells + rm.cells) (slots + rm.slots) w pc lv rest E q9)
    (kk : xc = none → v_V p l e R s m args below meth c D cl A nL Q (cells + rm.cells) (slots + rm.slots) w' (pc + 3) lv (.int r :: rest)) : v_V p l e R s m args below meth c D cl A nL Q cells slots w pc lv st := by
  intro H locs ls hP hD hS hl
  subst hst hqC
  have hFc := v_fr0 X hD hS
  refine vx_calli (vx_runV (As := As) (rest := rest) ⟨X.1, X.2.1, X.2.2.2.2.1, X.2.2.1, X.2.2.2.1⟩ (hM H.size) cw ⟨v_blindX, va_recv X.2.2.2.2.2.1 hP hcl he, v_preX X hXW hS hP hD hFc⟩ rfl hn hl.1 rfl (lv_room hroom) hdg hf) hS (fun q _ h => hFc q h) hFc (fun q _ h => hFc q h) (fun E ce q9 u t H1 locs1 ht hvm hpx hB hz1 hk1 hS1 hce hcv hfc => ?_) (fun r' u t H1 locs1 ht hvm hw hB hz1 hk1 hS1 => ?_)
  · obtain ⟨hx, hP1, hK1, hD1⟩ := hB
    rw [ht] at hP1
    exact kx E q9 hx H1 locs1 ls ce hP1 hD hS1 hl hce hcv hfc
  · obtain ⟨hP1, hK1, hD1⟩ := hB
    rw [ht] at hP1
    obtain ⟨hx, rfl⟩ := hw
    exact kk hx H1 locs1 ls hP1 (hD1.weaken (fun _ q _ h => hFc q.1 h)) hS1 hl
theorem v_xcallVv (X : v_C p s m args c cc own Ts nL D cl tys A) (hXW : v_XW A s) (hM : v_Xv l D cl tys y ws rm (.ref b :: As) w xc w') (cw : CallW R s args own C index y bytes maxL ret ws rm rm.cells rm.slots n)
    (q0 ci : Nat) {q : vw_C} {fs : List Value} (hcl : cl[ci]? = some q) (hqC : q.1 = C) (he : w[q0]? = some (b, .inr (ci, fs))) (hn : As.length = n) (hst : st = As.reverse ++ .ref b :: rest) (hroom : (rest.map fun v => v.category).sum ≤ 8) (hdg : decode cc pc = .ok (.invokevirtual index, 3)) (hf : cells + rm.cells ≤ R.cells ∧ slots + rm.slots ≤ R.slots)
    (kx : ∀ (E : String) (q9 : Nat), xc = some E → v_VX p l e R s m args below meth c D cl A nL Q (cells + rm.cells) (slots + rm.slots) w pc lv rest E q9)
    (kk : xc = none → v_V p l e R s m args below meth c D cl A nL Q (cells + rm.cells) (slots + rm.slots) w' (pc + 3) lv rest) : v_V p l e R s m args below meth c D cl A nL Q cells slots w pc lv st := by
  intro H locs ls hP hD hS hl
  subst hst hqC
  have hFc := v_fr0 X hD hS
  refine vx_callv (vx_runV (As := As) (rest := rest) ⟨X.1, X.2.1, X.2.2.2.2.1, X.2.2.1, X.2.2.2.1⟩ (hM H.size) cw ⟨v_blindX, va_recv X.2.2.2.2.2.1 hP hcl he, v_preX X hXW hS hP hD hFc⟩ rfl hn hl.1 rfl (lv_room hroom) hdg hf) hS (fun q _ h => hFc q h) hFc (fun q _ h => hFc q h) (fun E ce q9 u t H1 locs1 ht hvm hpx hB hz1 hk1 hS1 hce hcv hfc => ?_) (fun u t H1 locs1 ht hvm hw hB hz1 hk1 hS1 => ?_)
  · obtain ⟨hx, hP1, hK1, hD1⟩ := hB
    rw [ht] at hP1
    exact kx E q9 hx H1 locs1 ls ce hP1 hD hS1 hl hce hcv hfc
  · obtain ⟨hP1, hK1, hD1⟩ := hB
    rw [ht] at hP1
    exact kk hw H1 locs1 ls hP1 (hD1.weaken (fun _ q _ h => hFc q.1 h)) hS1 hl
/-- .. the callee's cells are a part -/
theorem v_xcallVic (X : v_C p s m args c cc own Ts nL D cl tys A) (hXW : v_XW A s) (hM : v_Xi l D cl tys y ws rm (.ref b :: As) wc xc r wc') (cw : CallW R s args own C index y bytes maxL ret ws rm rm.cells rm.slots n) (isC isR perm : List Nat) (hcut : v_cut w wc wr wc' w' isC isR perm) (hcut0 : v_cut w wc wr wc w isC isR perm)
    (q0 ci : Nat) {q : vw_C} {fs : List Value} (hcl : cl[ci]? = some q) (hqC : q.1 = C) (he : wc[q0]? = some (b, .inr (ci, fs))) (hn : As.length = n) (hst : st = As.reverse ++ .ref b :: rest) (hroom : (rest.map fun v => v.category).sum ≤ 8) (hdg : decode cc pc = .ok (.invokevirtual index, 3)) (hf : cells + rm.cells ≤ R.cells ∧ slots + rm.slots ≤ R.slots)
    (kx : ∀ (E : String) (q9 : Nat), xc = some E → v_VX p l e R s m args below meth c D cl A nL Q (cells + rm.cells) (slots + rm.slots) w pc lv rest E q9)
    (kk : xc = none → v_V p l e R s m args below meth c D cl A nL Q (cells + rm.cells) (slots + rm.slots) w' (pc + 3) lv (.int r :: rest)) : v_V p l e R s m args below meth c D cl A nL Q cells slots w pc lv st := by
  intro H locs ls hP hD hS hl
  subst hst hqC
  obtain ⟨hC, hR, hnC, hnR, hdis, hj, hnj⟩ := hcut
  have hPc := hP.sub (ws' := wc) isC (v_fm hC)
  have hDc := hD.sub (ws' := wc) isC hnC hC
  have hFc := va_free (wc := wc) hD hS X.2.2.2.2.2.2 isC hC
  refine vx_calli (vx_runV (As := As) (rest := rest) ⟨X.1, X.2.1, X.2.2.2.2.1, X.2.2.1, X.2.2.2.1⟩ (hM H.size) cw ⟨v_blindX, va_recv X.2.2.2.2.2.1 hPc hcl he, v_preX X hXW hS hPc hDc hFc⟩ rfl hn hl.1 rfl (lv_room hroom) hdg hf) hS (fun q _ h => hFc q h) hFc (fun q _ h => hFc q h) (fun E ce q9 u t H1 locs1 ht hvm hpx hB hz1 hk1 hS1 hce hcv hfc => ?_) (fun r' u t H1 locs1 ht hvm hw hB hz1 hk1 hS1 => ?_)
  · obtain ⟨hx, hP1, hK1, hD1⟩ := hB
    rw [ht] at hP1
    obtain ⟨hP2, hD2⟩ := va_join (wr := wr) (w1 := wc) hP hD isC isR hC hR hnR hdis hk1 hFc hP1 hD1
    exact kx E q9 hx H1 locs1 ls ce (hP2.sub perm (v_fm hcut0.2.2.2.2.2.1)) hD hS1 hl hce hcv hfc
  · obtain ⟨hP1, hK1, hD1⟩ := hB
    rw [ht] at hP1
    obtain ⟨hx, rfl⟩ := hw
    obtain ⟨hP2, hD2⟩ := va_join (wr := wr) (w1 := wc') hP hD isC isR hC hR hnR hdis hk1 hFc hP1 hD1
    exact kk hx H1 locs1 ls (hP2.sub perm (v_fm hj)) (hD2.sub perm hnj hj) hS1 hl
theorem v_xcallVvc (X : v_C p s m args c cc own Ts nL D cl tys A) (hXW : v_XW A s) (hM : v_Xv l D cl tys y ws rm (.ref b :: As) wc xc wc') (cw : CallW R s args own C index y bytes maxL ret ws rm rm.cells rm.slots n) (isC isR perm : List Nat) (hcut : v_cut w wc wr wc' w' isC isR perm) (hcut0 : v_cut w wc wr wc w isC isR perm)
    (q0 ci : Nat) {q : vw_C} {fs : List Value} (hcl : cl[ci]? = some q) (hqC : q.1 = C) (he : wc[q0]? = some (b, .inr (ci, fs))) (hn : As.length = n) (hst : st = As.reverse ++ .ref b :: rest) (hroom : (rest.map fun v => v.category).sum ≤ 8) (hdg : decode cc pc = .ok (.invokevirtual index, 3)) (hf : cells + rm.cells ≤ R.cells ∧ slots + rm.slots ≤ R.slots)
    (kx : ∀ (E : String) (q9 : Nat), xc = some E → v_VX p l e R s m args below meth c D cl A nL Q (cells + rm.cells) (slots + rm.slots) w pc lv rest E q9)
    (kk : xc = none → v_V p l e R s m args below meth c D cl A nL Q (cells + rm.cells) (slots + rm.slots) w' (pc + 3) lv rest) : v_V p l e R s m args below meth c D cl A nL Q cells slots w pc lv st := by
  intro H locs ls hP hD hS hl
  subst hst hqC
  obtain ⟨hC, hR, hnC, hnR, hdis, hj, hnj⟩ := hcut
  have hPc := hP.sub (ws' := wc) isC (v_fm hC)
  have hDc := hD.sub (ws' := wc) isC hnC hC
  have hFc := va_free (wc := wc) hD hS X.2.2.2.2.2.2 isC hC
  refine vx_callv (vx_runV (As := As) (rest := rest) ⟨X.1, X.2.1, X.2.2.2.2.1, X.2.2.1, X.2.2.2.1⟩ (hM H.size) cw ⟨v_blindX, va_recv X.2.2.2.2.2.1 hPc hcl he, v_preX X hXW hS hPc hDc hFc⟩ rfl hn hl.1 rfl (lv_room hroom) hdg hf) hS (fun q _ h => hFc q h) hFc (fun q _ h => hFc q h) (fun E ce q9 u t H1 locs1 ht hvm hpx hB hz1 hk1 hS1 hce hcv hfc => ?_) (fun u t H1 locs1 ht hvm hw hB hz1 hk1 hS1 => ?_)
  · obtain ⟨hx, hP1, hK1, hD1⟩ := hB
    rw [ht] at hP1
    obtain ⟨hP2, hD2⟩ := va_join (wr := wr) (w1 := wc) hP hD isC isR hC hR hnR hdis hk1 hFc hP1 hD1
    exact kx E q9 hx H1 locs1 ls ce (hP2.sub perm (v_fm hcut0.2.2.2.2.2.1)) hD hS1 hl hce hcv hfc
  · obtain ⟨hP1, hK1, hD1⟩ := hB
    rw [ht] at hP1
    obtain ⟨hP2, hD2⟩ := va_join (wr := wr) (w1 := wc') hP hD isC isR hC hR hnR hdis hk1 hFc hP1 hD1
    exact kk hw H1 locs1 ls (hP2.sub perm (v_fm hj)) (hD2.sub perm hnj hj) hS1 hl
theorem v_xcallSv0 (X : v_C p s m args c cc own Ts nL D cl tys A) (hXW : v_XW A s) (hM : v_Xv l D cl tys y ws rm As [] xc []) (cw : CallB R s args own index y bytes maxL ret ws rm rm.cells rm.slots n ∧ (Cond.static y).before args s = true)
    (hn : As.length = n) (hst : st = As.reverse ++ rest) (hroom : (rest.map fun v => v.category).sum ≤ 8) (hdg : decode cc pc = .ok (.invokestatic index, 3)) (hf : cells + rm.cells ≤ R.cells ∧ slots + rm.slots ≤ R.slots)
    (kx : ∀ (E : String) (q9 : Nat), xc = some E → v_VX p l e R s m args below meth c D cl A nL Q (cells + rm.cells) (slots + rm.slots) w pc lv rest E q9)
    (kk : xc = none → v_V p l e R s m args below meth c D cl A nL Q (cells + rm.cells) (slots + rm.slots) w (pc + 3) lv rest) : v_V p l e R s m args below meth c D cl A nL Q cells slots w pc lv st := by
  intro H locs ls hP hD hS hl
  subst hst
  have hP0 : va_P D cl [] H := fun k q h => by simp at h
  have hD0 : va_D A [] := ⟨fun i j p q h => by simp at h, fun k q h => by simp at h⟩
  have hFc : ∀ q, va_A [] H.size q → A q := v_fr0 X hD0 hS
  have hst : ∀ H1 : Heap, (∀ q : Nat, q < H.size → ¬ va_A [] H.size q → H1[q]? = H[q]?) → va_P D cl w H1 := fun H1 hk1 => hP.kept (fun k q hk => hk1 q.1 (hP k q hk).lt (fun h => by
    rcases h with ⟨k2, e2, h⟩ | h
    · simp at h
    · exact absurd (hP k q hk).lt (Nat.not_lt.mpr h)))
  refine vx_callv (vx_runS (As := As) (rest := rest) ⟨X.1, X.2.1, X.2.2.2.2.1, X.2.2.1, X.2.2.2.1⟩ (hM H.size) cw ⟨v_blindX, v_preX X hXW hS hP0 hD0 hFc⟩ rfl hn hl.1 rfl (lv_room hroom) hdg hf) hS (fun q _ h => hFc q h) hFc (fun q _ h => hFc q h) (fun E ce q9 u t H1 locs1 ht hvm hpx hB hz1 hk1 hS1 hce hcv hfc => ?_) (fun u t H1 locs1 ht hvm hw hB hz1 hk1 hS1 => ?_)
  · exact kx E q9 hB.1 H1 locs1 ls ce (hst H1 hk1) hD hS1 hl hce hcv hfc
  · exact kk hw H1 locs1 ls (hst H1 hk1) hD hS1 hl
end VX6
end
section
abbrev St : Type := Nat → Nat → Int32
def sU (S : St) (i k : Nat) (x : Int32) : St := fun b => if b = i then upd (S i) k x else S b
theorem sU_ne {S : St} {i k b : Nat} {x : Int32} (h : b ≠ i) : sU S i k x b = S b := if_neg h
theorem sU_eq {S : St} {i k : Nat} {x : Int32} : sU S i k x i = upd (S i) k x := if_pos rfl
abbrev tyl (cI cII cL : ClassId) : List (ClassId × FieldType) := [(cI, .int), (cII, .array .int), (cL, .long)]
def cntC (S : St) : Prop := 0 ≤ (S 4 8).toInt ∧ (S 4 8).toInt ≤ 30
def cntM (S : St) : Prop := 0 ≤ (S 0 10).toInt ∧ (S 0 10).toInt ≤ 30
def hisC (S : St) : Prop := 0 ≤ (S 26 2).toInt ∧ (S 26 2).toInt ≤ 512
theorem v_num {x : Int32} {M : Nat} (hM : M < 2 ^ 31) (h : 0 ≤ x.toInt ∧ x.toInt ≤ M) : ∃ N : Nat, x = nI N ∧ N ≤ M ∧ x.toNatClampNeg = N := by
  have h1 : vp_in x (M + 1) := vp_in_iff.mpr ⟨h.1, by omega⟩
  by_cases h2 : M + 1 < 2 ^ 31
  · obtain ⟨j, hj, e⟩ := vp_in_of h1 h2
    exact ⟨j, e, by omega, by rw [e]; exact nI_clamp (by omega)⟩
  · obtain ⟨j, hj, e⟩ := nI_of (x := x) (by rw [Int32.lt_iff_toInt_lt]; simpa using h.1)
    refine ⟨j, e, ?_, by rw [e]; exact nI_clamp hj⟩
    omega
theorem vp_lt {x : Int32} {n : Nat} (h : vp_in x n) : x.toNatClampNeg < n := Nat.not_le.mp fun q => h (Or.inr q)
theorem vp_up {x : Int32} {n m : Nat} (h : vp_in x n) (hm : n ≤ m) : vp_in x m := by
  rw [vp_in_iff] at h ⊢
  omega
theorem vp_8 {x y : Int32} (h1 : vp_in x 5) (h2 : vp_in y 8) : vp_in (8 * x + y) 40 := by
  obtain ⟨i, hi, rfl⟩ := vp_in_of h1 (by decide)
  obtain ⟨j, hj, rfl⟩ := vp_in_of h2 (by decide)
  rw [show (8 : Int32) = nI 8 from rfl, pk_mul, nI_add]
  exact vp_in_nI (by omega) (by decide)
theorem narrow_b {v : Int32} (h : v = 0 ∨ v = 1) : narrow .boolean (.int v) = .int v := by
  rcases h with rfl | rfl <;> rfl
theorem j5 {P : Nat → Prop} {j : Nat} (h : j < 5) (h0 : P 0) (h1 : P 1) (h2 : P 2) (h3 : P 3) (h4 : P 4) : P j := by
  match j, h with
  | 0, _ => exact h0
  | 1, _ => exact h1
  | 2, _ => exact h2
  | 3, _ => exact h3
  | 4, _ => exact h4

def wT (h : Nat → Nat) (cI cII : ClassId) (S : St) : va_W := [(h 0, .inr (3, [.ref (h 4), .ref (h 13), .ref (h 26), .ref (h 1), .ref (h 2), .ref (h 3), .int (S 0 6), .int (S 0 7)])), (h 1, .inl (cI, 5, .inl (S 1))), (h 2, .inl (cI, 8, .inl (S 2))), (h 3, .inl (cI, 5, .inl (S 3))), (h 4, .inr (1, [.ref (h 5), .ref (h 6), .ref (h 7), .ref (h 8), .ref (h 9), .ref (h 10), .ref (h 11), .ref (h 12), .int (S 4 8)])), (h 5, .inl (cI, 30, .inl (S 5))), (h 6, .inl (cI, 30, .inl (S 6))), (h 7, .inl (cI, 30, .inl (S 7))), (h 8, .inl (cI, 30, .inl (S 8))), (h 9, .inl (cI, 30, .inl (S 9))), (h 10, .inl (cI, 30, .inl (S 10))), (h 11, .inl (cI, 30, .inl (S 11))), (h 12, .inl (cI, 30, .inl (S 12))), (h 13, .inr (0, [.ref (h 14), .ref (h 20)])), (h 14, .inl (cII, 5, .inr (.inr (.inr (.inr (fun j => if j < 5 then some (h (15 + j)) else none)))))), (h 15, .inl (cI, 8, .inl (S 15))), (h 16, .inl (cI, 8, .inl (S 16))), (h 17, .inl (cI, 8, .inl (S 17))), (h 18, .inl (cI, 8, .inl (S 18))), (h 19, .inl (cI, 8, .inl (S 19))), (h 20, .inl (cII, 5, .inr (.inr (.inr (.inr (fun j => if j < 5 then some (h (21 + j)) else none)))))), (h 21, .inl (cI, 8, .inl (S 21))), (h 22, .inl (cI, 8, .inl (S 22))), (h 23, .inl (cI, 8, .inl (S 23))), (h 24, .inl (cI, 8, .inl (S 24))), (h 25, .inl (cI, 8, .inl (S 25))), (h 26, .inr (2, [.ref (h 27), .ref (h 28), .int (S 26 2)])), (h 27, .inl (cI, 512, .inl (S 27))), (h 28, .inl (cI, 512, .inl (S 28)))]
def wC (h : Nat → Nat) (cI : ClassId) (S : St) : va_W := [(h 4, .inr (1, [.ref (h 5), .ref (h 6), .ref (h 7), .ref (h 8), .ref (h 9), .ref (h 10), .ref (h 11), .ref (h 12), .int (S 4 8)])), (h 5, .inl (cI, 30, .inl (S 5))), (h 6, .inl (cI, 30, .inl (S 6))), (h 7, .inl (cI, 30, .inl (S 7))), (h 8, .inl (cI, 30, .inl (S 8))), (h 9, .inl (cI, 30, .inl (S 9))), (h 10, .inl (cI, 30, .inl (S 10))), (h 11, .inl (cI, 30, .inl (S 11))), (h 12, .inl (cI, 30, .inl (S 12)))]
def wB (h : Nat → Nat) (cI cII : ClassId) (S : St) : va_W := [(h 13, .inr (0, [.ref (h 14), .ref (h 20)])), (h 14, .inl (cII, 5, .inr (.inr (.inr (.inr (fun j => if j < 5 then some (h (15 + j)) else none)))))), (h 15, .inl (cI, 8, .inl (S 15))), (h 16, .inl (cI, 8, .inl (S 16))), (h 17, .inl (cI, 8, .inl (S 17))), (h 18, .inl (cI, 8, .inl (S 18))), (h 19, .inl (cI, 8, .inl (S 19))), (h 20, .inl (cII, 5, .inr (.inr (.inr (.inr (fun j => if j < 5 then some (h (21 + j)) else none)))))), (h 21, .inl (cI, 8, .inl (S 21))), (h 22, .inl (cI, 8, .inl (S 22))), (h 23, .inl (cI, 8, .inl (S 23))), (h 24, .inl (cI, 8, .inl (S 24))), (h 25, .inl (cI, 8, .inl (S 25)))]
def wH (h : Nat → Nat) (cI : ClassId) (S : St) : va_W := [(h 26, .inr (2, [.ref (h 27), .ref (h 28), .int (S 26 2)])), (h 27, .inl (cI, 512, .inl (S 27))), (h 28, .inl (cI, 512, .inl (S 28)))]
def wM (h : Nat → Nat) (cI : ClassId) (S : St) : va_W := [(h 0, .inr (4, [.int (S 0 0), .ref (h 1), .ref (h 2), .ref (h 3), .ref (h 4), .ref (h 5), .ref (h 6), .ref (h 7), .ref (h 8), .ref (h 9), .int (S 0 10), .ref (h 11), .ref (h 12), .int (S 0 13), .ref (h 14), .ref (h 15), .int (S 0 16)])), (h 1, .inl (cI, 5, .inl (S 1))), (h 2, .inl (cI, 30, .inl (S 2))), (h 3, .inl (cI, 30, .inl (S 3))), (h 4, .inl (cI, 30, .inl (S 4))), (h 5, .inl (cI, 30, .inl (S 5))), (h 6, .inl (cI, 30, .inl (S 6))), (h 7, .inl (cI, 30, .inl (S 7))), (h 8, .inl (cI, 30, .inl (S 8))), (h 9, .inl (cI, 30, .inl (S 9))), (h 11, .inl (cI, 40, .inl (S 11))), (h 12, .inl (cI, 40, .inl (S 12))), (h 14, .inl (cI, 8, .inl (S 14))), (h 15, .inl (cI, 5, .inl (S 15)))]
def wTxC (h : Nat → Nat) (cI cII : ClassId) (S : St) : va_W := [(h 0, .inr (3, [.ref (h 4), .ref (h 13), .ref (h 26), .ref (h 1), .ref (h 2), .ref (h 3), .int (S 0 6), .int (S 0 7)])), (h 1, .inl (cI, 5, .inl (S 1))), (h 2, .inl (cI, 8, .inl (S 2))), (h 3, .inl (cI, 5, .inl (S 3))), (h 13, .inr (0, [.ref (h 14), .ref (h 20)])), (h 14, .inl (cII, 5, .inr (.inr (.inr (.inr (fun j => if j < 5 then some (h (15 + j)) else none)))))), (h 15, .inl (cI, 8, .inl (S 15))), (h 16, .inl (cI, 8, .inl (S 16))), (h 17, .inl (cI, 8, .inl (S 17))), (h 18, .inl (cI, 8, .inl (S 18))), (h 19, .inl (cI, 8, .inl (S 19))), (h 20, .inl (cII, 5, .inr (.inr (.inr (.inr (fun j => if j < 5 then some (h (21 + j)) else none)))))), (h 21, .inl (cI, 8, .inl (S 21))), (h 22, .inl (cI, 8, .inl (S 22))), (h 23, .inl (cI, 8, .inl (S 23))), (h 24, .inl (cI, 8, .inl (S 24))), (h 25, .inl (cI, 8, .inl (S 25))), (h 26, .inr (2, [.ref (h 27), .ref (h 28), .int (S 26 2)])), (h 27, .inl (cI, 512, .inl (S 27))), (h 28, .inl (cI, 512, .inl (S 28)))]
def isCC : List Nat := [4, 5, 6, 7, 8, 9, 10, 11, 12]
def isRC : List Nat := [0, 1, 2, 3, 13, 14, 15, 16, 17, 18, 19, 20, 21, 22, 23, 24, 25, 26, 27, 28]
def pmC : List Nat := [0, 1, 2, 3, 20, 21, 22, 23, 24, 25, 26, 27, 28, 4, 5, 6, 7, 8, 9, 10, 11, 12, 13, 14, 15, 16, 17, 18, 19]
set_option maxRecDepth 20000 in
theorem cutC (h : Nat → Nat) (cI cII : ClassId) {S S' : St} (hf : ∀ i, (i < 4 ∨ 12 < i) → S' i = S i) : v_cut (wT h cI cII S) (wC h cI S) (wTxC h cI cII S) (wC h cI S') (wT h cI cII S') isCC isRC pmC := by
  refine ⟨rfl, rfl, by decide, by decide, by decide, ?_, by decide⟩
  have e : wTxC h cI cII S = wTxC h cI cII S' := by
    unfold wTxC
    rw [hf 0 (by omega), hf 1 (by omega), hf 2 (by omega), hf 3 (by omega), hf 15 (by omega), hf 16 (by omega), hf 17 (by omega), hf 18 (by omega), hf 19 (by omega), hf 21 (by omega), hf 22 (by omega), hf 23 (by omega), hf 24 (by omega), hf 25 (by omega), hf 26 (by omega), hf 27 (by omega), hf 28 (by omega)]
  rw [e]
  rfl
def wTxB (h : Nat → Nat) (cI cII : ClassId) (S : St) : va_W := [(h 0, .inr (3, [.ref (h 4), .ref (h 13), .ref (h 26), .ref (h 1), .ref (h 2), .ref (h 3), .int (S 0 6), .int (S 0 7)])), (h 1, .inl (cI, 5, .inl (S 1))), (h 2, .inl (cI, 8, .inl (S 2))), (h 3, .inl (cI, 5, .inl (S 3))), (h 4, .inr (1, [.ref (h 5), .ref (h 6), .ref (h 7), .ref (h 8), .ref (h 9), .ref (h 10), .ref (h 11), .ref (h 12), .int (S 4 8)])), (h 5, .inl (cI, 30, .inl (S 5))), (h 6, .inl (cI, 30, .inl (S 6))), (h 7, .inl (cI, 30, .inl (S 7))), (h 8, .inl (cI, 30, .inl (S 8))), (h 9, .inl (cI, 30, .inl (S 9))), (h 10, .inl (cI, 30, .inl (S 10))), (h 11, .inl (cI, 30, .inl (S 11))), (h 12, .inl (cI, 30, .inl (S 12))), (h 26, .inr (2, [.ref (h 27), .ref (h 28), .int (S 26 2)])), (h 27, .inl (cI, 512, .inl (S 27))), (h 28, .inl (cI, 512, .inl (S 28)))]
def isCB : List Nat := [13, 14, 15, 16, 17, 18, 19, 20, 21, 22, 23, 24, 25]
def isRB : List Nat := [0, 1, 2, 3, 4, 5, 6, 7, 8, 9, 10, 11, 12, 26, 27, 28]
def pmB : List Nat := [0, 1, 2, 3, 4, 5, 6, 7, 8, 9, 10, 11, 12, 16, 17, 18, 19, 20, 21, 22, 23, 24, 25, 26, 27, 28, 13, 14, 15]
set_option maxRecDepth 20000 in
theorem cutB (h : Nat → Nat) (cI cII : ClassId) {S S' : St} (hf : ∀ i, (i < 13 ∨ 25 < i) → S' i = S i) : v_cut (wT h cI cII S) (wB h cI cII S) (wTxB h cI cII S) (wB h cI cII S') (wT h cI cII S') isCB isRB pmB := by
  refine ⟨rfl, rfl, by decide, by decide, by decide, ?_, by decide⟩
  have e : wTxB h cI cII S = wTxB h cI cII S' := by
    unfold wTxB
    rw [hf 0 (by omega), hf 1 (by omega), hf 2 (by omega), hf 3 (by omega), hf 4 (by omega), hf 5 (by omega), hf 6 (by omega), hf 7 (by omega), hf 8 (by omega), hf 9 (by omega), hf 10 (by omega), hf 11 (by omega), hf 12 (by omega), hf 26 (by omega), hf 27 (by omega), hf 28 (by omega)]
  rw [e]
  rfl
def wTxH (h : Nat → Nat) (cI cII : ClassId) (S : St) : va_W := [(h 0, .inr (3, [.ref (h 4), .ref (h 13), .ref (h 26), .ref (h 1), .ref (h 2), .ref (h 3), .int (S 0 6), .int (S 0 7)])), (h 1, .inl (cI, 5, .inl (S 1))), (h 2, .inl (cI, 8, .inl (S 2))), (h 3, .inl (cI, 5, .inl (S 3))), (h 4, .inr (1, [.ref (h 5), .ref (h 6), .ref (h 7), .ref (h 8), .ref (h 9), .ref (h 10), .ref (h 11), .ref (h 12), .int (S 4 8)])), (h 5, .inl (cI, 30, .inl (S 5))), (h 6, .inl (cI, 30, .inl (S 6))), (h 7, .inl (cI, 30, .inl (S 7))), (h 8, .inl (cI, 30, .inl (S 8))), (h 9, .inl (cI, 30, .inl (S 9))), (h 10, .inl (cI, 30, .inl (S 10))), (h 11, .inl (cI, 30, .inl (S 11))), (h 12, .inl (cI, 30, .inl (S 12))), (h 13, .inr (0, [.ref (h 14), .ref (h 20)])), (h 14, .inl (cII, 5, .inr (.inr (.inr (.inr (fun j => if j < 5 then some (h (15 + j)) else none)))))), (h 15, .inl (cI, 8, .inl (S 15))), (h 16, .inl (cI, 8, .inl (S 16))), (h 17, .inl (cI, 8, .inl (S 17))), (h 18, .inl (cI, 8, .inl (S 18))), (h 19, .inl (cI, 8, .inl (S 19))), (h 20, .inl (cII, 5, .inr (.inr (.inr (.inr (fun j => if j < 5 then some (h (21 + j)) else none)))))), (h 21, .inl (cI, 8, .inl (S 21))), (h 22, .inl (cI, 8, .inl (S 22))), (h 23, .inl (cI, 8, .inl (S 23))), (h 24, .inl (cI, 8, .inl (S 24))), (h 25, .inl (cI, 8, .inl (S 25)))]
def isCH : List Nat := [26, 27, 28]
def isRH : List Nat := [0, 1, 2, 3, 4, 5, 6, 7, 8, 9, 10, 11, 12, 13, 14, 15, 16, 17, 18, 19, 20, 21, 22, 23, 24, 25]
def pmH : List Nat := [0, 1, 2, 3, 4, 5, 6, 7, 8, 9, 10, 11, 12, 13, 14, 15, 16, 17, 18, 19, 20, 21, 22, 23, 24, 25, 26, 27, 28]
set_option maxRecDepth 20000 in
theorem cutH (h : Nat → Nat) (cI cII : ClassId) {S S' : St} (hf : ∀ i, (i < 26 ∨ 28 < i) → S' i = S i) : v_cut (wT h cI cII S) (wH h cI S) (wTxH h cI cII S) (wH h cI S') (wT h cI cII S') isCH isRH pmH := by
  refine ⟨rfl, rfl, by decide, by decide, by decide, ?_, by decide⟩
  have e : wTxH h cI cII S = wTxH h cI cII S' := by
    unfold wTxH
    rw [hf 0 (by omega), hf 1 (by omega), hf 2 (by omega), hf 3 (by omega), hf 4 (by omega), hf 5 (by omega), hf 6 (by omega), hf 7 (by omega), hf 8 (by omega), hf 9 (by omega), hf 10 (by omega), hf 11 (by omega), hf 12 (by omega), hf 15 (by omega), hf 16 (by omega), hf 17 (by omega), hf 18 (by omega), hf 19 (by omega), hf 21 (by omega), hf 22 (by omega), hf 23 (by omega), hf 24 (by omega), hf 25 (by omega)]
  rw [e]
  rfl
theorem wT_row15 {h : Nat → Nat} {cI cII : ClassId} {S : St} {j : Int32} (hj : vp_in j 5) : (wT h cI cII S)[15 + j.toNatClampNeg]? = some (h (15 + j.toNatClampNeg), .inl (cI, 8, .inl (S (15 + j.toNatClampNeg)))) :=
  j5 (P := fun q => (wT h cI cII S)[15 + q]? = some (h (15 + q), .inl (cI, 8, .inl (S (15 + q))))) (vp_lt hj) rfl rfl rfl rfl rfl
theorem wT_set15 {h : Nat → Nat} {cI cII : ClassId} {S : St} {j : Int32} (hj : vp_in j 5) {k : Nat} {x : Int32} : (wT h cI cII S).set (15 + j.toNatClampNeg) (h (15 + j.toNatClampNeg), .inl (cI, 8, .inl (upd (S (15 + j.toNatClampNeg)) k x))) = wT h cI cII (sU S (15 + j.toNatClampNeg) k x) :=
  j5 (P := fun q => (wT h cI cII S).set (15 + q) (h (15 + q), .inl (cI, 8, .inl (upd (S (15 + q)) k x))) = wT h cI cII (sU S (15 + q) k x)) (vp_lt hj) rfl rfl rfl rfl rfl
theorem wT_row21 {h : Nat → Nat} {cI cII : ClassId} {S : St} {j : Int32} (hj : vp_in j 5) : (wT h cI cII S)[21 + j.toNatClampNeg]? = some (h (21 + j.toNatClampNeg), .inl (cI, 8, .inl (S (21 + j.toNatClampNeg)))) :=
  j5 (P := fun q => (wT h cI cII S)[21 + q]? = some (h (21 + q), .inl (cI, 8, .inl (S (21 + q))))) (vp_lt hj) rfl rfl rfl rfl rfl
theorem wT_set21 {h : Nat → Nat} {cI cII : ClassId} {S : St} {j : Int32} (hj : vp_in j 5) {k : Nat} {x : Int32} : (wT h cI cII S).set (21 + j.toNatClampNeg) (h (21 + j.toNatClampNeg), .inl (cI, 8, .inl (upd (S (21 + j.toNatClampNeg)) k x))) = wT h cI cII (sU S (21 + j.toNatClampNeg) k x) :=
  j5 (P := fun q => (wT h cI cII S).set (21 + q) (h (21 + q), .inl (cI, 8, .inl (upd (S (21 + q)) k x))) = wT h cI cII (sU S (21 + q) k x)) (vp_lt hj) rfl rfl rfl rfl rfl
theorem wB_row15 {h : Nat → Nat} {cI cII : ClassId} {S : St} {j : Int32} (hj : vp_in j 5) : (wB h cI cII S)[2 + j.toNatClampNeg]? = some (h (15 + j.toNatClampNeg), .inl (cI, 8, .inl (S (15 + j.toNatClampNeg)))) :=
  j5 (P := fun q => (wB h cI cII S)[2 + q]? = some (h (15 + q), .inl (cI, 8, .inl (S (15 + q))))) (vp_lt hj) rfl rfl rfl rfl rfl
theorem wB_set15 {h : Nat → Nat} {cI cII : ClassId} {S : St} {j : Int32} (hj : vp_in j 5) {k : Nat} {x : Int32} : (wB h cI cII S).set (2 + j.toNatClampNeg) (h (15 + j.toNatClampNeg), .inl (cI, 8, .inl (upd (S (15 + j.toNatClampNeg)) k x))) = wB h cI cII (sU S (15 + j.toNatClampNeg) k x) :=
  j5 (P := fun q => (wB h cI cII S).set (2 + q) (h (15 + q), .inl (cI, 8, .inl (upd (S (15 + q)) k x))) = wB h cI cII (sU S (15 + q) k x)) (vp_lt hj) rfl rfl rfl rfl rfl
theorem wB_row21 {h : Nat → Nat} {cI cII : ClassId} {S : St} {j : Int32} (hj : vp_in j 5) : (wB h cI cII S)[8 + j.toNatClampNeg]? = some (h (21 + j.toNatClampNeg), .inl (cI, 8, .inl (S (21 + j.toNatClampNeg)))) :=
  j5 (P := fun q => (wB h cI cII S)[8 + q]? = some (h (21 + q), .inl (cI, 8, .inl (S (21 + q))))) (vp_lt hj) rfl rfl rfl rfl rfl
theorem wB_set21 {h : Nat → Nat} {cI cII : ClassId} {S : St} {j : Int32} (hj : vp_in j 5) {k : Nat} {x : Int32} : (wB h cI cII S).set (8 + j.toNatClampNeg) (h (21 + j.toNatClampNeg), .inl (cI, 8, .inl (upd (S (21 + j.toNatClampNeg)) k x))) = wB h cI cII (sU S (21 + j.toNatClampNeg) k x) :=
  j5 (P := fun q => (wB h cI cII S).set (8 + q) (h (21 + q), .inl (cI, 8, .inl (upd (S (21 + q)) k x))) = wB h cI cII (sU S (21 + q) k x)) (vp_lt hj) rfl rfl rfl rfl rfl
section MRG
variable {p : Program} {l : Launch} {e : Env} {R : Room} {s : State} {m : MethodId} {args : Array Value} {below : List Frame} {meth : Method} {c : Code} {nL : Nat} {D : va_G} {cl : List vw_C} {A : Nat → Prop} {Q : State → Prop} {cells slots : Nat} {w : va_W} {pc : Nat} {lv : List (Nat × Value)} {st : List Value}
/-- two roads that meet, with a number on the stack -/
theorem v_mrg {T : Int32} (J : Nat) (stJ : List Value) (h1 : (∀ v, v = T → v_V p l e R s m args below meth c D cl A nL Q cells slots w J lv (.int v :: stJ)) → v_V p l e R s m args below meth c D cl A nL Q cells slots w pc lv st) (h2 : v_V p l e R s m args below meth c D cl A nL Q cells slots w J lv (.int T :: stJ)) : v_V p l e R s m args below meth c D cl A nL Q cells slots w pc lv st := h1 (fun _ e => e ▸ h2)
end MRG
end
section
def r_X1_has (S : St) (p1 : Int32) : Int32 :=
  (if p1 < 0 then 0 else (if (S 4 8) ≤ p1 then 0 else 1))
theorem b_X1_has (S : St) (p1 : Int32) : (r_X1_has S p1) = 0 ∨ (r_X1_has S p1) = 1 := by
  unfold r_X1_has
  repeat' split
  all_goals first | exact Or.inl rfl | exact Or.inr rfl
set_option maxHeartbeats 4000000 in
set_option maxRecDepth 100000 in
theorem c_X1_has (l : Launch) (D : va_G) (cI cII cL : ClassId) (h : Nat → Nat) (S : St) (p1 : Int32) : v_Mi l D vwCl (tyl cI cII cL) yX1_has wsX1_has { frames := 0, cells := 0, slots := 0, locals := 0 } [.ref (h 4), .int p1] (wC h cI S) (r_X1_has S p1) (wC h cI S) := by
  refine v_ofMi (cc := cX1_has) (maxL := 2) (ret := (some .boolean)) (own := RX1) (lv0 := [(0, .ref (h 4)), (1, .int p1)]) (by decide) rfl rfl rfl (Nat.le_of_ble_eq_true rfl) ?_
  intro p e s m below meth c X hr hk hin
  have iX1 : ∀ w ∈ wsX10, w ∈ wsX1_has := by decide +kernel
  refine v_iload_n X dX1_has_0 rfl ?_
  refine v_if_lt (tgt := 16) X dX1_has_1 (by decide) (fun c_1 => ?_) (fun c_1 => ?_)
  · refine v_iconst (x := 0) X dX1_has_16 rfl ?_
    exact v_reti X hr hk rfl (by unfold r_X1_has; rw [if_pos c_1]) rfl (Nat.le_of_ble_eq_true rfl) (Nat.le_of_ble_eq_true rfl) dX1_has_17
  · refine v_iload_n X dX1_has_4 rfl ?_
    refine v_aload_n X dX1_has_5 rfl ?_
    refine v_getfield (ref := "Trumpvault$Cards") (ci := 1) (index := 36) (v := .int (S 4 8)) X iX1 0 rfl rfl 8 (by decide) (by decide +kernel) (fun _ h9 => h9) rfl dX1_has_6 ?_
    refine v_icmp_ge (tgt := 16) X dX1_has_9 (by decide) (fun c_2 => ?_) (fun c_2 => ?_)
    · refine v_iconst (x := 0) X dX1_has_16 rfl ?_
      exact v_reti X hr hk rfl (by unfold r_X1_has; rw [if_neg c_1, if_pos c_2]) rfl (Nat.le_of_ble_eq_true rfl) (Nat.le_of_ble_eq_true rfl) dX1_has_17
    · refine v_iconst (x := 1) X dX1_has_12 rfl ?_
      refine v_goto (tgt := 17) X dX1_has_13 (by decide) ?_
      exact v_reti X hr hk rfl (by unfold r_X1_has; rw [if_neg c_1, if_neg c_2]) rfl (Nat.le_of_ble_eq_true rfl) (Nat.le_of_ble_eq_true rfl) dX1_has_17

theorem has_in {S : St} {x : Int32} (hc : cntC S) (h : ¬ r_X1_has S x = 0) : vp_in x 30 := by
  unfold r_X1_has at h
  split at h
  · exact absurd rfl h
  · split at h
    · exact absurd rfl h
    · rename_i h1 h2
      rw [vp_in_iff]
      simp only [Int32.lt_iff_toInt_lt, Int32.le_iff_toInt_le] at h1 h2
      have := hc.2
      simp at h1
      omega

def r_X1_isFull (S : St) : Int32 :=
  (if (S 4 8) < 30 then 0 else 1)
theorem b_X1_isFull (S : St) : (r_X1_isFull S) = 0 ∨ (r_X1_isFull S) = 1 := by
  unfold r_X1_isFull
  repeat' split
  all_goals first | exact Or.inl rfl | exact Or.inr rfl
set_option maxHeartbeats 4000000 in
set_option maxRecDepth 100000 in
theorem c_X1_isFull (l : Launch) (D : va_G) (cI cII cL : ClassId) (h : Nat → Nat) (S : St) : v_Mi l D vwCl (tyl cI cII cL) yX1_isFull wsX1_isFull { frames := 0, cells := 0, slots := 0, locals := 0 } [.ref (h 4)] (wC h cI S) (r_X1_isFull S) (wC h cI S) := by
  refine v_ofMi (cc := cX1_isFull) (maxL := 1) (ret := (some .boolean)) (own := RX1) (lv0 := [(0, .ref (h 4))]) (by decide) rfl rfl rfl (Nat.le_of_ble_eq_true rfl) ?_
  intro p e s m below meth c X hr hk hin
  have iX1 : ∀ w ∈ wsX10, w ∈ wsX1_isFull := by decide +kernel
  refine v_aload_n X dX1_isFull_0 rfl ?_
  refine v_getfield (ref := "Trumpvault$Cards") (ci := 1) (index := 36) (v := .int (S 4 8)) X iX1 0 rfl rfl 8 (by decide) (by decide +kernel) (fun _ h9 => h9) rfl dX1_isFull_1 ?_
  refine v_bipush (x := 30) X dX1_isFull_4 rfl ?_
  refine v_icmp_lt (tgt := 13) X dX1_isFull_6 (by decide) (fun c_1 => ?_) (fun c_1 => ?_)
  · refine v_iconst (x := 0) X dX1_isFull_13 rfl ?_
    exact v_reti X hr hk rfl (by unfold r_X1_isFull; rw [if_pos c_1]) rfl (Nat.le_of_ble_eq_true rfl) (Nat.le_of_ble_eq_true rfl) dX1_isFull_14
  · refine v_iconst (x := 1) X dX1_isFull_9 rfl ?_
    refine v_goto (tgt := 14) X dX1_isFull_10 (by decide) ?_
    exact v_reti X hr hk rfl (by unfold r_X1_isFull; rw [if_neg c_1]) rfl (Nat.le_of_ble_eq_true rfl) (Nat.le_of_ble_eq_true rfl) dX1_isFull_14

def r_X1_add (S : St) (p1 p2 : Int32) : Int32 :=
  (S 4 8)
def s_X1_add (S : St) (p1 p2 : Int32) : St :=
  (sU (sU (sU (sU S 5 (S 4 8).toNatClampNeg p2) 6 (S 4 8).toNatClampNeg p1) 7 (S 4 8).toNatClampNeg 0) 4 8 (((sU (sU (sU S 5 (S 4 8).toNatClampNeg p2) 6 (S 4 8).toNatClampNeg p1) 7 (S 4 8).toNatClampNeg 0) 4 8) + 1))
set_option maxHeartbeats 4000000 in
set_option maxRecDepth 100000 in
theorem c_X1_add (l : Launch) (D : va_G) (cI cII cL : ClassId) (h : Nat → Nat) (S : St) (p1 p2 : Int32) (hadd : vp_in (S 4 8) 30) : v_Mi l D vwCl (tyl cI cII cL) yX1_add wsX1_add { frames := 0, cells := 0, slots := 0, locals := 0 } [.ref (h 4), .int p1, .int p2] (wC h cI S) (r_X1_add S p1 p2) (wC h cI (s_X1_add S p1 p2)) := by
  refine v_ofMi (cc := cX1_add) (maxL := 4) (ret := (some .int)) (own := RX1) (lv0 := [(0, .ref (h 4)), (1, .int p1), (2, .int p2)]) (by decide) rfl rfl rfl (Nat.le_of_ble_eq_true rfl) ?_
  intro p e s m below meth c X hr hk hin
  have iX1 : ∀ w ∈ wsX10, w ∈ wsX1_add := by decide +kernel
  refine v_aload_n X dX1_add_0 rfl ?_
  refine v_getfield (ref := "Trumpvault$Cards") (ci := 1) (index := 36) (v := .int (S 4 8)) X iX1 0 rfl rfl 8 (by decide) (by decide +kernel) (fun _ h9 => h9) rfl dX1_add_1 ?_
  refine v_istore_n (lv' := [(3, .int (S 4 8)), (0, .ref (h 4)), (1, .int p1), (2, .int p2)]) X dX1_add_4 (by decide) rfl ?_
  refine v_aload_n X dX1_add_5 rfl ?_
  refine v_getfield (ref := "Trumpvault$Cards") (ci := 1) (index := 9) (v := .ref (h 5)) X iX1 0 rfl rfl 0 (by decide) (by decide +kernel) (fun _ h9 => h9) rfl dX1_add_6 ?_
  refine v_iload_n X dX1_add_9 rfl ?_
  refine v_iload_n X dX1_add_10 rfl ?_
  refine v_iast (w' := (wC h cI (sU S 5 (S 4 8).toNatClampNeg p2))) X 1 0 rfl rfl hadd dX1_add_11 rfl ?_
  refine v_aload_n X dX1_add_12 rfl ?_
  refine v_getfield (ref := "Trumpvault$Cards") (ci := 1) (index := 15) (v := .ref (h 6)) X iX1 0 rfl rfl 1 (by decide) (by decide +kernel) (fun _ h9 => h9) rfl dX1_add_13 ?_
  refine v_iload_n X dX1_add_16 rfl ?_
  refine v_iload_n X dX1_add_17 rfl ?_
  refine v_iast (w' := (wC h cI (sU (sU S 5 (S 4 8).toNatClampNeg p2) 6 (S 4 8).toNatClampNeg p1))) X 2 0 rfl rfl hadd dX1_add_18 rfl ?_
  refine v_aload_n X dX1_add_19 rfl ?_
  refine v_getfield (ref := "Trumpvault$Cards") (ci := 1) (index := 18) (v := .ref (h 7)) X iX1 0 rfl rfl 2 (by decide) (by decide +kernel) (fun _ h9 => h9) rfl dX1_add_20 ?_
  refine v_iload_n X dX1_add_23 rfl ?_
  refine v_iconst (x := 0) X dX1_add_24 rfl ?_
  refine v_iast (w' := (wC h cI (sU (sU (sU S 5 (S 4 8).toNatClampNeg p2) 6 (S 4 8).toNatClampNeg p1) 7 (S 4 8).toNatClampNeg 0))) X 3 0 rfl rfl hadd dX1_add_25 rfl ?_
  refine v_aload_n X dX1_add_26 rfl ?_
  refine v_dup X dX1_add_27 rfl ?_
  refine v_getfield (ref := "Trumpvault$Cards") (ci := 1) (index := 36) (v := .int ((sU (sU (sU S 5 (S 4 8).toNatClampNeg p2) 6 (S 4 8).toNatClampNeg p1) 7 (S 4 8).toNatClampNeg 0) 4 8)) X iX1 0 rfl rfl 8 (by decide) (by decide +kernel) (fun _ h9 => h9) rfl dX1_add_28 ?_
  refine v_iconst (x := 1) X dX1_add_31 rfl ?_
  refine v_iadd X dX1_add_32 ?_
  refine v_putfield (w' := (wC h cI (sU (sU (sU (sU S 5 (S 4 8).toNatClampNeg p2) 6 (S 4 8).toNatClampNeg p1) 7 (S 4 8).toNatClampNeg 0) 4 8 (((sU (sU (sU S 5 (S 4 8).toNatClampNeg p2) 6 (S 4 8).toNatClampNeg p1) 7 (S 4 8).toNatClampNeg 0) 4 8) + 1)))) (ref := "Trumpvault$Cards") (ci := 1) (index := 36) (ty := .int) X iX1 tyX1 tyX1_ok nmX1 0 rfl rfl 8 (by decide) (by decide +kernel) (fun _ h9 => h9) rfl (by decide +kernel) rfl rfl (Nat.le_of_ble_eq_true rfl) dX1_add_33 rfl ?_
  refine v_iload_n X dX1_add_36 rfl ?_
  exact v_reti X hr hk rfl (by unfold r_X1_add; rfl) (congrArg (fun z => (wC h cI z)) (by unfold s_X1_add; rfl)) (Nat.le_of_ble_eq_true rfl) (Nat.le_of_ble_eq_true rfl) dX1_add_37

def r_X1_holderOf (S : St) (p1 : Int32) : Int32 :=
  (if (S 7 p1.toNatClampNeg) = 3 then (S 11 p1.toNatClampNeg) else (S 6 p1.toNatClampNeg))
set_option maxHeartbeats 4000000 in
set_option maxRecDepth 100000 in
theorem c_X1_holderOf (l : Launch) (D : va_G) (cI cII cL : ClassId) (h : Nat → Nat) (S : St) (p1 : Int32) (in1_30 : vp_in p1 30) : v_Mi l D vwCl (tyl cI cII cL) yX1_holderOf wsX1_holderOf { frames := 0, cells := 0, slots := 0, locals := 0 } [.ref (h 4), .int p1] (wC h cI S) (r_X1_holderOf S p1) (wC h cI S) := by
  refine v_ofMi (cc := cX1_holderOf) (maxL := 2) (ret := (some .int)) (own := RX1) (lv0 := [(0, .ref (h 4)), (1, .int p1)]) (by decide) rfl rfl rfl (Nat.le_of_ble_eq_true rfl) ?_
  intro p e s m below meth c X hr hk hin
  have iX1 : ∀ w ∈ wsX10, w ∈ wsX1_holderOf := by decide +kernel
  refine v_aload_n X dX1_holderOf_0 rfl ?_
  refine v_getfield (ref := "Trumpvault$Cards") (ci := 1) (index := 18) (v := .ref (h 7)) X iX1 0 rfl rfl 2 (by decide) (by decide +kernel) (fun _ h9 => h9) rfl dX1_holderOf_1 ?_
  refine v_iload_n X dX1_holderOf_4 rfl ?_
  refine v_iald X 3 0 rfl rfl in1_30 dX1_holderOf_5 ?_
  refine v_iconst (x := 3) X dX1_holderOf_6 rfl ?_
  refine v_icmp_ne (tgt := 19) X dX1_holderOf_7 (by decide) (fun c_1 => ?_) (fun c_1 => ?_)
  · refine v_aload_n X dX1_holderOf_19 rfl ?_
    refine v_getfield (ref := "Trumpvault$Cards") (ci := 1) (index := 15) (v := .ref (h 6)) X iX1 0 rfl rfl 1 (by decide) (by decide +kernel) (fun _ h9 => h9) rfl dX1_holderOf_20 ?_
    refine v_iload_n X dX1_holderOf_23 rfl ?_
    refine v_iald X 2 0 rfl rfl in1_30 dX1_holderOf_24 ?_
    exact v_reti X hr hk rfl (by unfold r_X1_holderOf; rw [if_neg c_1]) rfl (Nat.le_of_ble_eq_true rfl) (Nat.le_of_ble_eq_true rfl) dX1_holderOf_25
  · refine v_aload_n X dX1_holderOf_10 rfl ?_
    refine v_getfield (ref := "Trumpvault$Cards") (ci := 1) (index := 30) (v := .ref (h 11)) X iX1 0 rfl rfl 6 (by decide) (by decide +kernel) (fun _ h9 => h9) rfl dX1_holderOf_11 ?_
    refine v_iload_n X dX1_holderOf_14 rfl ?_
    refine v_iald X 7 0 rfl rfl in1_30 dX1_holderOf_15 ?_
    refine v_goto (tgt := 25) X dX1_holderOf_16 (by decide) ?_
    exact v_reti X hr hk rfl (by unfold r_X1_holderOf; rw [if_pos c_1]) rfl (Nat.le_of_ble_eq_true rfl) (Nat.le_of_ble_eq_true rfl) dX1_holderOf_25

def s_X1_putSale (S : St) (p1 p2 p3 : Int32) : St :=
  (sU (sU (sU S 7 p1.toNatClampNeg 1) 8 p1.toNatClampNeg p2) 9 p1.toNatClampNeg p3)
set_option maxHeartbeats 4000000 in
set_option maxRecDepth 100000 in
theorem c_X1_putSale (l : Launch) (D : va_G) (cI cII cL : ClassId) (h : Nat → Nat) (S : St) (p1 p2 p3 : Int32) (in1_30 : vp_in p1 30) : v_Mv l D vwCl (tyl cI cII cL) yX1_putSale wsX1_putSale { frames := 0, cells := 0, slots := 0, locals := 0 } [.ref (h 4), .int p1, .int p2, .int p3] (wC h cI S) (wC h cI (s_X1_putSale S p1 p2 p3)) := by
  refine v_ofMv (cc := cX1_putSale) (maxL := 4) (ret := none) (own := RX1) (lv0 := [(0, .ref (h 4)), (1, .int p1), (2, .int p2), (3, .int p3)]) (by decide) rfl rfl rfl (Nat.le_of_ble_eq_true rfl) ?_
  intro p e s m below meth c X hr hk hin
  have iX1 : ∀ w ∈ wsX10, w ∈ wsX1_putSale := by decide +kernel
  refine v_aload_n X dX1_putSale_0 rfl ?_
  refine v_getfield (ref := "Trumpvault$Cards") (ci := 1) (index := 18) (v := .ref (h 7)) X iX1 0 rfl rfl 2 (by decide) (by decide +kernel) (fun _ h9 => h9) rfl dX1_putSale_1 ?_
  refine v_iload_n X dX1_putSale_4 rfl ?_
  refine v_iconst (x := 1) X dX1_putSale_5 rfl ?_
  refine v_iast (w' := (wC h cI (sU S 7 p1.toNatClampNeg 1))) X 3 0 rfl rfl in1_30 dX1_putSale_6 rfl ?_
  refine v_aload_n X dX1_putSale_7 rfl ?_
  refine v_getfield (ref := "Trumpvault$Cards") (ci := 1) (index := 21) (v := .ref (h 8)) X iX1 0 rfl rfl 3 (by decide) (by decide +kernel) (fun _ h9 => h9) rfl dX1_putSale_8 ?_
  refine v_iload_n X dX1_putSale_11 rfl ?_
  refine v_iload_n X dX1_putSale_12 rfl ?_
  refine v_iast (w' := (wC h cI (sU (sU S 7 p1.toNatClampNeg 1) 8 p1.toNatClampNeg p2))) X 4 0 rfl rfl in1_30 dX1_putSale_13 rfl ?_
  refine v_aload_n X dX1_putSale_14 rfl ?_
  refine v_getfield (ref := "Trumpvault$Cards") (ci := 1) (index := 24) (v := .ref (h 9)) X iX1 0 rfl rfl 4 (by decide) (by decide +kernel) (fun _ h9 => h9) rfl dX1_putSale_15 ?_
  refine v_iload_n X dX1_putSale_18 rfl ?_
  refine v_iload_n X dX1_putSale_19 rfl ?_
  refine v_iast (w' := (wC h cI (sU (sU (sU S 7 p1.toNatClampNeg 1) 8 p1.toNatClampNeg p2) 9 p1.toNatClampNeg p3))) X 5 0 rfl rfl in1_30 dX1_putSale_20 rfl ?_
  exact v_retv X hr hk (congrArg (fun z => (wC h cI z)) (by unfold s_X1_putSale; rfl)) (Nat.le_of_ble_eq_true rfl) (Nat.le_of_ble_eq_true rfl) dX1_putSale_21

def r_X1_takeSale (S : St) (p1 : Int32) : Int32 :=
  ((sU S 7 p1.toNatClampNeg 0) 8 p1.toNatClampNeg)
def s_X1_takeSale (S : St) (p1 : Int32) : St :=
  (sU S 7 p1.toNatClampNeg 0)
set_option maxHeartbeats 4000000 in
set_option maxRecDepth 100000 in
theorem c_X1_takeSale (l : Launch) (D : va_G) (cI cII cL : ClassId) (h : Nat → Nat) (S : St) (p1 : Int32) (in1_30 : vp_in p1 30) : v_Mi l D vwCl (tyl cI cII cL) yX1_takeSale wsX1_takeSale { frames := 0, cells := 0, slots := 0, locals := 0 } [.ref (h 4), .int p1] (wC h cI S) (r_X1_takeSale S p1) (wC h cI (s_X1_takeSale S p1)) := by
  refine v_ofMi (cc := cX1_takeSale) (maxL := 2) (ret := (some .int)) (own := RX1) (lv0 := [(0, .ref (h 4)), (1, .int p1)]) (by decide) rfl rfl rfl (Nat.le_of_ble_eq_true rfl) ?_
  intro p e s m below meth c X hr hk hin
  have iX1 : ∀ w ∈ wsX10, w ∈ wsX1_takeSale := by decide +kernel
  refine v_aload_n X dX1_takeSale_0 rfl ?_
  refine v_getfield (ref := "Trumpvault$Cards") (ci := 1) (index := 18) (v := .ref (h 7)) X iX1 0 rfl rfl 2 (by decide) (by decide +kernel) (fun _ h9 => h9) rfl dX1_takeSale_1 ?_
  refine v_iload_n X dX1_takeSale_4 rfl ?_
  refine v_iconst (x := 0) X dX1_takeSale_5 rfl ?_
  refine v_iast (w' := (wC h cI (sU S 7 p1.toNatClampNeg 0))) X 3 0 rfl rfl in1_30 dX1_takeSale_6 rfl ?_
  refine v_aload_n X dX1_takeSale_7 rfl ?_
  refine v_getfield (ref := "Trumpvault$Cards") (ci := 1) (index := 21) (v := .ref (h 8)) X iX1 0 rfl rfl 3 (by decide) (by decide +kernel) (fun _ h9 => h9) rfl dX1_takeSale_8 ?_
  refine v_iload_n X dX1_takeSale_11 rfl ?_
  refine v_iald X 4 0 rfl rfl in1_30 dX1_takeSale_12 ?_
  exact v_reti X hr hk rfl (by unfold r_X1_takeSale; rfl) (congrArg (fun z => (wC h cI z)) (by unfold s_X1_takeSale; rfl)) (Nat.le_of_ble_eq_true rfl) (Nat.le_of_ble_eq_true rfl) dX1_takeSale_13

def r_X1_isOnSale (S : St) (p1 p2 : Int32) : Int32 :=
  (if (S 7 p1.toNatClampNeg) = 1 then (if (S 5 p1.toNatClampNeg) = p2 then 1 else 0) else 0)
theorem b_X1_isOnSale (S : St) (p1 p2 : Int32) : (r_X1_isOnSale S p1 p2) = 0 ∨ (r_X1_isOnSale S p1 p2) = 1 := by
  unfold r_X1_isOnSale
  repeat' split
  all_goals first | exact Or.inl rfl | exact Or.inr rfl
set_option maxHeartbeats 4000000 in
set_option maxRecDepth 100000 in
theorem c_X1_isOnSale (l : Launch) (D : va_G) (cI cII cL : ClassId) (h : Nat → Nat) (S : St) (p1 p2 : Int32) (in1_30 : vp_in p1 30) : v_Mi l D vwCl (tyl cI cII cL) yX1_isOnSale wsX1_isOnSale { frames := 0, cells := 0, slots := 0, locals := 0 } [.ref (h 4), .int p1, .int p2] (wC h cI S) (r_X1_isOnSale S p1 p2) (wC h cI S) := by
  refine v_ofMi (cc := cX1_isOnSale) (maxL := 3) (ret := (some .boolean)) (own := RX1) (lv0 := [(0, .ref (h 4)), (1, .int p1), (2, .int p2)]) (by decide) rfl rfl rfl (Nat.le_of_ble_eq_true rfl) ?_
  intro p e s m below meth c X hr hk hin
  have iX1 : ∀ w ∈ wsX10, w ∈ wsX1_isOnSale := by decide +kernel
  refine v_aload_n X dX1_isOnSale_0 rfl ?_
  refine v_getfield (ref := "Trumpvault$Cards") (ci := 1) (index := 18) (v := .ref (h 7)) X iX1 0 rfl rfl 2 (by decide) (by decide +kernel) (fun _ h9 => h9) rfl dX1_isOnSale_1 ?_
  refine v_iload_n X dX1_isOnSale_4 rfl ?_
  refine v_iald X 3 0 rfl rfl in1_30 dX1_isOnSale_5 ?_
  refine v_iconst (x := 1) X dX1_isOnSale_6 rfl ?_
  refine v_icmp_ne (tgt := 24) X dX1_isOnSale_7 (by decide) (fun c_1 => ?_) (fun c_1 => ?_)
  · refine v_iconst (x := 0) X dX1_isOnSale_24 rfl ?_
    exact v_reti X hr hk rfl (by unfold r_X1_isOnSale; rw [if_neg c_1]) rfl (Nat.le_of_ble_eq_true rfl) (Nat.le_of_ble_eq_true rfl) dX1_isOnSale_25
  · refine v_aload_n X dX1_isOnSale_10 rfl ?_
    refine v_getfield (ref := "Trumpvault$Cards") (ci := 1) (index := 9) (v := .ref (h 5)) X iX1 0 rfl rfl 0 (by decide) (by decide +kernel) (fun _ h9 => h9) rfl dX1_isOnSale_11 ?_
    refine v_iload_n X dX1_isOnSale_14 rfl ?_
    refine v_iald X 1 0 rfl rfl in1_30 dX1_isOnSale_15 ?_
    refine v_iload_n X dX1_isOnSale_16 rfl ?_
    refine v_icmp_ne (tgt := 24) X dX1_isOnSale_17 (by decide) (fun c_2 => ?_) (fun c_2 => ?_)
    · refine v_iconst (x := 0) X dX1_isOnSale_24 rfl ?_
      exact v_reti X hr hk rfl (by unfold r_X1_isOnSale; rw [if_pos c_1, if_neg c_2]) rfl (Nat.le_of_ble_eq_true rfl) (Nat.le_of_ble_eq_true rfl) dX1_isOnSale_25
    · refine v_iconst (x := 1) X dX1_isOnSale_20 rfl ?_
      refine v_goto (tgt := 25) X dX1_isOnSale_21 (by decide) ?_
      exact v_reti X hr hk rfl (by unfold r_X1_isOnSale; rw [if_pos c_1, if_pos c_2]) rfl (Nat.le_of_ble_eq_true rfl) (Nat.le_of_ble_eq_true rfl) dX1_isOnSale_25

def s_X1_lendTo (S : St) (p1 p2 p3 : Int32) : St :=
  (sU (sU (sU S 7 p1.toNatClampNeg 3) 11 p1.toNatClampNeg p2) 12 p1.toNatClampNeg p3)
set_option maxHeartbeats 4000000 in
set_option maxRecDepth 100000 in
theorem c_X1_lendTo (l : Launch) (D : va_G) (cI cII cL : ClassId) (h : Nat → Nat) (S : St) (p1 p2 p3 : Int32) (in1_30 : vp_in p1 30) : v_Mv l D vwCl (tyl cI cII cL) yX1_lendTo wsX1_lendTo { frames := 0, cells := 0, slots := 0, locals := 0 } [.ref (h 4), .int p1, .int p2, .int p3] (wC h cI S) (wC h cI (s_X1_lendTo S p1 p2 p3)) := by
  refine v_ofMv (cc := cX1_lendTo) (maxL := 4) (ret := none) (own := RX1) (lv0 := [(0, .ref (h 4)), (1, .int p1), (2, .int p2), (3, .int p3)]) (by decide) rfl rfl rfl (Nat.le_of_ble_eq_true rfl) ?_
  intro p e s m below meth c X hr hk hin
  have iX1 : ∀ w ∈ wsX10, w ∈ wsX1_lendTo := by decide +kernel
  refine v_aload_n X dX1_lendTo_0 rfl ?_
  refine v_getfield (ref := "Trumpvault$Cards") (ci := 1) (index := 18) (v := .ref (h 7)) X iX1 0 rfl rfl 2 (by decide) (by decide +kernel) (fun _ h9 => h9) rfl dX1_lendTo_1 ?_
  refine v_iload_n X dX1_lendTo_4 rfl ?_
  refine v_iconst (x := 3) X dX1_lendTo_5 rfl ?_
  refine v_iast (w' := (wC h cI (sU S 7 p1.toNatClampNeg 3))) X 3 0 rfl rfl in1_30 dX1_lendTo_6 rfl ?_
  refine v_aload_n X dX1_lendTo_7 rfl ?_
  refine v_getfield (ref := "Trumpvault$Cards") (ci := 1) (index := 30) (v := .ref (h 11)) X iX1 0 rfl rfl 6 (by decide) (by decide +kernel) (fun _ h9 => h9) rfl dX1_lendTo_8 ?_
  refine v_iload_n X dX1_lendTo_11 rfl ?_
  refine v_iload_n X dX1_lendTo_12 rfl ?_
  refine v_iast (w' := (wC h cI (sU (sU S 7 p1.toNatClampNeg 3) 11 p1.toNatClampNeg p2))) X 7 0 rfl rfl in1_30 dX1_lendTo_13 rfl ?_
  refine v_aload_n X dX1_lendTo_14 rfl ?_
  refine v_getfield (ref := "Trumpvault$Cards") (ci := 1) (index := 33) (v := .ref (h 12)) X iX1 0 rfl rfl 7 (by decide) (by decide +kernel) (fun _ h9 => h9) rfl dX1_lendTo_15 ?_
  refine v_iload_n X dX1_lendTo_18 rfl ?_
  refine v_iload_n X dX1_lendTo_19 rfl ?_
  refine v_iast (w' := (wC h cI (sU (sU (sU S 7 p1.toNatClampNeg 3) 11 p1.toNatClampNeg p2) 12 p1.toNatClampNeg p3))) X 8 0 rfl rfl in1_30 dX1_lendTo_20 rfl ?_
  exact v_retv X hr hk (congrArg (fun z => (wC h cI z)) (by unfold s_X1_lendTo; rfl)) (Nat.le_of_ble_eq_true rfl) (Nat.le_of_ble_eq_true rfl) dX1_lendTo_21

def r_X1_saleIsBefore (S : St) (p1 p2 : Int32) : Int32 :=
  (if (S 8 p1.toNatClampNeg) < (S 8 p2.toNatClampNeg) then 1 else (if (S 8 p1.toNatClampNeg) = (S 8 p2.toNatClampNeg) then (if (S 9 p2.toNatClampNeg) ≤ (S 9 p1.toNatClampNeg) then 0 else 1) else 0))
theorem b_X1_saleIsBefore (S : St) (p1 p2 : Int32) : (r_X1_saleIsBefore S p1 p2) = 0 ∨ (r_X1_saleIsBefore S p1 p2) = 1 := by
  unfold r_X1_saleIsBefore
  repeat' split
  all_goals first | exact Or.inl rfl | exact Or.inr rfl
set_option maxHeartbeats 4000000 in
set_option maxRecDepth 100000 in
theorem c_X1_saleIsBefore (l : Launch) (D : va_G) (cI cII cL : ClassId) (h : Nat → Nat) (S : St) (p1 p2 : Int32) (in1_30 : vp_in p1 30) (in2_30 : vp_in p2 30) : v_Mi l D vwCl (tyl cI cII cL) yX1_saleIsBefore wsX1_saleIsBefore { frames := 0, cells := 0, slots := 0, locals := 0 } [.ref (h 4), .int p1, .int p2] (wC h cI S) (r_X1_saleIsBefore S p1 p2) (wC h cI S) := by
  refine v_ofMi (cc := cX1_saleIsBefore) (maxL := 3) (ret := (some .boolean)) (own := RX1) (lv0 := [(0, .ref (h 4)), (1, .int p1), (2, .int p2)]) (by decide) rfl rfl rfl (Nat.le_of_ble_eq_true rfl) ?_
  intro p e s m below meth c X hr hk hin
  have iX1 : ∀ w ∈ wsX10, w ∈ wsX1_saleIsBefore := by decide +kernel
  refine v_aload_n X dX1_saleIsBefore_0 rfl ?_
  refine v_getfield (ref := "Trumpvault$Cards") (ci := 1) (index := 21) (v := .ref (h 8)) X iX1 0 rfl rfl 3 (by decide) (by decide +kernel) (fun _ h9 => h9) rfl dX1_saleIsBefore_1 ?_
  refine v_iload_n X dX1_saleIsBefore_4 rfl ?_
  refine v_iald X 4 0 rfl rfl in1_30 dX1_saleIsBefore_5 ?_
  refine v_aload_n X dX1_saleIsBefore_6 rfl ?_
  refine v_getfield (ref := "Trumpvault$Cards") (ci := 1) (index := 21) (v := .ref (h 8)) X iX1 0 rfl rfl 3 (by decide) (by decide +kernel) (fun _ h9 => h9) rfl dX1_saleIsBefore_7 ?_
  refine v_iload_n X dX1_saleIsBefore_10 rfl ?_
  refine v_iald X 4 0 rfl rfl in2_30 dX1_saleIsBefore_11 ?_
  refine v_icmp_lt (tgt := 45) X dX1_saleIsBefore_12 (by decide) (fun c_1 => ?_) (fun c_1 => ?_)
  · refine v_iconst (x := 1) X dX1_saleIsBefore_45 rfl ?_
    refine v_goto (tgt := 50) X dX1_saleIsBefore_46 (by decide) ?_
    exact v_reti X hr hk rfl (by unfold r_X1_saleIsBefore; rw [if_pos c_1]) rfl (Nat.le_of_ble_eq_true rfl) (Nat.le_of_ble_eq_true rfl) dX1_saleIsBefore_50
  · refine v_aload_n X dX1_saleIsBefore_15 rfl ?_
    refine v_getfield (ref := "Trumpvault$Cards") (ci := 1) (index := 21) (v := .ref (h 8)) X iX1 0 rfl rfl 3 (by decide) (by decide +kernel) (fun _ h9 => h9) rfl dX1_saleIsBefore_16 ?_
    refine v_iload_n X dX1_saleIsBefore_19 rfl ?_
    refine v_iald X 4 0 rfl rfl in1_30 dX1_saleIsBefore_20 ?_
    refine v_aload_n X dX1_saleIsBefore_21 rfl ?_
    refine v_getfield (ref := "Trumpvault$Cards") (ci := 1) (index := 21) (v := .ref (h 8)) X iX1 0 rfl rfl 3 (by decide) (by decide +kernel) (fun _ h9 => h9) rfl dX1_saleIsBefore_22 ?_
    refine v_iload_n X dX1_saleIsBefore_25 rfl ?_
    refine v_iald X 4 0 rfl rfl in2_30 dX1_saleIsBefore_26 ?_
    refine v_icmp_ne (tgt := 49) X dX1_saleIsBefore_27 (by decide) (fun c_2 => ?_) (fun c_2 => ?_)
    · refine v_iconst (x := 0) X dX1_saleIsBefore_49 rfl ?_
      exact v_reti X hr hk rfl (by unfold r_X1_saleIsBefore; rw [if_neg c_1, if_neg c_2]) rfl (Nat.le_of_ble_eq_true rfl) (Nat.le_of_ble_eq_true rfl) dX1_saleIsBefore_50
    · refine v_aload_n X dX1_saleIsBefore_30 rfl ?_
      refine v_getfield (ref := "Trumpvault$Cards") (ci := 1) (index := 24) (v := .ref (h 9)) X iX1 0 rfl rfl 4 (by decide) (by decide +kernel) (fun _ h9 => h9) rfl dX1_saleIsBefore_31 ?_
      refine v_iload_n X dX1_saleIsBefore_34 rfl ?_
      refine v_iald X 5 0 rfl rfl in1_30 dX1_saleIsBefore_35 ?_
      refine v_aload_n X dX1_saleIsBefore_36 rfl ?_
      refine v_getfield (ref := "Trumpvault$Cards") (ci := 1) (index := 24) (v := .ref (h 9)) X iX1 0 rfl rfl 4 (by decide) (by decide +kernel) (fun _ h9 => h9) rfl dX1_saleIsBefore_37 ?_
      refine v_iload_n X dX1_saleIsBefore_40 rfl ?_
      refine v_iald X 5 0 rfl rfl in2_30 dX1_saleIsBefore_41 ?_
      refine v_icmp_ge (tgt := 49) X dX1_saleIsBefore_42 (by decide) (fun c_3 => ?_) (fun c_3 => ?_)
      · refine v_iconst (x := 0) X dX1_saleIsBefore_49 rfl ?_
        exact v_reti X hr hk rfl (by unfold r_X1_saleIsBefore; rw [if_neg c_1, if_pos c_2, if_pos c_3]) rfl (Nat.le_of_ble_eq_true rfl) (Nat.le_of_ble_eq_true rfl) dX1_saleIsBefore_50
      · refine v_iconst (x := 1) X dX1_saleIsBefore_45 rfl ?_
        refine v_goto (tgt := 50) X dX1_saleIsBefore_46 (by decide) ?_
        exact v_reti X hr hk rfl (by unfold r_X1_saleIsBefore; rw [if_neg c_1, if_pos c_2, if_neg c_3]) rfl (Nat.le_of_ble_eq_true rfl) (Nat.le_of_ble_eq_true rfl) dX1_saleIsBefore_50

def r_X1_canBeSwapped (S : St) (p1 : Int32) : Int32 :=
  (if (S 7 p1.toNatClampNeg) = 2 then (if (r_X1_has S (S 10 p1.toNatClampNeg)) = 0 then 0 else (if (S 7 (S 10 p1.toNatClampNeg).toNatClampNeg) = 0 then (if (S 6 p1.toNatClampNeg) = (S 6 (S 10 p1.toNatClampNeg).toNatClampNeg) then 0 else 1) else 0)) else 0)
theorem b_X1_canBeSwapped (S : St) (p1 : Int32) : (r_X1_canBeSwapped S p1) = 0 ∨ (r_X1_canBeSwapped S p1) = 1 := by
  unfold r_X1_canBeSwapped
  repeat' split
  all_goals first | exact Or.inl rfl | exact Or.inr rfl
set_option maxHeartbeats 4000000 in
set_option maxRecDepth 100000 in
theorem c_X1_canBeSwapped (l : Launch) (D : va_G) (cI cII cL : ClassId) (h : Nat → Nat) (S : St) (p1 : Int32) (in1_30 : vp_in p1 30) (hcnt : cntC S) : v_Mi l D vwCl (tyl cI cII cL) yX1_canBeSwapped wsX1_canBeSwapped { frames := 1, cells := 0, slots := 0, locals := 21 } [.ref (h 4), .int p1] (wC h cI S) (r_X1_canBeSwapped S p1) (wC h cI S) := by
  refine v_ofMi (cc := cX1_canBeSwapped) (maxL := 3) (ret := (some .boolean)) (own := RX1) (lv0 := [(0, .ref (h 4)), (1, .int p1)]) (by decide) rfl rfl rfl (Nat.le_of_ble_eq_true rfl) ?_
  intro p e s m below meth c X hr hk hin
  have iX1 : ∀ w ∈ wsX10, w ∈ wsX1_canBeSwapped := by decide +kernel
  refine v_aload_n X dX1_canBeSwapped_0 rfl ?_
  refine v_getfield (ref := "Trumpvault$Cards") (ci := 1) (index := 27) (v := .ref (h 10)) X iX1 0 rfl rfl 5 (by decide) (by decide +kernel) (fun _ h9 => h9) rfl dX1_canBeSwapped_1 ?_
  refine v_iload_n X dX1_canBeSwapped_4 rfl ?_
  refine v_iald X 6 0 rfl rfl in1_30 dX1_canBeSwapped_5 ?_
  refine v_istore_n (lv' := [(2, .int (S 10 p1.toNatClampNeg)), (0, .ref (h 4)), (1, .int p1)]) X dX1_canBeSwapped_6 (by decide) rfl ?_
  refine v_aload_n X dX1_canBeSwapped_7 rfl ?_
  refine v_getfield (ref := "Trumpvault$Cards") (ci := 1) (index := 18) (v := .ref (h 7)) X iX1 0 rfl rfl 2 (by decide) (by decide +kernel) (fun _ h9 => h9) rfl dX1_canBeSwapped_8 ?_
  refine v_iload_n X dX1_canBeSwapped_11 rfl ?_
  refine v_iald X 3 0 rfl rfl in1_30 dX1_canBeSwapped_12 ?_
  refine v_iconst (x := 2) X dX1_canBeSwapped_13 rfl ?_
  refine v_icmp_ne (tgt := 53) X dX1_canBeSwapped_14 (by decide) (fun c_1 => ?_) (fun c_1 => ?_)
  · refine v_iconst (x := 0) X dX1_canBeSwapped_53 rfl ?_
    exact v_reti X hr hk rfl (by unfold r_X1_canBeSwapped; rw [if_neg c_1]) rfl (Nat.le_of_ble_eq_true rfl) (Nat.le_of_ble_eq_true rfl) dX1_canBeSwapped_54
  · refine v_aload_n X dX1_canBeSwapped_17 rfl ?_
    refine v_iload_n X dX1_canBeSwapped_18 rfl ?_
    refine v_callVi (As := [.int (S 10 p1.toNatClampNeg)]) (rest := []) (w' := (wC h cI S)) X (c_X1_has l D cI cII cL h S (S 10 p1.toNatClampNeg)) (cwV 1 X.2.2.2.1 gX1_canBeSwapped_X1_has rfl rfl rfl (by decide +kernel) ⟨Nat.le_of_ble_eq_true rfl, Nat.le_of_ble_eq_true rfl⟩) 0 1 rfl rfl rfl rfl rfl (Nat.le_of_ble_eq_true rfl) dX1_canBeSwapped_19 ⟨Nat.le_of_ble_eq_true rfl, Nat.le_of_ble_eq_true rfl⟩ ?_
    refine v_if_eq (tgt := 53) X dX1_canBeSwapped_22 (by decide) (fun c_2 => ?_) (fun c_2 => ?_)
    · refine v_iconst (x := 0) X dX1_canBeSwapped_53 rfl ?_
      exact v_reti X hr hk rfl (by unfold r_X1_canBeSwapped; rw [if_pos c_1, if_pos c_2]) rfl (Nat.le_of_ble_eq_true rfl) (Nat.le_of_ble_eq_true rfl) dX1_canBeSwapped_54
    · refine v_aload_n X dX1_canBeSwapped_25 rfl ?_
      refine v_getfield (ref := "Trumpvault$Cards") (ci := 1) (index := 18) (v := .ref (h 7)) X iX1 0 rfl rfl 2 (by decide) (by decide +kernel) (fun _ h9 => h9) rfl dX1_canBeSwapped_26 ?_
      refine v_iload_n X dX1_canBeSwapped_29 rfl ?_
      refine v_iald X 3 0 rfl rfl (has_in hcnt c_2) dX1_canBeSwapped_30 ?_
      refine v_if_ne (tgt := 53) X dX1_canBeSwapped_31 (by decide) (fun c_3 => ?_) (fun c_3 => ?_)
      · refine v_iconst (x := 0) X dX1_canBeSwapped_53 rfl ?_
        exact v_reti X hr hk rfl (by unfold r_X1_canBeSwapped; rw [if_pos c_1, if_neg c_2, if_neg c_3]) rfl (Nat.le_of_ble_eq_true rfl) (Nat.le_of_ble_eq_true rfl) dX1_canBeSwapped_54
      · refine v_aload_n X dX1_canBeSwapped_34 rfl ?_
        refine v_getfield (ref := "Trumpvault$Cards") (ci := 1) (index := 15) (v := .ref (h 6)) X iX1 0 rfl rfl 1 (by decide) (by decide +kernel) (fun _ h9 => h9) rfl dX1_canBeSwapped_35 ?_
        refine v_iload_n X dX1_canBeSwapped_38 rfl ?_
        refine v_iald X 2 0 rfl rfl in1_30 dX1_canBeSwapped_39 ?_
        refine v_aload_n X dX1_canBeSwapped_40 rfl ?_
        refine v_getfield (ref := "Trumpvault$Cards") (ci := 1) (index := 15) (v := .ref (h 6)) X iX1 0 rfl rfl 1 (by decide) (by decide +kernel) (fun _ h9 => h9) rfl dX1_canBeSwapped_41 ?_
        refine v_iload_n X dX1_canBeSwapped_44 rfl ?_
        refine v_iald X 2 0 rfl rfl (has_in hcnt c_2) dX1_canBeSwapped_45 ?_
        refine v_icmp_eq (tgt := 53) X dX1_canBeSwapped_46 (by decide) (fun c_4 => ?_) (fun c_4 => ?_)
        · refine v_iconst (x := 0) X dX1_canBeSwapped_53 rfl ?_
          exact v_reti X hr hk rfl (by unfold r_X1_canBeSwapped; rw [if_pos c_1, if_neg c_2, if_pos c_3, if_pos c_4]) rfl (Nat.le_of_ble_eq_true rfl) (Nat.le_of_ble_eq_true rfl) dX1_canBeSwapped_54
        · refine v_iconst (x := 1) X dX1_canBeSwapped_49 rfl ?_
          refine v_goto (tgt := 54) X dX1_canBeSwapped_50 (by decide) ?_
          exact v_reti X hr hk rfl (by unfold r_X1_canBeSwapped; rw [if_pos c_1, if_neg c_2, if_pos c_3, if_neg c_4]) rfl (Nat.le_of_ble_eq_true rfl) (Nat.le_of_ble_eq_true rfl) dX1_canBeSwapped_54

def st1_X1_takeSalesOf (S : St) (p1 : Int32) (k : Nat) (qS : St) (qb2 : Int32) : St × Int32 :=
  (if (r_X1_isOnSale (qS) (nI k) p1) = 0 then (qS, qb2) else ((s_X1_takeSale (qS) (nI k)), (qb2 + 1)))
def lp1_X1_takeSalesOf (S : St) (p1 : Int32) : Nat → St × Int32
  | 0 => (S, 0)
  | k + 1 => st1_X1_takeSalesOf S p1 k (lp1_X1_takeSalesOf S p1 k).1 (lp1_X1_takeSalesOf S p1 k).2
theorem e_lp1_X1_takeSalesOf (S : St) (p1 : Int32) (k : Nat) : lp1_X1_takeSalesOf S p1 (k + 1) = st1_X1_takeSalesOf S p1 k (lp1_X1_takeSalesOf S p1 k).1 (lp1_X1_takeSalesOf S p1 k).2 := rfl
def r_X1_takeSalesOf (S : St) (p1 : Int32) : Int32 :=
  (lp1_X1_takeSalesOf S p1 (S 4 8).toNatClampNeg).2
def s_X1_takeSalesOf (S : St) (p1 : Int32) : St :=
  (lp1_X1_takeSalesOf S p1 (S 4 8).toNatClampNeg).1
theorem lpc_X1_takeSalesOf (S : St) (p1 : Int32) (k : Nat) : (lp1_X1_takeSalesOf S p1 k).1 4 8 = S 4 8 := by
  induction k with
  | zero => rfl
  | succ k ih =>
    show (st1_X1_takeSalesOf S p1 k _ _).1 4 8 = _
    unfold st1_X1_takeSalesOf
    split
    · exact ih
    · exact ih
set_option maxHeartbeats 4000000 in
set_option maxRecDepth 100000 in
theorem c_X1_takeSalesOf (l : Launch) (D : va_G) (cI cII cL : ClassId) (h : Nat → Nat) (S : St) (p1 : Int32) (hcnt : cntC S) : v_Mi l D vwCl (tyl cI cII cL) yX1_takeSalesOf wsX1_takeSalesOf { frames := 1, cells := 0, slots := 0, locals := 22 } [.ref (h 4), .int p1] (wC h cI S) (r_X1_takeSalesOf S p1) (wC h cI (s_X1_takeSalesOf S p1)) := by
  refine v_ofMi (cc := cX1_takeSalesOf) (maxL := 4) (ret := (some .int)) (own := RX1) (lv0 := [(0, .ref (h 4)), (1, .int p1)]) (by decide) rfl rfl rfl (Nat.le_of_ble_eq_true rfl) ?_
  intro p e s m below meth c X hr hk hin
  have iX1 : ∀ w ∈ wsX10, w ∈ wsX1_takeSalesOf := by decide +kernel
  obtain ⟨N, hN, hN30, hNc⟩ := v_num (M := 30) (by decide) hcnt
  refine v_iconst (x := 0) X dX1_takeSalesOf_0 rfl ?_
  refine v_istore_n (lv' := [(2, .int 0), (0, .ref (h 4)), (1, .int p1)]) X dX1_takeSalesOf_1 (by decide) rfl ?_
  refine v_iconst (x := 0) X dX1_takeSalesOf_2 rfl ?_
  refine v_istore_n (lv' := [(3, .int 0), (2, .int 0), (0, .ref (h 4)), (1, .int p1)]) X dX1_takeSalesOf_3 (by decide) rfl ?_
  have L_1 : ∀ (d_1 k_1 : Nat) (i_1 b2_1 : Int32) (S1 : St), k_1 + d_1 = N → i_1 = nI k_1 → b2_1 = (lp1_X1_takeSalesOf S p1 k_1).2 → S1 = (lp1_X1_takeSalesOf S p1 k_1).1 → v_V p l e { frames := 1, cells := 0, slots := 0, locals := 22 } s m [.ref (h 4), .int p1].toArray below meth c D vwCl (va_A (wC h cI S) s.heap.size) 4 (v_Qi below s D vwCl (tyl cI cII cL) { frames := 1, cells := 0, slots := 0, locals := 22 } [.ref (h 4), .int p1] (wC h cI S) (r_X1_takeSalesOf S p1) (wC h cI (s_X1_takeSalesOf S p1))) 0 0 (wC h cI S1) 4 [(3, .int i_1), (2, .int b2_1), (0, .ref (h 4)), (1, .int p1)] [] := by
    intro d_1
    induction d_1 with
    | zero =>
      intro k_1 i_1 b2_1 S1 hk_1 ei_1 eb2_1 eS1
      subst ei_1 eb2_1 eS1
      obtain rfl : N = k_1 := by omega
      have hb : (lp1_X1_takeSalesOf S p1 N).1 4 8 = nI N := (lpc_X1_takeSalesOf S p1 N).trans hN
      refine v_iload_n X dX1_takeSalesOf_4 rfl ?_
      refine v_aload_n X dX1_takeSalesOf_5 rfl ?_
      refine v_getfield (ref := "Trumpvault$Cards") (ci := 1) (index := 36) (v := .int ((lp1_X1_takeSalesOf S p1 N).1 4 8)) X iX1 0 rfl rfl 8 (by decide) (by decide +kernel) (fun _ h9 => h9) rfl dX1_takeSalesOf_6 ?_
      refine v_icmp_ge (tgt := 36) X dX1_takeSalesOf_9 (by decide) (fun c_1 => ?_) (fun c_1 => ?_)
      · refine v_iload_n X dX1_takeSalesOf_36 rfl ?_
        exact v_reti X hr hk rfl (by unfold r_X1_takeSalesOf; rw [hNc]) (congrArg (fun z => (wC h cI z)) (by unfold s_X1_takeSalesOf; rw [hNc])) (Nat.le_of_ble_eq_true rfl) (Nat.le_of_ble_eq_true rfl) dX1_takeSalesOf_37
      · exact absurd (by rw [hb]; exact nI_le (Nat.le_refl _) (by omega)) c_1
    | succ d_1 ih_1 =>
      intro k_1 i_1 b2_1 S1 hk_1 ei_1 eb2_1 eS1
      subst ei_1 eb2_1 eS1
      have hlt_1 : k_1 < N := by omega
      have hb : (lp1_X1_takeSalesOf S p1 k_1).1 4 8 = nI N := (lpc_X1_takeSalesOf S p1 k_1).trans hN
      refine v_iload_n X dX1_takeSalesOf_4 rfl ?_
      refine v_aload_n X dX1_takeSalesOf_5 rfl ?_
      refine v_getfield (ref := "Trumpvault$Cards") (ci := 1) (index := 36) (v := .int ((lp1_X1_takeSalesOf S p1 k_1).1 4 8)) X iX1 0 rfl rfl 8 (by decide) (by decide +kernel) (fun _ h9 => h9) rfl dX1_takeSalesOf_6 ?_
      refine v_icmp_ge (tgt := 36) X dX1_takeSalesOf_9 (by decide) (fun c_2 => ?_) (fun c_2 => ?_)
      · exact absurd c_2 (by rw [hb]; exact nI_ge hlt_1 (by omega))
      · refine v_aload_n X dX1_takeSalesOf_12 rfl ?_
        refine v_iload_n X dX1_takeSalesOf_13 rfl ?_
        refine v_iload_n X dX1_takeSalesOf_14 rfl ?_
        refine v_callVi (As := [.int (nI k_1), .int p1]) (rest := []) (w' := (wC h cI (lp1_X1_takeSalesOf S p1 k_1).1)) X (c_X1_isOnSale l D cI cII cL h ((lp1_X1_takeSalesOf S p1 k_1).1) (nI k_1) p1 (vp_in_nI (by omega) (by decide))) (cwV 2 X.2.2.2.1 gX1_takeSalesOf_X1_isOnSale rfl rfl rfl (by decide +kernel) ⟨Nat.le_of_ble_eq_true rfl, Nat.le_of_ble_eq_true rfl⟩) 0 1 rfl rfl rfl rfl rfl (Nat.le_of_ble_eq_true rfl) dX1_takeSalesOf_15 ⟨Nat.le_of_ble_eq_true rfl, Nat.le_of_ble_eq_true rfl⟩ ?_
        refine v_if_eq (tgt := 30) X dX1_takeSalesOf_18 (by decide) (fun c_3 => ?_) (fun c_3 => ?_)
        · refine v_iinc (y := ((nI k_1) + 1)) (lv' := [(3, .int ((nI k_1) + 1)), (2, .int ((lp1_X1_takeSalesOf S p1 k_1).2)), (0, .ref (h 4)), (1, .int p1)]) X dX1_takeSalesOf_30 rfl rfl (by decide) rfl ?_
          refine v_goto (tgt := 4) X dX1_takeSalesOf_33 (by decide) ?_
          refine v_lv [0, 1, 2, 3] rfl ?_
          exact ih_1 (k_1 + 1) ((nI k_1) + 1) ((lp1_X1_takeSalesOf S p1 k_1).2) ((lp1_X1_takeSalesOf S p1 k_1).1) (by omega) (nI_1 k_1) (by rw [e_lp1_X1_takeSalesOf]; unfold st1_X1_takeSalesOf; rw [if_pos c_3]) (by rw [e_lp1_X1_takeSalesOf]; unfold st1_X1_takeSalesOf; rw [if_pos c_3])
        · refine v_aload_n X dX1_takeSalesOf_21 rfl ?_
          refine v_iload_n X dX1_takeSalesOf_22 rfl ?_
          refine v_callVi (As := [.int (nI k_1)]) (rest := []) (w' := (wC h cI (s_X1_takeSale ((lp1_X1_takeSalesOf S p1 k_1).1) (nI k_1)))) X (c_X1_takeSale l D cI cII cL h ((lp1_X1_takeSalesOf S p1 k_1).1) (nI k_1) (vp_in_nI (by omega) (by decide))) (cwV 1 X.2.2.2.1 gX1_takeSalesOf_X1_takeSale rfl rfl rfl (by decide +kernel) ⟨Nat.le_of_ble_eq_true rfl, Nat.le_of_ble_eq_true rfl⟩) 0 1 rfl rfl rfl rfl rfl (Nat.le_of_ble_eq_true rfl) dX1_takeSalesOf_23 ⟨Nat.le_of_ble_eq_true rfl, Nat.le_of_ble_eq_true rfl⟩ ?_
          refine v_pop X dX1_takeSalesOf_26 rfl ?_
          refine v_iinc (y := ((lp1_X1_takeSalesOf S p1 k_1).2 + 1)) (lv' := [(2, .int ((lp1_X1_takeSalesOf S p1 k_1).2 + 1)), (3, .int (nI k_1)), (0, .ref (h 4)), (1, .int p1)]) X dX1_takeSalesOf_27 rfl rfl (by decide) rfl ?_
          refine v_iinc (y := ((nI k_1) + 1)) (lv' := [(3, .int ((nI k_1) + 1)), (2, .int ((lp1_X1_takeSalesOf S p1 k_1).2 + 1)), (0, .ref (h 4)), (1, .int p1)]) X dX1_takeSalesOf_30 rfl rfl (by decide) rfl ?_
          refine v_goto (tgt := 4) X dX1_takeSalesOf_33 (by decide) ?_
          refine v_lv [0, 1, 2, 3] rfl ?_
          exact ih_1 (k_1 + 1) ((nI k_1) + 1) ((lp1_X1_takeSalesOf S p1 k_1).2 + 1) (s_X1_takeSale ((lp1_X1_takeSalesOf S p1 k_1).1) (nI k_1)) (by omega) (nI_1 k_1) (by rw [e_lp1_X1_takeSalesOf]; unfold st1_X1_takeSalesOf; rw [if_neg c_3]) (by rw [e_lp1_X1_takeSalesOf]; unfold st1_X1_takeSalesOf; rw [if_neg c_3])
  exact L_1 N 0 0 0 S (Nat.zero_add _) (by exact nI_0.symm) rfl rfl

def st1_X1_bestSale (S : St) (p1 p2 : Int32) (k : Nat) (qb3 : Int32) : Int32 :=
  (if (r_X1_isOnSale S (nI k) p1) = 0 then qb3 else (if (S 6 (nI k).toNatClampNeg) = p2 then qb3 else (if qb3 = (-1) then (nI k) else (if (r_X1_saleIsBefore S (nI k) qb3) = 0 then qb3 else (nI k)))))
def lp1_X1_bestSale (S : St) (p1 p2 : Int32) : Nat → Int32
  | 0 => (-1)
  | k + 1 => st1_X1_bestSale S p1 p2 k (lp1_X1_bestSale S p1 p2 k)
theorem e_lp1_X1_bestSale (S : St) (p1 p2 : Int32) (k : Nat) : lp1_X1_bestSale S p1 p2 (k + 1) = st1_X1_bestSale S p1 p2 k (lp1_X1_bestSale S p1 p2 k) := rfl
def r_X1_bestSale (S : St) (p1 p2 : Int32) : Int32 :=
  (lp1_X1_bestSale S p1 p2 (S 4 8).toNatClampNeg)
theorem rng_X1_bestSale (S : St) (p1 p2 : Int32) (k : Nat) (hk : k ≤ 30) : lp1_X1_bestSale S p1 p2 k = -1 ∨ vp_in (lp1_X1_bestSale S p1 p2 k) 30 := by
  induction k with
  | zero => exact Or.inl rfl
  | succ k ih =>
    have ih := ih (by omega)
    have hk2 : vp_in (nI k) 30 := vp_in_nI (by omega) (by decide)
    show st1_X1_bestSale S p1 p2 k _ = -1 ∨ vp_in (st1_X1_bestSale S p1 p2 k _) 30
    unfold st1_X1_bestSale
    repeat' split
    all_goals first | exact ih | exact Or.inr hk2
set_option maxHeartbeats 4000000 in
set_option maxRecDepth 100000 in
theorem c_X1_bestSale (l : Launch) (D : va_G) (cI cII cL : ClassId) (h : Nat → Nat) (S : St) (p1 p2 : Int32) (hcnt : cntC S) : v_Mi l D vwCl (tyl cI cII cL) yX1_bestSale wsX1_bestSale { frames := 1, cells := 0, slots := 0, locals := 22 } [.ref (h 4), .int p1, .int p2] (wC h cI S) (r_X1_bestSale S p1 p2) (wC h cI S) := by
  refine v_ofMi (cc := cX1_bestSale) (maxL := 5) (ret := (some .int)) (own := RX1) (lv0 := [(0, .ref (h 4)), (1, .int p1), (2, .int p2)]) (by decide) rfl rfl rfl (Nat.le_of_ble_eq_true rfl) ?_
  intro p e s m below meth c X hr hk hin
  have iX1 : ∀ w ∈ wsX10, w ∈ wsX1_bestSale := by decide +kernel
  obtain ⟨N, hN, hN30, hNc⟩ := v_num (M := 30) (by decide) hcnt
  refine v_iconst (x := (-1)) X dX1_bestSale_0 rfl ?_
  refine v_istore_n (lv' := [(3, .int (-1)), (0, .ref (h 4)), (1, .int p1), (2, .int p2)]) X dX1_bestSale_1 (by decide) rfl ?_
  refine v_iconst (x := 0) X dX1_bestSale_2 rfl ?_
  refine v_istore (lv' := [(4, .int 0), (3, .int (-1)), (0, .ref (h 4)), (1, .int p1), (2, .int p2)]) X dX1_bestSale_3 (by decide) rfl ?_
  have L_1 : ∀ (d_1 k_1 : Nat) (i_1 b3_1 : Int32), k_1 + d_1 = N → i_1 = nI k_1 → b3_1 = (lp1_X1_bestSale S p1 p2 k_1) → v_V p l e { frames := 1, cells := 0, slots := 0, locals := 22 } s m [.ref (h 4), .int p1, .int p2].toArray below meth c D vwCl (va_A (wC h cI S) s.heap.size) 5 (v_Qi below s D vwCl (tyl cI cII cL) { frames := 1, cells := 0, slots := 0, locals := 22 } [.ref (h 4), .int p1, .int p2] (wC h cI S) (r_X1_bestSale S p1 p2) (wC h cI S)) 0 0 (wC h cI S) 5 [(4, .int i_1), (3, .int b3_1), (0, .ref (h 4)), (1, .int p1), (2, .int p2)] [] := by
    intro d_1
    induction d_1 with
    | zero =>
      intro k_1 i_1 b3_1 hk_1 ei_1 eb3_1
      subst ei_1 eb3_1
      obtain rfl : N = k_1 := by omega
      refine v_iload X dX1_bestSale_5 rfl ?_
      refine v_aload_n X dX1_bestSale_7 rfl ?_
      refine v_getfield (ref := "Trumpvault$Cards") (ci := 1) (index := 36) (v := .int (S 4 8)) X iX1 0 rfl rfl 8 (by decide) (by decide +kernel) (fun _ h9 => h9) rfl dX1_bestSale_8 ?_
      refine v_icmp_ge (tgt := 59) X dX1_bestSale_11 (by decide) (fun c_1 => ?_) (fun c_1 => ?_)
      · refine v_iload_n X dX1_bestSale_59 rfl ?_
        exact v_reti X hr hk rfl (by unfold r_X1_bestSale; rw [hNc]) rfl (Nat.le_of_ble_eq_true rfl) (Nat.le_of_ble_eq_true rfl) dX1_bestSale_60
      · exact absurd (by rw [hN]; exact nI_le (Nat.le_refl _) (by omega)) c_1
    | succ d_1 ih_1 =>
      intro k_1 i_1 b3_1 hk_1 ei_1 eb3_1
      subst ei_1 eb3_1
      have hlt_1 : k_1 < N := by omega
      refine v_iload X dX1_bestSale_5 rfl ?_
      refine v_aload_n X dX1_bestSale_7 rfl ?_
      refine v_getfield (ref := "Trumpvault$Cards") (ci := 1) (index := 36) (v := .int (S 4 8)) X iX1 0 rfl rfl 8 (by decide) (by decide +kernel) (fun _ h9 => h9) rfl dX1_bestSale_8 ?_
      refine v_icmp_ge (tgt := 59) X dX1_bestSale_11 (by decide) (fun c_2 => ?_) (fun c_2 => ?_)
      · exact absurd c_2 (by rw [hN]; exact nI_ge hlt_1 (by omega))
      · refine v_aload_n X dX1_bestSale_14 rfl ?_
        refine v_iload X dX1_bestSale_15 rfl ?_
        refine v_iload_n X dX1_bestSale_17 rfl ?_
        refine v_callVi (As := [.int (nI k_1), .int p1]) (rest := []) (w' := (wC h cI S)) X (c_X1_isOnSale l D cI cII cL h S (nI k_1) p1 (vp_in_nI (by omega) (by decide))) (cwV 2 X.2.2.2.1 gX1_bestSale_X1_isOnSale rfl rfl rfl (by decide +kernel) ⟨Nat.le_of_ble_eq_true rfl, Nat.le_of_ble_eq_true rfl⟩) 0 1 rfl rfl rfl rfl rfl (Nat.le_of_ble_eq_true rfl) dX1_bestSale_18 ⟨Nat.le_of_ble_eq_true rfl, Nat.le_of_ble_eq_true rfl⟩ ?_
        refine v_if_eq (tgt := 53) X dX1_bestSale_21 (by decide) (fun c_3 => ?_) (fun c_3 => ?_)
        · refine v_iinc (y := ((nI k_1) + 1)) (lv' := [(4, .int ((nI k_1) + 1)), (3, .int (lp1_X1_bestSale S p1 p2 k_1)), (0, .ref (h 4)), (1, .int p1), (2, .int p2)]) X dX1_bestSale_53 rfl rfl (by decide) rfl ?_
          refine v_goto (tgt := 5) X dX1_bestSale_56 (by decide) ?_
          refine v_lv [0, 1, 2, 3, 4] rfl ?_
          exact ih_1 (k_1 + 1) ((nI k_1) + 1) (lp1_X1_bestSale S p1 p2 k_1) (by omega) (nI_1 k_1) (by rw [e_lp1_X1_bestSale]; unfold st1_X1_bestSale; rw [if_pos c_3])
        · refine v_aload_n X dX1_bestSale_24 rfl ?_
          refine v_getfield (ref := "Trumpvault$Cards") (ci := 1) (index := 15) (v := .ref (h 6)) X iX1 0 rfl rfl 1 (by decide) (by decide +kernel) (fun _ h9 => h9) rfl dX1_bestSale_25 ?_
          refine v_iload X dX1_bestSale_28 rfl ?_
          refine v_iald X 2 0 rfl rfl (vp_in_nI (by omega) (by decide)) dX1_bestSale_30 ?_
          refine v_iload_n X dX1_bestSale_31 rfl ?_
          refine v_icmp_eq (tgt := 53) X dX1_bestSale_32 (by decide) (fun c_4 => ?_) (fun c_4 => ?_)
          · refine v_iinc (y := ((nI k_1) + 1)) (lv' := [(4, .int ((nI k_1) + 1)), (3, .int (lp1_X1_bestSale S p1 p2 k_1)), (0, .ref (h 4)), (1, .int p1), (2, .int p2)]) X dX1_bestSale_53 rfl rfl (by decide) rfl ?_
            refine v_goto (tgt := 5) X dX1_bestSale_56 (by decide) ?_
            refine v_lv [0, 1, 2, 3, 4] rfl ?_
            exact ih_1 (k_1 + 1) ((nI k_1) + 1) (lp1_X1_bestSale S p1 p2 k_1) (by omega) (nI_1 k_1) (by rw [e_lp1_X1_bestSale]; unfold st1_X1_bestSale; rw [if_neg c_3, if_pos c_4])
          · refine v_iload_n X dX1_bestSale_35 rfl ?_
            refine v_iconst (x := (-1)) X dX1_bestSale_36 rfl ?_
            refine v_icmp_eq (tgt := 50) X dX1_bestSale_37 (by decide) (fun c_5 => ?_) (fun c_5 => ?_)
            · refine v_iload X dX1_bestSale_50 rfl ?_
              refine v_istore_n (lv' := [(3, .int (nI k_1)), (4, .int (nI k_1)), (0, .ref (h 4)), (1, .int p1), (2, .int p2)]) X dX1_bestSale_52 (by decide) rfl ?_
              refine v_iinc (y := ((nI k_1) + 1)) (lv' := [(4, .int ((nI k_1) + 1)), (3, .int (nI k_1)), (0, .ref (h 4)), (1, .int p1), (2, .int p2)]) X dX1_bestSale_53 rfl rfl (by decide) rfl ?_
              refine v_goto (tgt := 5) X dX1_bestSale_56 (by decide) ?_
              refine v_lv [0, 1, 2, 3, 4] rfl ?_
              exact ih_1 (k_1 + 1) ((nI k_1) + 1) (nI k_1) (by omega) (nI_1 k_1) (by rw [e_lp1_X1_bestSale]; unfold st1_X1_bestSale; rw [if_neg c_3, if_neg c_4, if_pos c_5])
            · refine v_aload_n X dX1_bestSale_40 rfl ?_
              refine v_iload X dX1_bestSale_41 rfl ?_
              refine v_iload_n X dX1_bestSale_43 rfl ?_
              refine v_callVi (As := [.int (nI k_1), .int (lp1_X1_bestSale S p1 p2 k_1)]) (rest := []) (w' := (wC h cI S)) X (c_X1_saleIsBefore l D cI cII cL h S (nI k_1) (lp1_X1_bestSale S p1 p2 k_1) (vp_in_nI (by omega) (by decide)) ((rng_X1_bestSale S p1 p2 k_1 (by omega)).resolve_left c_5)) (cwV 2 X.2.2.2.1 gX1_bestSale_X1_saleIsBefore rfl rfl rfl (by decide +kernel) ⟨Nat.le_of_ble_eq_true rfl, Nat.le_of_ble_eq_true rfl⟩) 0 1 rfl rfl rfl rfl rfl (Nat.le_of_ble_eq_true rfl) dX1_bestSale_44 ⟨Nat.le_of_ble_eq_true rfl, Nat.le_of_ble_eq_true rfl⟩ ?_
              refine v_if_eq (tgt := 53) X dX1_bestSale_47 (by decide) (fun c_6 => ?_) (fun c_6 => ?_)
              · refine v_iinc (y := ((nI k_1) + 1)) (lv' := [(4, .int ((nI k_1) + 1)), (3, .int (lp1_X1_bestSale S p1 p2 k_1)), (0, .ref (h 4)), (1, .int p1), (2, .int p2)]) X dX1_bestSale_53 rfl rfl (by decide) rfl ?_
                refine v_goto (tgt := 5) X dX1_bestSale_56 (by decide) ?_
                refine v_lv [0, 1, 2, 3, 4] rfl ?_
                exact ih_1 (k_1 + 1) ((nI k_1) + 1) (lp1_X1_bestSale S p1 p2 k_1) (by omega) (nI_1 k_1) (by rw [e_lp1_X1_bestSale]; unfold st1_X1_bestSale; rw [if_neg c_3, if_neg c_4, if_neg c_5, if_pos c_6])
              · refine v_iload X dX1_bestSale_50 rfl ?_
                refine v_istore_n (lv' := [(3, .int (nI k_1)), (4, .int (nI k_1)), (0, .ref (h 4)), (1, .int p1), (2, .int p2)]) X dX1_bestSale_52 (by decide) rfl ?_
                refine v_iinc (y := ((nI k_1) + 1)) (lv' := [(4, .int ((nI k_1) + 1)), (3, .int (nI k_1)), (0, .ref (h 4)), (1, .int p1), (2, .int p2)]) X dX1_bestSale_53 rfl rfl (by decide) rfl ?_
                refine v_goto (tgt := 5) X dX1_bestSale_56 (by decide) ?_
                refine v_lv [0, 1, 2, 3, 4] rfl ?_
                exact ih_1 (k_1 + 1) ((nI k_1) + 1) (nI k_1) (by omega) (nI_1 k_1) (by rw [e_lp1_X1_bestSale]; unfold st1_X1_bestSale; rw [if_neg c_3, if_neg c_4, if_neg c_5, if_neg c_6])
  exact L_1 N 0 0 (-1) (Nat.zero_add _) (by exact nI_0.symm) rfl

def st1_X1_endLoans (S : St) (p1 : Int32) (k : Nat) (qS : St) : St :=
  (if (qS 7 (nI k).toNatClampNeg) = 3 then (if p1 < (qS 12 (nI k).toNatClampNeg) then qS else (sU qS 7 (nI k).toNatClampNeg 0)) else qS)
def lp1_X1_endLoans (S : St) (p1 : Int32) : Nat → St
  | 0 => S
  | k + 1 => st1_X1_endLoans S p1 k (lp1_X1_endLoans S p1 k)
theorem e_lp1_X1_endLoans (S : St) (p1 : Int32) (k : Nat) : lp1_X1_endLoans S p1 (k + 1) = st1_X1_endLoans S p1 k (lp1_X1_endLoans S p1 k) := rfl
def s_X1_endLoans (S : St) (p1 : Int32) : St :=
  (lp1_X1_endLoans S p1 (S 4 8).toNatClampNeg)
theorem lpc_X1_endLoans (S : St) (p1 : Int32) (k : Nat) : lp1_X1_endLoans S p1 k 4 8 = S 4 8 := by
  induction k with
  | zero => rfl
  | succ k ih =>
    show st1_X1_endLoans S p1 k _ 4 8 = _
    unfold st1_X1_endLoans
    repeat' split
    all_goals exact ih
set_option maxHeartbeats 4000000 in
set_option maxRecDepth 100000 in
theorem c_X1_endLoans (l : Launch) (D : va_G) (cI cII cL : ClassId) (h : Nat → Nat) (S : St) (p1 : Int32) (hcnt : cntC S) : v_Mv l D vwCl (tyl cI cII cL) yX1_endLoans wsX1_endLoans { frames := 0, cells := 0, slots := 0, locals := 0 } [.ref (h 4), .int p1] (wC h cI S) (wC h cI (s_X1_endLoans S p1)) := by
  refine v_ofMv (cc := cX1_endLoans) (maxL := 3) (ret := none) (own := RX1) (lv0 := [(0, .ref (h 4)), (1, .int p1)]) (by decide) rfl rfl rfl (Nat.le_of_ble_eq_true rfl) ?_
  intro p e s m below meth c X hr hk hin
  have iX1 : ∀ w ∈ wsX10, w ∈ wsX1_endLoans := by decide +kernel
  obtain ⟨N, hN, hN30, hNc⟩ := v_num (M := 30) (by decide) hcnt
  refine v_iconst (x := 0) X dX1_endLoans_0 rfl ?_
  refine v_istore_n (lv' := [(2, .int 0), (0, .ref (h 4)), (1, .int p1)]) X dX1_endLoans_1 (by decide) rfl ?_
  have L_1 : ∀ (d_1 k_1 : Nat) (i_1 : Int32) (S1 : St), k_1 + d_1 = N → i_1 = nI k_1 → S1 = (lp1_X1_endLoans S p1 k_1) → v_V p l e { frames := 0, cells := 0, slots := 0, locals := 0 } s m [.ref (h 4), .int p1].toArray below meth c D vwCl (va_A (wC h cI S) s.heap.size) 3 (v_Qv below s D vwCl (tyl cI cII cL) { frames := 0, cells := 0, slots := 0, locals := 0 } [.ref (h 4), .int p1] (wC h cI S) (wC h cI (s_X1_endLoans S p1))) 0 0 (wC h cI S1) 2 [(2, .int i_1), (0, .ref (h 4)), (1, .int p1)] [] := by
    intro d_1
    induction d_1 with
    | zero =>
      intro k_1 i_1 S1 hk_1 ei_1 eS1
      subst ei_1 eS1
      obtain rfl : N = k_1 := by omega
      have hb : (lp1_X1_endLoans S p1 N) 4 8 = nI N := (lpc_X1_endLoans S p1 N).trans hN
      refine v_iload_n X dX1_endLoans_2 rfl ?_
      refine v_aload_n X dX1_endLoans_3 rfl ?_
      refine v_getfield (ref := "Trumpvault$Cards") (ci := 1) (index := 36) (v := .int ((lp1_X1_endLoans S p1 N) 4 8)) X iX1 0 rfl rfl 8 (by decide) (by decide +kernel) (fun _ h9 => h9) rfl dX1_endLoans_4 ?_
      refine v_icmp_ge (tgt := 43) X dX1_endLoans_7 (by decide) (fun c_1 => ?_) (fun c_1 => ?_)
      · exact v_retv X hr hk (congrArg (fun z => (wC h cI z)) (by unfold s_X1_endLoans; rw [hNc])) (Nat.le_of_ble_eq_true rfl) (Nat.le_of_ble_eq_true rfl) dX1_endLoans_43
      · exact absurd (by rw [hb]; exact nI_le (Nat.le_refl _) (by omega)) c_1
    | succ d_1 ih_1 =>
      intro k_1 i_1 S1 hk_1 ei_1 eS1
      subst ei_1 eS1
      have hlt_1 : k_1 < N := by omega
      have hb : (lp1_X1_endLoans S p1 k_1) 4 8 = nI N := (lpc_X1_endLoans S p1 k_1).trans hN
      refine v_iload_n X dX1_endLoans_2 rfl ?_
      refine v_aload_n X dX1_endLoans_3 rfl ?_
      refine v_getfield (ref := "Trumpvault$Cards") (ci := 1) (index := 36) (v := .int ((lp1_X1_endLoans S p1 k_1) 4 8)) X iX1 0 rfl rfl 8 (by decide) (by decide +kernel) (fun _ h9 => h9) rfl dX1_endLoans_4 ?_
      refine v_icmp_ge (tgt := 43) X dX1_endLoans_7 (by decide) (fun c_2 => ?_) (fun c_2 => ?_)
      · exact absurd c_2 (by rw [hb]; exact nI_ge hlt_1 (by omega))
      · refine v_aload_n X dX1_endLoans_10 rfl ?_
        refine v_getfield (ref := "Trumpvault$Cards") (ci := 1) (index := 18) (v := .ref (h 7)) X iX1 0 rfl rfl 2 (by decide) (by decide +kernel) (fun _ h9 => h9) rfl dX1_endLoans_11 ?_
        refine v_iload_n X dX1_endLoans_14 rfl ?_
        refine v_iald X 3 0 rfl rfl (vp_in_nI (by omega) (by decide)) dX1_endLoans_15 ?_
        refine v_iconst (x := 3) X dX1_endLoans_16 rfl ?_
        refine v_icmp_ne (tgt := 37) X dX1_endLoans_17 (by decide) (fun c_3 => ?_) (fun c_3 => ?_)
        · refine v_iinc (y := ((nI k_1) + 1)) (lv' := [(2, .int ((nI k_1) + 1)), (0, .ref (h 4)), (1, .int p1)]) X dX1_endLoans_37 rfl rfl (by decide) rfl ?_
          refine v_goto (tgt := 2) X dX1_endLoans_40 (by decide) ?_
          refine v_lv [0, 1, 2] rfl ?_
          exact ih_1 (k_1 + 1) ((nI k_1) + 1) (lp1_X1_endLoans S p1 k_1) (by omega) (nI_1 k_1) (by rw [e_lp1_X1_endLoans]; unfold st1_X1_endLoans; rw [if_neg c_3])
        · refine v_aload_n X dX1_endLoans_20 rfl ?_
          refine v_getfield (ref := "Trumpvault$Cards") (ci := 1) (index := 33) (v := .ref (h 12)) X iX1 0 rfl rfl 7 (by decide) (by decide +kernel) (fun _ h9 => h9) rfl dX1_endLoans_21 ?_
          refine v_iload_n X dX1_endLoans_24 rfl ?_
          refine v_iald X 8 0 rfl rfl (vp_in_nI (by omega) (by decide)) dX1_endLoans_25 ?_
          refine v_iload_n X dX1_endLoans_26 rfl ?_
          refine v_icmp_gt (tgt := 37) X dX1_endLoans_27 (by decide) (fun c_4 => ?_) (fun c_4 => ?_)
          · refine v_iinc (y := ((nI k_1) + 1)) (lv' := [(2, .int ((nI k_1) + 1)), (0, .ref (h 4)), (1, .int p1)]) X dX1_endLoans_37 rfl rfl (by decide) rfl ?_
            refine v_goto (tgt := 2) X dX1_endLoans_40 (by decide) ?_
            refine v_lv [0, 1, 2] rfl ?_
            exact ih_1 (k_1 + 1) ((nI k_1) + 1) (lp1_X1_endLoans S p1 k_1) (by omega) (nI_1 k_1) (by rw [e_lp1_X1_endLoans]; unfold st1_X1_endLoans; rw [if_pos c_3, if_pos c_4])
          · refine v_aload_n X dX1_endLoans_30 rfl ?_
            refine v_getfield (ref := "Trumpvault$Cards") (ci := 1) (index := 18) (v := .ref (h 7)) X iX1 0 rfl rfl 2 (by decide) (by decide +kernel) (fun _ h9 => h9) rfl dX1_endLoans_31 ?_
            refine v_iload_n X dX1_endLoans_34 rfl ?_
            refine v_iconst (x := 0) X dX1_endLoans_35 rfl ?_
            refine v_iast (w' := (wC h cI (sU (lp1_X1_endLoans S p1 k_1) 7 (nI k_1).toNatClampNeg 0))) X 3 0 rfl rfl (vp_in_nI (by omega) (by decide)) dX1_endLoans_36 rfl ?_
            refine v_iinc (y := ((nI k_1) + 1)) (lv' := [(2, .int ((nI k_1) + 1)), (0, .ref (h 4)), (1, .int p1)]) X dX1_endLoans_37 rfl rfl (by decide) rfl ?_
            refine v_goto (tgt := 2) X dX1_endLoans_40 (by decide) ?_
            refine v_lv [0, 1, 2] rfl ?_
            exact ih_1 (k_1 + 1) ((nI k_1) + 1) (sU (lp1_X1_endLoans S p1 k_1) 7 (nI k_1).toNatClampNeg 0) (by omega) (nI_1 k_1) (by rw [e_lp1_X1_endLoans]; unfold st1_X1_endLoans; rw [if_pos c_3, if_neg c_4])
  exact L_1 N 0 0 S (Nat.zero_add _) (by exact nI_0.symm) rfl
end
section
def r_X0_has (S : St) (p1 p2 : Int32) : Int32 :=
  (if (S (15 + p1.toNatClampNeg) p2.toNatClampNeg) = 0 then 0 else 1)
theorem b_X0_has (S : St) (p1 p2 : Int32) : (r_X0_has S p1 p2) = 0 ∨ (r_X0_has S p1 p2) = 1 := by
  unfold r_X0_has
  repeat' split
  all_goals first | exact Or.inl rfl | exact Or.inr rfl
set_option maxHeartbeats 4000000 in
set_option maxRecDepth 100000 in
theorem c_X0_has (l : Launch) (D : va_G) (cI cII cL : ClassId) (h : Nat → Nat) (S : St) (p1 p2 : Int32) (in1_5 : vp_in p1 5) (in2_8 : vp_in p2 8) : v_Mi l D vwCl (tyl cI cII cL) yX0_has wsX0_has { frames := 0, cells := 0, slots := 0, locals := 0 } [.ref (h 13), .int p1, .int p2] (wB h cI cII S) (r_X0_has S p1 p2) (wB h cI cII S) := by
  refine v_ofMi (cc := cX0_has) (maxL := 3) (ret := (some .boolean)) (own := RX0) (lv0 := [(0, .ref (h 13)), (1, .int p1), (2, .int p2)]) (by decide) rfl rfl rfl (Nat.le_of_ble_eq_true rfl) ?_
  intro p e s m below meth c X hr hk hin
  have iX0 : ∀ w ∈ wsX00, w ∈ wsX0_has := by decide +kernel
  refine v_aload_n X dX0_has_0 rfl ?_
  refine v_getfield (ref := "Trumpvault$Bids") (ci := 0) (index := 11) (v := .ref (h 14)) X iX0 0 rfl rfl 0 (by decide) (by decide +kernel) (fun _ h9 => h9) rfl dX0_has_1 ?_
  refine v_iload_n X dX0_has_4 rfl ?_
  refine v_aald (b := h (15 + p1.toNatClampNeg)) X 1 1 rfl rfl in1_5 (if_pos (vp_lt in1_5)) dX0_has_5 ?_
  refine v_iload_n X dX0_has_6 rfl ?_
  refine v_iald X (2 + p1.toNatClampNeg) 0 (wB_row15 in1_5) rfl in2_8 dX0_has_7 ?_
  refine v_if_eq (tgt := 15) X dX0_has_8 (by decide) (fun c_1 => ?_) (fun c_1 => ?_)
  · refine v_iconst (x := 0) X dX0_has_15 rfl ?_
    exact v_reti X hr hk rfl (by unfold r_X0_has; rw [if_pos c_1]) rfl (Nat.le_of_ble_eq_true rfl) (Nat.le_of_ble_eq_true rfl) dX0_has_16
  · refine v_iconst (x := 1) X dX0_has_11 rfl ?_
    refine v_goto (tgt := 16) X dX0_has_12 (by decide) ?_
    exact v_reti X hr hk rfl (by unfold r_X0_has; rw [if_neg c_1]) rfl (Nat.le_of_ble_eq_true rfl) (Nat.le_of_ble_eq_true rfl) dX0_has_16

def s_X0_put (S : St) (p1 p2 p3 p4 : Int32) : St :=
  (sU (sU S (15 + p1.toNatClampNeg) p2.toNatClampNeg p3) (21 + p1.toNatClampNeg) p2.toNatClampNeg p4)
set_option maxHeartbeats 4000000 in
set_option maxRecDepth 100000 in
theorem c_X0_put (l : Launch) (D : va_G) (cI cII cL : ClassId) (h : Nat → Nat) (S : St) (p1 p2 p3 p4 : Int32) (in1_5 : vp_in p1 5) (in2_8 : vp_in p2 8) : v_Mv l D vwCl (tyl cI cII cL) yX0_put wsX0_put { frames := 0, cells := 0, slots := 0, locals := 0 } [.ref (h 13), .int p1, .int p2, .int p3, .int p4] (wB h cI cII S) (wB h cI cII (s_X0_put S p1 p2 p3 p4)) := by
  refine v_ofMv (cc := cX0_put) (maxL := 5) (ret := none) (own := RX0) (lv0 := [(0, .ref (h 13)), (1, .int p1), (2, .int p2), (3, .int p3), (4, .int p4)]) (by decide) rfl rfl rfl (Nat.le_of_ble_eq_true rfl) ?_
  intro p e s m below meth c X hr hk hin
  have iX0 : ∀ w ∈ wsX00, w ∈ wsX0_put := by decide +kernel
  refine v_aload_n X dX0_put_0 rfl ?_
  refine v_getfield (ref := "Trumpvault$Bids") (ci := 0) (index := 11) (v := .ref (h 14)) X iX0 0 rfl rfl 0 (by decide) (by decide +kernel) (fun _ h9 => h9) rfl dX0_put_1 ?_
  refine v_iload_n X dX0_put_4 rfl ?_
  refine v_aald (b := h (15 + p1.toNatClampNeg)) X 1 1 rfl rfl in1_5 (if_pos (vp_lt in1_5)) dX0_put_5 ?_
  refine v_iload_n X dX0_put_6 rfl ?_
  refine v_iload_n X dX0_put_7 rfl ?_
  refine v_iast (w' := (wB h cI cII (sU S (15 + p1.toNatClampNeg) p2.toNatClampNeg p3))) X (2 + p1.toNatClampNeg) 0 (wB_row15 in1_5) rfl in2_8 dX0_put_8 (wB_set15 in1_5) ?_
  refine v_aload_n X dX0_put_9 rfl ?_
  refine v_getfield (ref := "Trumpvault$Bids") (ci := 0) (index := 16) (v := .ref (h 20)) X iX0 0 rfl rfl 1 (by decide) (by decide +kernel) (fun _ h9 => h9) rfl dX0_put_10 ?_
  refine v_iload_n X dX0_put_13 rfl ?_
  refine v_aald (b := h (21 + p1.toNatClampNeg)) X 7 1 rfl rfl in1_5 (if_pos (vp_lt in1_5)) dX0_put_14 ?_
  refine v_iload_n X dX0_put_15 rfl ?_
  refine v_iload X dX0_put_16 rfl ?_
  refine v_iast (w' := (wB h cI cII (sU (sU S (15 + p1.toNatClampNeg) p2.toNatClampNeg p3) (21 + p1.toNatClampNeg) p2.toNatClampNeg p4))) X (8 + p1.toNatClampNeg) 0 (wB_row21 in1_5) rfl in2_8 dX0_put_18 (wB_set21 in1_5) ?_
  exact v_retv X hr hk (congrArg (fun z => (wB h cI cII z)) (by unfold s_X0_put; rfl)) (Nat.le_of_ble_eq_true rfl) (Nat.le_of_ble_eq_true rfl) dX0_put_19

theorem his_in {S : St} (hc : hisC S) (h : S 26 2 < (512 : Int32)) : vp_in (S 26 2) 512 := by
  rw [vp_in_iff]
  simp only [Int32.lt_iff_toInt_lt] at h
  have h9 : (512 : Int32).toInt = 512 := by decide
  have := hc.1
  omega

def r_X0_take (S : St) (p1 p2 : Int32) : Int32 :=
  (S (15 + p1.toNatClampNeg) p2.toNatClampNeg)
def s_X0_take (S : St) (p1 p2 : Int32) : St :=
  (sU S (15 + p1.toNatClampNeg) p2.toNatClampNeg 0)
set_option maxHeartbeats 4000000 in
set_option maxRecDepth 100000 in
theorem c_X0_take (l : Launch) (D : va_G) (cI cII cL : ClassId) (h : Nat → Nat) (S : St) (p1 p2 : Int32) (in1_5 : vp_in p1 5) (in2_8 : vp_in p2 8) : v_Mi l D vwCl (tyl cI cII cL) yX0_take wsX0_take { frames := 0, cells := 0, slots := 0, locals := 0 } [.ref (h 13), .int p1, .int p2] (wB h cI cII S) (r_X0_take S p1 p2) (wB h cI cII (s_X0_take S p1 p2)) := by
  refine v_ofMi (cc := cX0_take) (maxL := 4) (ret := (some .int)) (own := RX0) (lv0 := [(0, .ref (h 13)), (1, .int p1), (2, .int p2)]) (by decide) rfl rfl rfl (Nat.le_of_ble_eq_true rfl) ?_
  intro p e s m below meth c X hr hk hin
  have iX0 : ∀ w ∈ wsX00, w ∈ wsX0_take := by decide +kernel
  refine v_aload_n X dX0_take_0 rfl ?_
  refine v_getfield (ref := "Trumpvault$Bids") (ci := 0) (index := 11) (v := .ref (h 14)) X iX0 0 rfl rfl 0 (by decide) (by decide +kernel) (fun _ h9 => h9) rfl dX0_take_1 ?_
  refine v_iload_n X dX0_take_4 rfl ?_
  refine v_aald (b := h (15 + p1.toNatClampNeg)) X 1 1 rfl rfl in1_5 (if_pos (vp_lt in1_5)) dX0_take_5 ?_
  refine v_iload_n X dX0_take_6 rfl ?_
  refine v_iald X (2 + p1.toNatClampNeg) 0 (wB_row15 in1_5) rfl in2_8 dX0_take_7 ?_
  refine v_istore_n (lv' := [(3, .int (S (15 + p1.toNatClampNeg) p2.toNatClampNeg)), (0, .ref (h 13)), (1, .int p1), (2, .int p2)]) X dX0_take_8 (by decide) rfl ?_
  refine v_aload_n X dX0_take_9 rfl ?_
  refine v_getfield (ref := "Trumpvault$Bids") (ci := 0) (index := 11) (v := .ref (h 14)) X iX0 0 rfl rfl 0 (by decide) (by decide +kernel) (fun _ h9 => h9) rfl dX0_take_10 ?_
  refine v_iload_n X dX0_take_13 rfl ?_
  refine v_aald (b := h (15 + p1.toNatClampNeg)) X 1 1 rfl rfl in1_5 (if_pos (vp_lt in1_5)) dX0_take_14 ?_
  refine v_iload_n X dX0_take_15 rfl ?_
  refine v_iconst (x := 0) X dX0_take_16 rfl ?_
  refine v_iast (w' := (wB h cI cII (sU S (15 + p1.toNatClampNeg) p2.toNatClampNeg 0))) X (2 + p1.toNatClampNeg) 0 (wB_row15 in1_5) rfl in2_8 dX0_take_17 (wB_set15 in1_5) ?_
  refine v_iload_n X dX0_take_18 rfl ?_
  exact v_reti X hr hk rfl (by unfold r_X0_take; rfl) (congrArg (fun z => (wB h cI cII z)) (by unfold s_X0_take; rfl)) (Nat.le_of_ble_eq_true rfl) (Nat.le_of_ble_eq_true rfl) dX0_take_19

def r_X0_isBefore (S : St) (p1 p2 p3 : Int32) : Int32 :=
  (if (S (15 + p2.toNatClampNeg) p3.toNatClampNeg) < (S (15 + p1.toNatClampNeg) p3.toNatClampNeg) then 1 else (if (S (15 + p1.toNatClampNeg) p3.toNatClampNeg) = (S (15 + p2.toNatClampNeg) p3.toNatClampNeg) then (if (S (21 + p2.toNatClampNeg) p3.toNatClampNeg) ≤ (S (21 + p1.toNatClampNeg) p3.toNatClampNeg) then 0 else 1) else 0))
theorem b_X0_isBefore (S : St) (p1 p2 p3 : Int32) : (r_X0_isBefore S p1 p2 p3) = 0 ∨ (r_X0_isBefore S p1 p2 p3) = 1 := by
  unfold r_X0_isBefore
  repeat' split
  all_goals first | exact Or.inl rfl | exact Or.inr rfl
set_option maxHeartbeats 4000000 in
set_option maxRecDepth 100000 in
theorem c_X0_isBefore (l : Launch) (D : va_G) (cI cII cL : ClassId) (h : Nat → Nat) (S : St) (p1 p2 p3 : Int32) (in1_5 : vp_in p1 5) (in2_5 : vp_in p2 5) (in3_8 : vp_in p3 8) : v_Mi l D vwCl (tyl cI cII cL) yX0_isBefore wsX0_isBefore { frames := 0, cells := 0, slots := 0, locals := 0 } [.ref (h 13), .int p1, .int p2, .int p3] (wB h cI cII S) (r_X0_isBefore S p1 p2 p3) (wB h cI cII S) := by
  refine v_ofMi (cc := cX0_isBefore) (maxL := 6) (ret := (some .boolean)) (own := RX0) (lv0 := [(0, .ref (h 13)), (1, .int p1), (2, .int p2), (3, .int p3)]) (by decide) rfl rfl rfl (Nat.le_of_ble_eq_true rfl) ?_
  intro p e s m below meth c X hr hk hin
  have iX0 : ∀ w ∈ wsX00, w ∈ wsX0_isBefore := by decide +kernel
  refine v_aload_n X dX0_isBefore_0 rfl ?_
  refine v_getfield (ref := "Trumpvault$Bids") (ci := 0) (index := 11) (v := .ref (h 14)) X iX0 0 rfl rfl 0 (by decide) (by decide +kernel) (fun _ h9 => h9) rfl dX0_isBefore_1 ?_
  refine v_iload_n X dX0_isBefore_4 rfl ?_
  refine v_aald (b := h (15 + p1.toNatClampNeg)) X 1 1 rfl rfl in1_5 (if_pos (vp_lt in1_5)) dX0_isBefore_5 ?_
  refine v_iload_n X dX0_isBefore_6 rfl ?_
  refine v_iald X (2 + p1.toNatClampNeg) 0 (wB_row15 in1_5) rfl in3_8 dX0_isBefore_7 ?_
  refine v_istore (lv' := [(4, .int (S (15 + p1.toNatClampNeg) p3.toNatClampNeg)), (0, .ref (h 13)), (1, .int p1), (2, .int p2), (3, .int p3)]) X dX0_isBefore_8 (by decide) rfl ?_
  refine v_aload_n X dX0_isBefore_10 rfl ?_
  refine v_getfield (ref := "Trumpvault$Bids") (ci := 0) (index := 11) (v := .ref (h 14)) X iX0 0 rfl rfl 0 (by decide) (by decide +kernel) (fun _ h9 => h9) rfl dX0_isBefore_11 ?_
  refine v_iload_n X dX0_isBefore_14 rfl ?_
  refine v_aald (b := h (15 + p2.toNatClampNeg)) X 1 1 rfl rfl in2_5 (if_pos (vp_lt in2_5)) dX0_isBefore_15 ?_
  refine v_iload_n X dX0_isBefore_16 rfl ?_
  refine v_iald X (2 + p2.toNatClampNeg) 0 (wB_row15 in2_5) rfl in3_8 dX0_isBefore_17 ?_
  refine v_istore (lv' := [(5, .int (S (15 + p2.toNatClampNeg) p3.toNatClampNeg)), (4, .int (S (15 + p1.toNatClampNeg) p3.toNatClampNeg)), (0, .ref (h 13)), (1, .int p1), (2, .int p2), (3, .int p3)]) X dX0_isBefore_18 (by decide) rfl ?_
  refine v_iload X dX0_isBefore_20 rfl ?_
  refine v_iload X dX0_isBefore_22 rfl ?_
  refine v_icmp_gt (tgt := 53) X dX0_isBefore_24 (by decide) (fun c_1 => ?_) (fun c_1 => ?_)
  · refine v_iconst (x := 1) X dX0_isBefore_53 rfl ?_
    refine v_goto (tgt := 58) X dX0_isBefore_54 (by decide) ?_
    exact v_reti X hr hk rfl (by unfold r_X0_isBefore; rw [if_pos c_1]) rfl (Nat.le_of_ble_eq_true rfl) (Nat.le_of_ble_eq_true rfl) dX0_isBefore_58
  · refine v_iload X dX0_isBefore_27 rfl ?_
    refine v_iload X dX0_isBefore_29 rfl ?_
    refine v_icmp_ne (tgt := 57) X dX0_isBefore_31 (by decide) (fun c_2 => ?_) (fun c_2 => ?_)
    · refine v_iconst (x := 0) X dX0_isBefore_57 rfl ?_
      exact v_reti X hr hk rfl (by unfold r_X0_isBefore; rw [if_neg c_1, if_neg c_2]) rfl (Nat.le_of_ble_eq_true rfl) (Nat.le_of_ble_eq_true rfl) dX0_isBefore_58
    · refine v_aload_n X dX0_isBefore_34 rfl ?_
      refine v_getfield (ref := "Trumpvault$Bids") (ci := 0) (index := 16) (v := .ref (h 20)) X iX0 0 rfl rfl 1 (by decide) (by decide +kernel) (fun _ h9 => h9) rfl dX0_isBefore_35 ?_
      refine v_iload_n X dX0_isBefore_38 rfl ?_
      refine v_aald (b := h (21 + p1.toNatClampNeg)) X 7 1 rfl rfl in1_5 (if_pos (vp_lt in1_5)) dX0_isBefore_39 ?_
      refine v_iload_n X dX0_isBefore_40 rfl ?_
      refine v_iald X (8 + p1.toNatClampNeg) 0 (wB_row21 in1_5) rfl in3_8 dX0_isBefore_41 ?_
      refine v_aload_n X dX0_isBefore_42 rfl ?_
      refine v_getfield (ref := "Trumpvault$Bids") (ci := 0) (index := 16) (v := .ref (h 20)) X iX0 0 rfl rfl 1 (by decide) (by decide +kernel) (fun _ h9 => h9) rfl dX0_isBefore_43 ?_
      refine v_iload_n X dX0_isBefore_46 rfl ?_
      refine v_aald (b := h (21 + p2.toNatClampNeg)) X 7 1 rfl rfl in2_5 (if_pos (vp_lt in2_5)) dX0_isBefore_47 ?_
      refine v_iload_n X dX0_isBefore_48 rfl ?_
      refine v_iald X (8 + p2.toNatClampNeg) 0 (wB_row21 in2_5) rfl in3_8 dX0_isBefore_49 ?_
      refine v_icmp_ge (tgt := 57) X dX0_isBefore_50 (by decide) (fun c_3 => ?_) (fun c_3 => ?_)
      · refine v_iconst (x := 0) X dX0_isBefore_57 rfl ?_
        exact v_reti X hr hk rfl (by unfold r_X0_isBefore; rw [if_neg c_1, if_pos c_2, if_pos c_3]) rfl (Nat.le_of_ble_eq_true rfl) (Nat.le_of_ble_eq_true rfl) dX0_isBefore_58
      · refine v_iconst (x := 1) X dX0_isBefore_53 rfl ?_
        refine v_goto (tgt := 58) X dX0_isBefore_54 (by decide) ?_
        exact v_reti X hr hk rfl (by unfold r_X0_isBefore; rw [if_neg c_1, if_pos c_2, if_neg c_3]) rfl (Nat.le_of_ble_eq_true rfl) (Nat.le_of_ble_eq_true rfl) dX0_isBefore_58

def st1_X0_bestBidder (S : St) (p1 p2 : Int32) (k : Nat) (qb3 : Int32) : Int32 :=
  (if (r_X0_has S (nI k) p1) = 0 then qb3 else (if (nI k) = p2 then qb3 else (if qb3 = (-1) then (nI k) else (if (r_X0_isBefore S (nI k) qb3 p1) = 0 then qb3 else (nI k)))))
def lp1_X0_bestBidder (S : St) (p1 p2 : Int32) : Nat → Int32
  | 0 => (-1)
  | k + 1 => st1_X0_bestBidder S p1 p2 k (lp1_X0_bestBidder S p1 p2 k)
theorem e_lp1_X0_bestBidder (S : St) (p1 p2 : Int32) (k : Nat) : lp1_X0_bestBidder S p1 p2 (k + 1) = st1_X0_bestBidder S p1 p2 k (lp1_X0_bestBidder S p1 p2 k) := rfl
def r_X0_bestBidder (S : St) (p1 p2 : Int32) : Int32 :=
  (lp1_X0_bestBidder S p1 p2 5)
theorem rng_X0_bestBidder (S : St) (p1 p2 : Int32) (k : Nat) (hk : k ≤ 5) : lp1_X0_bestBidder S p1 p2 k = -1 ∨ vp_in (lp1_X0_bestBidder S p1 p2 k) 5 := by
  induction k with
  | zero => exact Or.inl rfl
  | succ k ih =>
    have ih := ih (by omega)
    have hk2 : vp_in (nI k) 5 := vp_in_nI (by omega) (by decide)
    show st1_X0_bestBidder S p1 p2 k _ = -1 ∨ vp_in (st1_X0_bestBidder S p1 p2 k _) 5
    unfold st1_X0_bestBidder
    repeat' split
    all_goals first | exact ih | exact Or.inr hk2
set_option maxHeartbeats 4000000 in
set_option maxRecDepth 100000 in
theorem c_X0_bestBidder (l : Launch) (D : va_G) (cI cII cL : ClassId) (h : Nat → Nat) (S : St) (p1 p2 : Int32) (in1_8 : vp_in p1 8) : v_Mi l D vwCl (tyl cI cII cL) yX0_bestBidder wsX0_bestBidder { frames := 1, cells := 0, slots := 0, locals := 25 } [.ref (h 13), .int p1, .int p2] (wB h cI cII S) (r_X0_bestBidder S p1 p2) (wB h cI cII S) := by
  refine v_ofMi (cc := cX0_bestBidder) (maxL := 5) (ret := (some .int)) (own := RX0) (lv0 := [(0, .ref (h 13)), (1, .int p1), (2, .int p2)]) (by decide) rfl rfl rfl (Nat.le_of_ble_eq_true rfl) ?_
  intro p e s m below meth c X hr hk hin
  refine v_iconst (x := (-1)) X dX0_bestBidder_0 rfl ?_
  refine v_istore_n (lv' := [(3, .int (-1)), (0, .ref (h 13)), (1, .int p1), (2, .int p2)]) X dX0_bestBidder_1 (by decide) rfl ?_
  refine v_iconst (x := 0) X dX0_bestBidder_2 rfl ?_
  refine v_istore (lv' := [(4, .int 0), (3, .int (-1)), (0, .ref (h 13)), (1, .int p1), (2, .int p2)]) X dX0_bestBidder_3 (by decide) rfl ?_
  have L_1 : ∀ (d_1 k_1 : Nat) (i_1 b3_1 : Int32), k_1 + d_1 = 5 → i_1 = nI k_1 → b3_1 = (lp1_X0_bestBidder S p1 p2 k_1) → v_V p l e { frames := 1, cells := 0, slots := 0, locals := 25 } s m [.ref (h 13), .int p1, .int p2].toArray below meth c D vwCl (va_A (wB h cI cII S) s.heap.size) 5 (v_Qi below s D vwCl (tyl cI cII cL) { frames := 1, cells := 0, slots := 0, locals := 25 } [.ref (h 13), .int p1, .int p2] (wB h cI cII S) (r_X0_bestBidder S p1 p2) (wB h cI cII S)) 0 0 (wB h cI cII S) 5 [(4, .int i_1), (3, .int b3_1), (0, .ref (h 13)), (1, .int p1), (2, .int p2)] [] := by
    intro d_1
    induction d_1 with
    | zero =>
      intro k_1 i_1 b3_1 hk_1 ei_1 eb3_1
      subst ei_1 eb3_1
      obtain rfl : 5 = k_1 := by omega
      refine v_iload X dX0_bestBidder_5 rfl ?_
      refine v_iconst (x := 5) X dX0_bestBidder_7 rfl ?_
      refine v_icmp_ge (tgt := 52) X dX0_bestBidder_8 (by decide) (fun c_1 => ?_) (fun c_1 => ?_)
      · refine v_iload_n X dX0_bestBidder_52 rfl ?_
        exact v_reti X hr hk rfl (by unfold r_X0_bestBidder; rfl) rfl (Nat.le_of_ble_eq_true rfl) (Nat.le_of_ble_eq_true rfl) dX0_bestBidder_53
      · exact absurd (show (5 : Int32) ≤ nI 5 from nI_le (Nat.le_refl 5) (by decide)) c_1
    | succ d_1 ih_1 =>
      intro k_1 i_1 b3_1 hk_1 ei_1 eb3_1
      subst ei_1 eb3_1
      have hlt_1 : k_1 < 5 := by omega
      refine v_iload X dX0_bestBidder_5 rfl ?_
      refine v_iconst (x := 5) X dX0_bestBidder_7 rfl ?_
      refine v_icmp_ge (tgt := 52) X dX0_bestBidder_8 (by decide) (fun c_2 => ?_) (fun c_2 => ?_)
      · exact absurd c_2 (nI_ge (b := 5) hlt_1 (by decide))
      · refine v_aload_n X dX0_bestBidder_11 rfl ?_
        refine v_iload X dX0_bestBidder_12 rfl ?_
        refine v_iload_n X dX0_bestBidder_14 rfl ?_
        refine v_callVi (As := [.int (nI k_1), .int p1]) (rest := []) (w' := (wB h cI cII S)) X (c_X0_has l D cI cII cL h S (nI k_1) p1 (vp_in_nI (by omega) (by decide)) in1_8) (cwV 2 X.2.2.2.1 gX0_bestBidder_X0_has rfl rfl rfl (by decide +kernel) ⟨Nat.le_of_ble_eq_true rfl, Nat.le_of_ble_eq_true rfl⟩) 0 0 rfl rfl rfl rfl rfl (Nat.le_of_ble_eq_true rfl) dX0_bestBidder_15 ⟨Nat.le_of_ble_eq_true rfl, Nat.le_of_ble_eq_true rfl⟩ ?_
        refine v_if_eq (tgt := 46) X dX0_bestBidder_18 (by decide) (fun c_3 => ?_) (fun c_3 => ?_)
        · refine v_iinc (y := ((nI k_1) + 1)) (lv' := [(4, .int ((nI k_1) + 1)), (3, .int (lp1_X0_bestBidder S p1 p2 k_1)), (0, .ref (h 13)), (1, .int p1), (2, .int p2)]) X dX0_bestBidder_46 rfl rfl (by decide) rfl ?_
          refine v_goto (tgt := 5) X dX0_bestBidder_49 (by decide) ?_
          refine v_lv [0, 1, 2, 3, 4] rfl ?_
          exact ih_1 (k_1 + 1) ((nI k_1) + 1) (lp1_X0_bestBidder S p1 p2 k_1) (by omega) (nI_1 k_1) (by rw [e_lp1_X0_bestBidder]; unfold st1_X0_bestBidder; rw [if_pos c_3])
        · refine v_iload X dX0_bestBidder_21 rfl ?_
          refine v_iload_n X dX0_bestBidder_23 rfl ?_
          refine v_icmp_eq (tgt := 46) X dX0_bestBidder_24 (by decide) (fun c_4 => ?_) (fun c_4 => ?_)
          · refine v_iinc (y := ((nI k_1) + 1)) (lv' := [(4, .int ((nI k_1) + 1)), (3, .int (lp1_X0_bestBidder S p1 p2 k_1)), (0, .ref (h 13)), (1, .int p1), (2, .int p2)]) X dX0_bestBidder_46 rfl rfl (by decide) rfl ?_
            refine v_goto (tgt := 5) X dX0_bestBidder_49 (by decide) ?_
            refine v_lv [0, 1, 2, 3, 4] rfl ?_
            exact ih_1 (k_1 + 1) ((nI k_1) + 1) (lp1_X0_bestBidder S p1 p2 k_1) (by omega) (nI_1 k_1) (by rw [e_lp1_X0_bestBidder]; unfold st1_X0_bestBidder; rw [if_neg c_3, if_pos c_4])
          · refine v_iload_n X dX0_bestBidder_27 rfl ?_
            refine v_iconst (x := (-1)) X dX0_bestBidder_28 rfl ?_
            refine v_icmp_eq (tgt := 43) X dX0_bestBidder_29 (by decide) (fun c_5 => ?_) (fun c_5 => ?_)
            · refine v_iload X dX0_bestBidder_43 rfl ?_
              refine v_istore_n (lv' := [(3, .int (nI k_1)), (4, .int (nI k_1)), (0, .ref (h 13)), (1, .int p1), (2, .int p2)]) X dX0_bestBidder_45 (by decide) rfl ?_
              refine v_iinc (y := ((nI k_1) + 1)) (lv' := [(4, .int ((nI k_1) + 1)), (3, .int (nI k_1)), (0, .ref (h 13)), (1, .int p1), (2, .int p2)]) X dX0_bestBidder_46 rfl rfl (by decide) rfl ?_
              refine v_goto (tgt := 5) X dX0_bestBidder_49 (by decide) ?_
              refine v_lv [0, 1, 2, 3, 4] rfl ?_
              exact ih_1 (k_1 + 1) ((nI k_1) + 1) (nI k_1) (by omega) (nI_1 k_1) (by rw [e_lp1_X0_bestBidder]; unfold st1_X0_bestBidder; rw [if_neg c_3, if_neg c_4, if_pos c_5])
            · refine v_aload_n X dX0_bestBidder_32 rfl ?_
              refine v_iload X dX0_bestBidder_33 rfl ?_
              refine v_iload_n X dX0_bestBidder_35 rfl ?_
              refine v_iload_n X dX0_bestBidder_36 rfl ?_
              refine v_callVi (As := [.int (nI k_1), .int (lp1_X0_bestBidder S p1 p2 k_1), .int p1]) (rest := []) (w' := (wB h cI cII S)) X (c_X0_isBefore l D cI cII cL h S (nI k_1) (lp1_X0_bestBidder S p1 p2 k_1) p1 (vp_in_nI (by omega) (by decide)) ((rng_X0_bestBidder S p1 p2 k_1 (by omega)).resolve_left c_5) in1_8) (cwV 3 X.2.2.2.1 gX0_bestBidder_X0_isBefore rfl rfl rfl (by decide +kernel) ⟨Nat.le_of_ble_eq_true rfl, Nat.le_of_ble_eq_true rfl⟩) 0 0 rfl rfl rfl rfl rfl (Nat.le_of_ble_eq_true rfl) dX0_bestBidder_37 ⟨Nat.le_of_ble_eq_true rfl, Nat.le_of_ble_eq_true rfl⟩ ?_
              refine v_if_eq (tgt := 46) X dX0_bestBidder_40 (by decide) (fun c_6 => ?_) (fun c_6 => ?_)
              · refine v_iinc (y := ((nI k_1) + 1)) (lv' := [(4, .int ((nI k_1) + 1)), (3, .int (lp1_X0_bestBidder S p1 p2 k_1)), (0, .ref (h 13)), (1, .int p1), (2, .int p2)]) X dX0_bestBidder_46 rfl rfl (by decide) rfl ?_
                refine v_goto (tgt := 5) X dX0_bestBidder_49 (by decide) ?_
                refine v_lv [0, 1, 2, 3, 4] rfl ?_
                exact ih_1 (k_1 + 1) ((nI k_1) + 1) (lp1_X0_bestBidder S p1 p2 k_1) (by omega) (nI_1 k_1) (by rw [e_lp1_X0_bestBidder]; unfold st1_X0_bestBidder; rw [if_neg c_3, if_neg c_4, if_neg c_5, if_pos c_6])
              · refine v_iload X dX0_bestBidder_43 rfl ?_
                refine v_istore_n (lv' := [(3, .int (nI k_1)), (4, .int (nI k_1)), (0, .ref (h 13)), (1, .int p1), (2, .int p2)]) X dX0_bestBidder_45 (by decide) rfl ?_
                refine v_iinc (y := ((nI k_1) + 1)) (lv' := [(4, .int ((nI k_1) + 1)), (3, .int (nI k_1)), (0, .ref (h 13)), (1, .int p1), (2, .int p2)]) X dX0_bestBidder_46 rfl rfl (by decide) rfl ?_
                refine v_goto (tgt := 5) X dX0_bestBidder_49 (by decide) ?_
                refine v_lv [0, 1, 2, 3, 4] rfl ?_
                exact ih_1 (k_1 + 1) ((nI k_1) + 1) (nI k_1) (by omega) (nI_1 k_1) (by rw [e_lp1_X0_bestBidder]; unfold st1_X0_bestBidder; rw [if_neg c_3, if_neg c_4, if_neg c_5, if_neg c_6])
  exact L_1 5 0 0 (-1) (Nat.zero_add _) (by exact nI_0.symm) rfl

def s_X2_record (S : St) (p1 p2 : Int32) : St :=
  (if (S 26 2) < 512 then (sU (sU (sU S 27 (S 26 2).toNatClampNeg p1) 28 ((sU S 27 (S 26 2).toNatClampNeg p1) 26 2).toNatClampNeg p2) 26 2 (((sU (sU S 27 (S 26 2).toNatClampNeg p1) 28 ((sU S 27 (S 26 2).toNatClampNeg p1) 26 2).toNatClampNeg p2) 26 2) + 1)) else S)
set_option maxHeartbeats 4000000 in
set_option maxRecDepth 100000 in
theorem c_X2_record (l : Launch) (D : va_G) (cI cII cL : ClassId) (h : Nat → Nat) (S : St) (p1 p2 : Int32) (hhis : hisC S) : v_Mv l D vwCl (tyl cI cII cL) yX2_record wsX2_record { frames := 0, cells := 0, slots := 0, locals := 0 } [.ref (h 26), .int p1, .int p2] (wH h cI S) (wH h cI (s_X2_record S p1 p2)) := by
  refine v_ofMv (cc := cX2_record) (maxL := 3) (ret := none) (own := RX2) (lv0 := [(0, .ref (h 26)), (1, .int p1), (2, .int p2)]) (by decide) rfl rfl rfl (Nat.le_of_ble_eq_true rfl) ?_
  intro p e s m below meth c X hr hk hin
  have iX2 : ∀ w ∈ wsX20, w ∈ wsX2_record := by decide +kernel
  refine v_aload_n X dX2_record_0 rfl ?_
  refine v_getfield (ref := "Trumpvault$History") (ci := 2) (index := 18) (v := .int (S 26 2)) X iX2 0 rfl rfl 2 (by decide) (by decide +kernel) (fun _ h9 => h9) rfl dX2_record_1 ?_
  refine v_sipush (x := 512) X dX2_record_4 rfl ?_
  refine v_icmp_lt (tgt := 11) X dX2_record_7 (by decide) (fun c_1 => ?_) (fun c_1 => ?_)
  · have hrc : vp_in (S 26 2) 512 := his_in hhis c_1
    refine v_aload_n X dX2_record_11 rfl ?_
    refine v_getfield (ref := "Trumpvault$History") (ci := 2) (index := 9) (v := .ref (h 27)) X iX2 0 rfl rfl 0 (by decide) (by decide +kernel) (fun _ h9 => h9) rfl dX2_record_12 ?_
    refine v_aload_n X dX2_record_15 rfl ?_
    refine v_getfield (ref := "Trumpvault$History") (ci := 2) (index := 18) (v := .int (S 26 2)) X iX2 0 rfl rfl 2 (by decide) (by decide +kernel) (fun _ h9 => h9) rfl dX2_record_16 ?_
    refine v_iload_n X dX2_record_19 rfl ?_
    refine v_iast (w' := (wH h cI (sU S 27 (S 26 2).toNatClampNeg p1))) X 1 0 rfl rfl hrc dX2_record_20 rfl ?_
    refine v_aload_n X dX2_record_21 rfl ?_
    refine v_getfield (ref := "Trumpvault$History") (ci := 2) (index := 15) (v := .ref (h 28)) X iX2 0 rfl rfl 1 (by decide) (by decide +kernel) (fun _ h9 => h9) rfl dX2_record_22 ?_
    refine v_aload_n X dX2_record_25 rfl ?_
    refine v_getfield (ref := "Trumpvault$History") (ci := 2) (index := 18) (v := .int ((sU S 27 (S 26 2).toNatClampNeg p1) 26 2)) X iX2 0 rfl rfl 2 (by decide) (by decide +kernel) (fun _ h9 => h9) rfl dX2_record_26 ?_
    refine v_iload_n X dX2_record_29 rfl ?_
    refine v_iast (w' := (wH h cI (sU (sU S 27 (S 26 2).toNatClampNeg p1) 28 ((sU S 27 (S 26 2).toNatClampNeg p1) 26 2).toNatClampNeg p2))) X 2 0 rfl rfl hrc dX2_record_30 rfl ?_
    refine v_aload_n X dX2_record_31 rfl ?_
    refine v_dup X dX2_record_32 rfl ?_
    refine v_getfield (ref := "Trumpvault$History") (ci := 2) (index := 18) (v := .int ((sU (sU S 27 (S 26 2).toNatClampNeg p1) 28 ((sU S 27 (S 26 2).toNatClampNeg p1) 26 2).toNatClampNeg p2) 26 2)) X iX2 0 rfl rfl 2 (by decide) (by decide +kernel) (fun _ h9 => h9) rfl dX2_record_33 ?_
    refine v_iconst (x := 1) X dX2_record_36 rfl ?_
    refine v_iadd X dX2_record_37 ?_
    refine v_putfield (w' := (wH h cI (sU (sU (sU S 27 (S 26 2).toNatClampNeg p1) 28 ((sU S 27 (S 26 2).toNatClampNeg p1) 26 2).toNatClampNeg p2) 26 2 (((sU (sU S 27 (S 26 2).toNatClampNeg p1) 28 ((sU S 27 (S 26 2).toNatClampNeg p1) 26 2).toNatClampNeg p2) 26 2) + 1)))) (ref := "Trumpvault$History") (ci := 2) (index := 18) (ty := .int) X iX2 tyX2 tyX2_ok nmX2 0 rfl rfl 2 (by decide) (by decide +kernel) (fun _ h9 => h9) rfl (by decide +kernel) rfl rfl (Nat.le_of_ble_eq_true rfl) dX2_record_38 rfl ?_
    exact v_retv X hr hk (congrArg (fun z => (wH h cI z)) (by unfold s_X2_record; rw [if_pos c_1])) (Nat.le_of_ble_eq_true rfl) (Nat.le_of_ble_eq_true rfl) dX2_record_41
  · exact v_retv X hr hk (congrArg (fun z => (wH h cI z)) (by unfold s_X2_record; rw [if_neg c_1])) (Nat.le_of_ble_eq_true rfl) (Nat.le_of_ble_eq_true rfl) dX2_record_10

def st1_X2_lastOwner (S : St) (p1 : Int32) (k : Nat) (qb2 : Int32) : Int32 :=
  (if (S 27 (nI k).toNatClampNeg) = p1 then (S 28 (nI k).toNatClampNeg) else qb2)
def lp1_X2_lastOwner (S : St) (p1 : Int32) : Nat → Int32
  | 0 => (-1)
  | k + 1 => st1_X2_lastOwner S p1 k (lp1_X2_lastOwner S p1 k)
theorem e_lp1_X2_lastOwner (S : St) (p1 : Int32) (k : Nat) : lp1_X2_lastOwner S p1 (k + 1) = st1_X2_lastOwner S p1 k (lp1_X2_lastOwner S p1 k) := rfl
def r_X2_lastOwner (S : St) (p1 : Int32) : Int32 :=
  (lp1_X2_lastOwner S p1 (S 26 2).toNatClampNeg)
set_option maxHeartbeats 4000000 in
set_option maxRecDepth 100000 in
theorem c_X2_lastOwner (l : Launch) (D : va_G) (cI cII cL : ClassId) (h : Nat → Nat) (S : St) (p1 : Int32) (hhis : hisC S) : v_Mi l D vwCl (tyl cI cII cL) yX2_lastOwner wsX2_lastOwner { frames := 0, cells := 0, slots := 0, locals := 0 } [.ref (h 26), .int p1] (wH h cI S) (r_X2_lastOwner S p1) (wH h cI S) := by
  refine v_ofMi (cc := cX2_lastOwner) (maxL := 4) (ret := (some .int)) (own := RX2) (lv0 := [(0, .ref (h 26)), (1, .int p1)]) (by decide) rfl rfl rfl (Nat.le_of_ble_eq_true rfl) ?_
  intro p e s m below meth c X hr hk hin
  have iX2 : ∀ w ∈ wsX20, w ∈ wsX2_lastOwner := by decide +kernel
  obtain ⟨N, hN, hN30, hNc⟩ := v_num (M := 512) (by decide) hhis
  refine v_iconst (x := (-1)) X dX2_lastOwner_0 rfl ?_
  refine v_istore_n (lv' := [(2, .int (-1)), (0, .ref (h 26)), (1, .int p1)]) X dX2_lastOwner_1 (by decide) rfl ?_
  refine v_iconst (x := 0) X dX2_lastOwner_2 rfl ?_
  refine v_istore_n (lv' := [(3, .int 0), (2, .int (-1)), (0, .ref (h 26)), (1, .int p1)]) X dX2_lastOwner_3 (by decide) rfl ?_
  have L_1 : ∀ (d_1 k_1 : Nat) (i_1 b2_1 : Int32), k_1 + d_1 = N → i_1 = nI k_1 → b2_1 = (lp1_X2_lastOwner S p1 k_1) → v_V p l e { frames := 0, cells := 0, slots := 0, locals := 0 } s m [.ref (h 26), .int p1].toArray below meth c D vwCl (va_A (wH h cI S) s.heap.size) 4 (v_Qi below s D vwCl (tyl cI cII cL) { frames := 0, cells := 0, slots := 0, locals := 0 } [.ref (h 26), .int p1] (wH h cI S) (r_X2_lastOwner S p1) (wH h cI S)) 0 0 (wH h cI S) 4 [(3, .int i_1), (2, .int b2_1), (0, .ref (h 26)), (1, .int p1)] [] := by
    intro d_1
    induction d_1 with
    | zero =>
      intro k_1 i_1 b2_1 hk_1 ei_1 eb2_1
      subst ei_1 eb2_1
      obtain rfl : N = k_1 := by omega
      refine v_iload_n X dX2_lastOwner_4 rfl ?_
      refine v_aload_n X dX2_lastOwner_5 rfl ?_
      refine v_getfield (ref := "Trumpvault$History") (ci := 2) (index := 18) (v := .int (S 26 2)) X iX2 0 rfl rfl 2 (by decide) (by decide +kernel) (fun _ h9 => h9) rfl dX2_lastOwner_6 ?_
      refine v_icmp_ge (tgt := 35) X dX2_lastOwner_9 (by decide) (fun c_1 => ?_) (fun c_1 => ?_)
      · refine v_iload_n X dX2_lastOwner_35 rfl ?_
        exact v_reti X hr hk rfl (by unfold r_X2_lastOwner; rw [hNc]) rfl (Nat.le_of_ble_eq_true rfl) (Nat.le_of_ble_eq_true rfl) dX2_lastOwner_36
      · exact absurd (by rw [hN]; exact nI_le (Nat.le_refl _) (by omega)) c_1
    | succ d_1 ih_1 =>
      intro k_1 i_1 b2_1 hk_1 ei_1 eb2_1
      subst ei_1 eb2_1
      have hlt_1 : k_1 < N := by omega
      refine v_iload_n X dX2_lastOwner_4 rfl ?_
      refine v_aload_n X dX2_lastOwner_5 rfl ?_
      refine v_getfield (ref := "Trumpvault$History") (ci := 2) (index := 18) (v := .int (S 26 2)) X iX2 0 rfl rfl 2 (by decide) (by decide +kernel) (fun _ h9 => h9) rfl dX2_lastOwner_6 ?_
      refine v_icmp_ge (tgt := 35) X dX2_lastOwner_9 (by decide) (fun c_2 => ?_) (fun c_2 => ?_)
      · exact absurd c_2 (by rw [hN]; exact nI_ge hlt_1 (by omega))
      · refine v_aload_n X dX2_lastOwner_12 rfl ?_
        refine v_getfield (ref := "Trumpvault$History") (ci := 2) (index := 9) (v := .ref (h 27)) X iX2 0 rfl rfl 0 (by decide) (by decide +kernel) (fun _ h9 => h9) rfl dX2_lastOwner_13 ?_
        refine v_iload_n X dX2_lastOwner_16 rfl ?_
        refine v_iald X 1 0 rfl rfl (vp_in_nI (by omega) (by decide)) dX2_lastOwner_17 ?_
        refine v_iload_n X dX2_lastOwner_18 rfl ?_
        refine v_icmp_ne (tgt := 29) X dX2_lastOwner_19 (by decide) (fun c_3 => ?_) (fun c_3 => ?_)
        · refine v_iinc (y := ((nI k_1) + 1)) (lv' := [(3, .int ((nI k_1) + 1)), (2, .int (lp1_X2_lastOwner S p1 k_1)), (0, .ref (h 26)), (1, .int p1)]) X dX2_lastOwner_29 rfl rfl (by decide) rfl ?_
          refine v_goto (tgt := 4) X dX2_lastOwner_32 (by decide) ?_
          refine v_lv [0, 1, 2, 3] rfl ?_
          exact ih_1 (k_1 + 1) ((nI k_1) + 1) (lp1_X2_lastOwner S p1 k_1) (by omega) (nI_1 k_1) (by rw [e_lp1_X2_lastOwner]; unfold st1_X2_lastOwner; rw [if_neg c_3])
        · refine v_aload_n X dX2_lastOwner_22 rfl ?_
          refine v_getfield (ref := "Trumpvault$History") (ci := 2) (index := 15) (v := .ref (h 28)) X iX2 0 rfl rfl 1 (by decide) (by decide +kernel) (fun _ h9 => h9) rfl dX2_lastOwner_23 ?_
          refine v_iload_n X dX2_lastOwner_26 rfl ?_
          refine v_iald X 2 0 rfl rfl (vp_in_nI (by omega) (by decide)) dX2_lastOwner_27 ?_
          refine v_istore_n (lv' := [(2, .int (S 28 (nI k_1).toNatClampNeg)), (3, .int (nI k_1)), (0, .ref (h 26)), (1, .int p1)]) X dX2_lastOwner_28 (by decide) rfl ?_
          refine v_iinc (y := ((nI k_1) + 1)) (lv' := [(3, .int ((nI k_1) + 1)), (2, .int (S 28 (nI k_1).toNatClampNeg)), (0, .ref (h 26)), (1, .int p1)]) X dX2_lastOwner_29 rfl rfl (by decide) rfl ?_
          refine v_goto (tgt := 4) X dX2_lastOwner_32 (by decide) ?_
          refine v_lv [0, 1, 2, 3] rfl ?_
          exact ih_1 (k_1 + 1) ((nI k_1) + 1) (S 28 (nI k_1).toNatClampNeg) (by omega) (nI_1 k_1) (by rw [e_lp1_X2_lastOwner]; unfold st1_X2_lastOwner; rw [if_pos c_3])
  exact L_1 N 0 0 (-1) (Nat.zero_add _) (by exact nI_0.symm) rfl
theorem fr_X1_add (S : St) (p1 p2 : Int32) (i : Nat) (hi : i < 4 ∨ 12 < i) : s_X1_add S p1 p2 i = S i := by
  unfold s_X1_add
  repeat rw [sU_ne (by omega)]
theorem fr_X1_putSale (S : St) (p1 p2 p3 : Int32) (i : Nat) (hi : i < 4 ∨ 12 < i) : s_X1_putSale S p1 p2 p3 i = S i := by
  unfold s_X1_putSale
  repeat rw [sU_ne (by omega)]
theorem fr_X1_takeSale (S : St) (p1 : Int32) (i : Nat) (hi : i < 4 ∨ 12 < i) : s_X1_takeSale S p1 i = S i := by
  unfold s_X1_takeSale
  repeat rw [sU_ne (by omega)]
theorem fr_X1_lendTo (S : St) (p1 p2 p3 : Int32) (i : Nat) (hi : i < 4 ∨ 12 < i) : s_X1_lendTo S p1 p2 p3 i = S i := by
  unfold s_X1_lendTo
  repeat rw [sU_ne (by omega)]
theorem fr_X1_takeSalesOf (S : St) (p1 : Int32) (i : Nat) (hi : i < 4 ∨ 12 < i) : s_X1_takeSalesOf S p1 i = S i := by
  have key : ∀ k, (lp1_X1_takeSalesOf S p1 k).1 i = S i := by
    intro k
    induction k with
    | zero => rfl
    | succ k ih =>
      show (st1_X1_takeSalesOf S p1 k _ _).1 i = _
      unfold st1_X1_takeSalesOf
      split
      · exact ih
      · exact (fr_X1_takeSale _ _ i hi).trans ih
  exact key _
theorem fr_X1_endLoans (S : St) (p1 : Int32) (i : Nat) (hi : i < 4 ∨ 12 < i) : s_X1_endLoans S p1 i = S i := by
  have key : ∀ k, lp1_X1_endLoans S p1 k i = S i := by
    intro k
    induction k with
    | zero => rfl
    | succ k ih =>
      show st1_X1_endLoans S p1 k _ i = _
      unfold st1_X1_endLoans
      repeat' split
      all_goals first | exact ih | exact (sU_ne (by omega)).trans ih
  exact key _
theorem fr_X0_put (S : St) (p1 p2 p3 p4 : Int32) (hp : vp_in p1 5) (i : Nat) (hi : i < 13 ∨ 25 < i) : s_X0_put S p1 p2 p3 p4 i = S i := by
  have := vp_lt hp
  unfold s_X0_put
  repeat rw [sU_ne (by omega)]
theorem fr_X0_take (S : St) (p1 p2 : Int32) (hp : vp_in p1 5) (i : Nat) (hi : i < 13 ∨ 25 < i) : s_X0_take S p1 p2 i = S i := by
  have := vp_lt hp
  unfold s_X0_take
  repeat rw [sU_ne (by omega)]
theorem fr_X2_record (S : St) (p1 p2 : Int32) (i : Nat) (hi : i < 26 ∨ 28 < i) : s_X2_record S p1 p2 i = S i := by
  unfold s_X2_record
  split
  · repeat rw [sU_ne (by omega)]
  · rfl
end
