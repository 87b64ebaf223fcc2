section
-- ===== PART A: goes FIRST, ahead of the names: the tables' words, and 'selects' of the private methods out of them =====
/-- a private method of a class that the tables say can be made, by its rows of tables_1 -/
def lw_okq (q : MethodName × Nat) : Prop := (q.1.cls ≠ "java/lang/invoke/MethodHandle" ∧ q.1.cls ≠ "java/lang/invoke/VarHandle") ∧ Cond.instantiable q.1.cls q.2 ∈ tables_1 ∧ Cond.privateMethod q.1 ∈ tables_1 ∧ Cond.instanceMethod q.1 ∈ tables_1
theorem lw_p0 : lw_okq (⟨"java/lang/Throwable", "fillInStackTrace", "(I)Ljava/lang/Throwable;"⟩, 6) := ⟨⟨by decide +kernel, by decide +kernel⟩, List.mem_of_getElem? (i := 174) (by decide +kernel), List.mem_of_getElem? (i := 172) (by decide +kernel), List.mem_of_getElem? (i := 173) (by decide +kernel)⟩
theorem lw_p1 : lw_okq (⟨"Trumpvault", "needCard", "(I)V"⟩, 8) := ⟨⟨by decide +kernel, by decide +kernel⟩, List.mem_of_getElem? (i := 15) (by decide +kernel), List.mem_of_getElem? (i := 243) (by decide +kernel), List.mem_of_getElem? (i := 244) (by decide +kernel)⟩
theorem lw_p2 : lw_okq (⟨"Trumpvault", "bannedToday", "(I)Z"⟩, 8) := ⟨⟨by decide +kernel, by decide +kernel⟩, List.mem_of_getElem? (i := 15) (by decide +kernel), List.mem_of_getElem? (i := 315) (by decide +kernel), List.mem_of_getElem? (i := 316) (by decide +kernel)⟩
theorem lw_p3 : lw_okq (⟨"Trumpvault", "giveTo", "(II)V"⟩, 8) := ⟨⟨by decide +kernel, by decide +kernel⟩, List.mem_of_getElem? (i := 15) (by decide +kernel), List.mem_of_getElem? (i := 340) (by decide +kernel), List.mem_of_getElem? (i := 341) (by decide +kernel)⟩
theorem lw_p4 : lw_okq (⟨"Trumpvault", "giveBidBack", "(II)I"⟩, 8) := ⟨⟨by decide +kernel, by decide +kernel⟩, List.mem_of_getElem? (i := 15) (by decide +kernel), List.mem_of_getElem? (i := 389) (by decide +kernel), List.mem_of_getElem? (i := 390) (by decide +kernel)⟩
theorem lw_p5 : lw_okq (⟨"Trumpvault", "clearMarket", "(I)I"⟩, 8) := ⟨⟨by decide +kernel, by decide +kernel⟩, List.mem_of_getElem? (i := 15) (by decide +kernel), List.mem_of_getElem? (i := 457) (by decide +kernel), List.mem_of_getElem? (i := 458) (by decide +kernel)⟩
theorem lw_p6 : lw_okq (⟨"Trumpvault", "deckIsRight", "(I)Z"⟩, 8) := ⟨⟨by decide +kernel, by decide +kernel⟩, List.mem_of_getElem? (i := 15) (by decide +kernel), List.mem_of_getElem? (i := 512) (by decide +kernel), List.mem_of_getElem? (i := 513) (by decide +kernel)⟩
theorem lw_p7 : lw_okq (⟨"Trumpvault", "inDeck", "(II)Z"⟩, 8) := ⟨⟨by decide +kernel, by decide +kernel⟩, List.mem_of_getElem? (i := 15) (by decide +kernel), List.mem_of_getElem? (i := 516) (by decide +kernel), List.mem_of_getElem? (i := 517) (by decide +kernel)⟩
theorem lw_p8 : lw_okq (⟨"Trumpvault", "isPlayable", "(II)Z"⟩, 8) := ⟨⟨by decide +kernel, by decide +kernel⟩, List.mem_of_getElem? (i := 15) (by decide +kernel), List.mem_of_getElem? (i := 520) (by decide +kernel), List.mem_of_getElem? (i := 521) (by decide +kernel)⟩
theorem lw_p9 : lw_okq (⟨"Trumpvault", "deckStrength", "(I)I"⟩, 8) := ⟨⟨by decide +kernel, by decide +kernel⟩, List.mem_of_getElem? (i := 15) (by decide +kernel), List.mem_of_getElem? (i := 531) (by decide +kernel), List.mem_of_getElem? (i := 532) (by decide +kernel)⟩
theorem lw_p10 : lw_okq (⟨"TrumpvaultModel", "asked", "(ZZ)Z"⟩, 17) := ⟨⟨by decide +kernel, by decide +kernel⟩, List.mem_of_getElem? (i := 544) (by decide +kernel), List.mem_of_getElem? (i := 620) (by decide +kernel), List.mem_of_getElem? (i := 621) (by decide +kernel)⟩
theorem lw_p11 : lw_okq (⟨"TrumpvaultModel", "isCard", "(I)Z"⟩, 17) := ⟨⟨by decide +kernel, by decide +kernel⟩, List.mem_of_getElem? (i := 544) (by decide +kernel), List.mem_of_getElem? (i := 628) (by decide +kernel), List.mem_of_getElem? (i := 629) (by decide +kernel)⟩
theorem lw_p12 : lw_okq (⟨"TrumpvaultModel", "asked", "(Z)Z"⟩, 17) := ⟨⟨by decide +kernel, by decide +kernel⟩, List.mem_of_getElem? (i := 544) (by decide +kernel), List.mem_of_getElem? (i := 632) (by decide +kernel), List.mem_of_getElem? (i := 633) (by decide +kernel)⟩
theorem lw_p13 : lw_okq (⟨"TrumpvaultModel", "holds", "(I)I"⟩, 17) := ⟨⟨by decide +kernel, by decide +kernel⟩, List.mem_of_getElem? (i := 544) (by decide +kernel), List.mem_of_getElem? (i := 645) (by decide +kernel), List.mem_of_getElem? (i := 646) (by decide +kernel)⟩
theorem lw_p14 : lw_okq (⟨"TrumpvaultModel", "banned", "(I)Z"⟩, 17) := ⟨⟨by decide +kernel, by decide +kernel⟩, List.mem_of_getElem? (i := 544) (by decide +kernel), List.mem_of_getElem? (i := 661) (by decide +kernel), List.mem_of_getElem? (i := 662) (by decide +kernel)⟩
theorem lw_p15 : lw_okq (⟨"TrumpvaultModel", "asked", "(ZZZ)Z"⟩, 17) := ⟨⟨by decide +kernel, by decide +kernel⟩, List.mem_of_getElem? (i := 544) (by decide +kernel), List.mem_of_getElem? (i := 665) (by decide +kernel), List.mem_of_getElem? (i := 666) (by decide +kernel)⟩
def lw_privs_1 : List (MethodName × Nat) := [(⟨"java/lang/Throwable", "fillInStackTrace", "(I)Ljava/lang/Throwable;"⟩, 6), (⟨"Trumpvault", "needCard", "(I)V"⟩, 8), (⟨"Trumpvault", "bannedToday", "(I)Z"⟩, 8), (⟨"Trumpvault", "giveTo", "(II)V"⟩, 8), (⟨"Trumpvault", "giveBidBack", "(II)I"⟩, 8), (⟨"Trumpvault", "clearMarket", "(I)I"⟩, 8), (⟨"Trumpvault", "deckIsRight", "(I)Z"⟩, 8), (⟨"Trumpvault", "inDeck", "(II)Z"⟩, 8), (⟨"Trumpvault", "isPlayable", "(II)Z"⟩, 8), (⟨"Trumpvault", "deckStrength", "(I)I"⟩, 8), (⟨"TrumpvaultModel", "asked", "(ZZ)Z"⟩, 17), (⟨"TrumpvaultModel", "isCard", "(I)Z"⟩, 17), (⟨"TrumpvaultModel", "asked", "(Z)Z"⟩, 17), (⟨"TrumpvaultModel", "holds", "(I)I"⟩, 17), (⟨"TrumpvaultModel", "banned", "(I)Z"⟩, 17), (⟨"TrumpvaultModel", "asked", "(ZZZ)Z"⟩, 17)]
theorem lw_r1 : ∀ q ∈ lw_privs_1, lw_okq q := List.forall_mem_cons.mpr ⟨lw_p0, List.forall_mem_cons.mpr ⟨lw_p1, List.forall_mem_cons.mpr ⟨lw_p2, List.forall_mem_cons.mpr ⟨lw_p3, List.forall_mem_cons.mpr ⟨lw_p4, List.forall_mem_cons.mpr ⟨lw_p5, List.forall_mem_cons.mpr ⟨lw_p6, List.forall_mem_cons.mpr ⟨lw_p7, List.forall_mem_cons.mpr ⟨lw_p8, List.forall_mem_cons.mpr ⟨lw_p9, List.forall_mem_cons.mpr ⟨lw_p10, List.forall_mem_cons.mpr ⟨lw_p11, List.forall_mem_cons.mpr ⟨lw_p12, List.forall_mem_cons.mpr ⟨lw_p13, List.forall_mem_cons.mpr ⟨lw_p14, List.forall_mem_cons.mpr ⟨lw_p15, fun _ h => absurd h List.not_mem_nil⟩⟩⟩⟩⟩⟩⟩⟩⟩⟩⟩⟩⟩⟩⟩⟩
theorem lw_p16 : lw_okq (⟨"TrumpvaultModel", "bidder", "(II)I"⟩, 17) := ⟨⟨by decide +kernel, by decide +kernel⟩, List.mem_of_getElem? (i := 544) (by decide +kernel), List.mem_of_getElem? (i := 669) (by decide +kernel), List.mem_of_getElem? (i := 670) (by decide +kernel)⟩
theorem lw_p17 : lw_okq (⟨"TrumpvaultModel", "offer", "(II)I"⟩, 17) := ⟨⟨by decide +kernel, by decide +kernel⟩, List.mem_of_getElem? (i := 544) (by decide +kernel), List.mem_of_getElem? (i := 677) (by decide +kernel), List.mem_of_getElem? (i := 678) (by decide +kernel)⟩
theorem lw_p18 : lw_okq (⟨"TrumpvaultModel", "clears", "(I)I"⟩, 17) := ⟨⟨by decide +kernel, by decide +kernel⟩, List.mem_of_getElem? (i := 544) (by decide +kernel), List.mem_of_getElem? (i := 717) (by decide +kernel), List.mem_of_getElem? (i := 718) (by decide +kernel)⟩
theorem lw_p19 : lw_okq (⟨"TrumpvaultModel", "size", "(I)I"⟩, 17) := ⟨⟨by decide +kernel, by decide +kernel⟩, List.mem_of_getElem? (i := 544) (by decide +kernel), List.mem_of_getElem? (i := 737) (by decide +kernel), List.mem_of_getElem? (i := 738) (by decide +kernel)⟩
theorem lw_p20 : lw_okq (⟨"TrumpvaultModel", "right", "(I)Z"⟩, 17) := ⟨⟨by decide +kernel, by decide +kernel⟩, List.mem_of_getElem? (i := 544) (by decide +kernel), List.mem_of_getElem? (i := 745) (by decide +kernel), List.mem_of_getElem? (i := 746) (by decide +kernel)⟩
theorem lw_p21 : lw_okq (⟨"TrumpvaultModel", "strengthOf", "(I)I"⟩, 17) := ⟨⟨by decide +kernel, by decide +kernel⟩, List.mem_of_getElem? (i := 544) (by decide +kernel), List.mem_of_getElem? (i := 753) (by decide +kernel), List.mem_of_getElem? (i := 754) (by decide +kernel)⟩
def lw_privs_2 : List (MethodName × Nat) := [(⟨"TrumpvaultModel", "bidder", "(II)I"⟩, 17), (⟨"TrumpvaultModel", "offer", "(II)I"⟩, 17), (⟨"TrumpvaultModel", "clears", "(I)I"⟩, 17), (⟨"TrumpvaultModel", "size", "(I)I"⟩, 17), (⟨"TrumpvaultModel", "right", "(I)Z"⟩, 17), (⟨"TrumpvaultModel", "strengthOf", "(I)I"⟩, 17)]
theorem lw_r2 : ∀ q ∈ lw_privs_2, lw_okq q := List.forall_mem_cons.mpr ⟨lw_p16, List.forall_mem_cons.mpr ⟨lw_p17, List.forall_mem_cons.mpr ⟨lw_p18, List.forall_mem_cons.mpr ⟨lw_p19, List.forall_mem_cons.mpr ⟨lw_p20, List.forall_mem_cons.mpr ⟨lw_p21, fun _ h => absurd h List.not_mem_nil⟩⟩⟩⟩⟩⟩
def lw_privs : List (MethodName × Nat) := lw_privs_1 ++ (lw_privs_2)
def lw_tbl : List Cond := k2_sels lw_privs ++ tables_1
theorem lw_privs_ok : ∀ q ∈ lw_privs, lw_okq q := by
  show ∀ q ∈ lw_privs_1 ++ (lw_privs_2), lw_okq q
  exact List.forall_mem_append.mpr ⟨lw_r1, lw_r2⟩
-- ===== end of PART A; then your names; then what follows =====
end
section
/-! ===== BEGIN words of one list among another's, by their places ===== -/
theorem goodIn_r {big : List Cond} (ws : List Cond) (ps : List Nat) (hp : ws = ps.filterMap (fun i => big[i]?)) (h : ws.all goodWord = true) : GoodIn big ws := by
  intro w hw
  have h1 := List.all_eq_true.mp h w hw
  rw [hp] at hw
  obtain ⟨i, -, hi⟩ := List.mem_filterMap.mp hw
  have hm : w ∈ big := by first | exact List.mem_of_getElem? hi | exact List.getElem?_mem hi
  exact ⟨hm, good_of_word h1⟩
theorem goodIn_app {big a b : List Cond} (ha : GoodIn big a) (hb : GoodIn big b) : GoodIn big (a ++ b) := fun w h => (List.mem_append.mp h).elim (ha w) (hb w)
theorem goodIn_ca {big a b : List Cond} {c : Cond} (ha : GoodIn big (c :: a)) (hb : GoodIn big b) : GoodIn big (c :: (a ++ b)) := fun w h => (List.mem_cons.mp h).elim (fun e => ha w (List.mem_cons.mpr (Or.inl e))) (fun h => (List.mem_append.mp h).elim (fun h => ha w (List.mem_cons.mpr (Or.inr h))) (hb w))
theorem goodIn_sub {big ws : List Cond} (hm : ∀ w ∈ ws, w ∈ big) (h : ws.all goodWord = true) : GoodIn big ws := fun w hw => ⟨hm w hw, good_of_word (List.all_eq_true.mp h w hw)⟩
/-! ===== END ===== -/

/-! ===== BEGIN new T[n][m]: the outer array a place, the inner ones among the pooled ===== -/
/-- f, but v at every address of l -/
def vr_up {α : Type} (f : Nat → α) (l : List Nat) (v : α) : Nat → α := fun a => if a ∈ l then v else f a
theorem vr_up_in {α : Type} {f : Nat → α} {l : List Nat} {v : α} {a : Nat} (h : a ∈ l) : vr_up f l v a = v := if_pos h
theorem vr_up_ne {α : Type} {f : Nat → α} {l : List Nat} {v : α} {a : Nat} (h : a ∉ l) : vr_up f l v a = f a := if_neg h
theorem vr_rows {L l : List Nat} {f : Nat → va_E} {e : va_E} (h : ∀ a, a ∈ l → a ∉ L) : va_pl L f ++ l.map (fun a => (a, e)) = va_pl (L ++ l) (vr_up f l e) := by
  unfold va_pl
  rw [List.map_append]
  congr 1
  · apply List.map_congr_left
    intro a ha
    rw [vr_up_ne (fun q => h a q ha)]
  · apply List.map_congr_left
    intro a ha
    rw [vr_up_in ha]
theorem vr_lay {X rows : va_W} {x : Nat × va_E} {pl : va_W} {D : va_G} {cl : List vw_C} {H : Heap} (hP : va_P D cl (((X ++ pl) ++ [x]) ++ rows) H) : va_P D cl ((X ++ [x]) ++ (pl ++ rows)) H := by
  rw [List.append_assoc (X ++ pl)] at hP
  have h := va_P.swap hP
  rw [← List.append_assoc X] at h
  have h2 := va_P.swap h
  rw [List.append_assoc (X ++ [x])] at h2
  exact h2
theorem vr_layD {X rows : va_W} {x : Nat × va_E} {pl : va_W} {A : Nat → Prop} (hD : va_D A (((X ++ pl) ++ [x]) ++ rows)) : va_D A ((X ++ [x]) ++ (pl ++ rows)) := by
  rw [List.append_assoc (X ++ pl)] at hD
  have h := va_D.swap hD
  rw [← List.append_assoc X] at h
  have h2 := va_D.swap h
  rw [List.append_assoc (X ++ [x])] at h2
  exact h2
theorem vr_outer (c : ClassId) (N h0 : Nat) : ∀ i : Nat, Jvm.Free.Multi.outerC c N h0 i = arrV c N (fun j => va_rf (if j < i then some (h0 + 1 + j) else none))
  | 0 => by
    show ({ cls := c, slots := Array.replicate N .null, vm := .none } : Cell) = _
    rw [arrV_new]
    refine congrArg (arrV c N) (funext fun j => ?_)
    simp [va_rf]
  | i + 1 => by
    show (Jvm.Free.Multi.outerC c N h0 i).setSlot i (.ref (h0 + 1 + i)) = _
    rw [vr_outer c N h0 i, arrV_store]
    refine congrArg (arrV c N) (funext fun j => ?_)
    by_cases e : j = i
    · subst e
      simp [updV, va_rf]
    · by_cases h : j < i
      · simp [updV, e, h, Nat.lt_succ_of_lt h]
      · simp [updV, e, h, show ¬ j < i + 1 by omega]
def va_AOA (ty : FieldType) (U : State) : Prop := (Cond.arrayOver (.array ty)).before #[] U = true
theorem va_AOA.of {ty : FieldType} {A : Array Value} {U : State} (h : (Cond.arrayOver (.array ty)).before A U = true) : va_AOA ty U := h
theorem va_AOA.use {ty : FieldType} {A : Array Value} {U : State} (h : va_AOA ty U) : (Cond.arrayOver (.array ty)).before A U = true := h
section VGM
variable {p : Program} {l : Launch} {e : Env} {R : Room} {s : State} {m : MethodId} {args : Array Value} {below : List Frame} {meth : Method} {c : Code} {H : Heap} {locs : List Loc} {cells slots : Nat} {Q : State → Prop}
variable {cc : ByteArray} {pc : Nat} {ls : Array Slot} {rest : List Value} {D : va_G} {cl : List vw_C} {A : Nat → Prop} {a : Nat} {tys : List (ClassId × FieldType)} {ws : va_W} {H0 : Heap}
theorem va_mna {X : va_W} {L : List Nat} {f : Nat → va_E} {cc : ByteArray} (hexec : p.tables.exec = Jvm.exec) (hb : c.code = cc) {own : String} {index : Nat} {ty : FieldType} {cy : ClassId} (hown : s.vm.findClass own = some m.cls) (hclink : (Cond.classLink own index ("[" ++ (FieldType.array ty).toString)).before args s = true) (hover : va_AOA ty s) (harr : (Cond.arrayClass ty).before args s = true) (hcy : s.vm.findClass (FieldType.array ty).toString = some cy)
    (hK : va_K D cl tys s) (hP : va_P D cl (X ++ va_pl L f) H) (hD : va_D A (X ++ va_pl L f)) (hS : va_S A H0 H locs) (hA : ∀ q, H0.size ≤ q → A q) {n k : Int32} {N' K' : Nat} {z : vp_A} (hn : ¬ n < 0) (hk : ¬ k < 0) (hN : n.toNatClampNeg = N') (hM : k.toNatClampNeg = K')
    (hb1 : N' * 4 ≤ 536870912) (hb2 : K' * componentBytes ty ≤ 536870912) (hb3 : K' ≤ 536870912) (hdf : fits ty (defaultValue ty) = true) (hdd : (defaultValue ty).isDefault = true) (hcells : cells + (1 + N') ≤ R.cells) (hslots : slots + (N' + N' * K') ≤ R.slots) (hz : ∀ c : ClassId, Jvm.Free.Multi.innerC c K' (defaultValue ty) = vp_cell c z) (hdg : decode cc pc = .ok (.multianewarray index 2, 4))
    (kk : ∀ (q : Nat) (r : Nat → Nat) (cA : ClassId) (H1 : Heap), (∀ i j : Nat, i < N' → j < N' → r i = r j → i = j) → (∀ i : Nat, i < N' → r i ∉ L) → va_K D cl (tys ++ [(cA, .array ty)]) s →
      va_P D cl ((X ++ [(q, .inl (cA, N', .inr (.inr (.inr (.inr (fun i => if i < N' then some (r i) else none))))))]) ++ va_pl (L ++ (List.range N').map r) (vr_up f ((List.range N').map r) (.inl (cy, z)))) H1 → va_D A ((X ++ [(q, .inl (cA, N', .inr (.inr (.inr (.inr (fun i => if i < N' then some (r i) else none))))))]) ++ va_pl (L ++ (List.range N').map r) (vr_up f ((List.range N').map r) (.inl (cy, z)))) → va_S A H0 H1 locs →
      W p l e R s m args below meth c H1 locs (cells + 1 + N') (slots + N' + N' * K') Q (F0 m (pc + 4) ls (.ref q :: rest))) : W p l e R s m args below meth c H locs cells slots Q (F0 m pc ls (.int k :: .int n :: rest)) := by
  subst hN
  subst hM
  intro T hT Xs
  obtain ⟨vm₁, cA, comp, -, fA, fC, hO, -, X', step⟩ := Xs.multianewarray2F hexec hown hclink (va_AOA.use hover) harr (g := F0 m pc ls (.int k :: .int n :: rest)) rfl (by rw [hb]; exact hdg) rfl hn hk hb1 hb2 hb3 hdf hdd hcells hslots
  have ec : some cy = some comp := hcy.symm.trans fC
  cases ec
  generalize hF : Jvm.Free.Multi.fill (T.setVm vm₁) cA cy n.toNatClampNeg k.toNatClampNeg (defaultValue ty) n.toNatClampNeg = F at X' step
  have hTh : (T.setVm vm₁).heap = H := hT
  obtain ⟨f1, f2, -, -⟩ := Jvm.Free.Multi.fill_facts (T.setVm vm₁) cA cy n.toNatClampNeg k.toNatClampNeg (defaultValue ty) n.toNatClampNeg
  rw [hF, hTh] at f1 f2
  have hold : ∀ x : Nat, x < H.size → F.heap[x]? = H[x]? := fun x hx => by
    have := Jvm.Free.Multi.fill_old (T.setVm vm₁) cA cy n.toNatClampNeg k.toNatClampNeg (defaultValue ty) (a := x) (by rw [hTh]; exact hx) n.toNatClampNeg
    rw [hF, hTh] at this
    exact this
  have hrow : ∀ j : Nat, j < n.toNatClampNeg → F.heap[H.size + 1 + j]? = some (vp_cell cy z) := fun j hj => by
    have := Jvm.Free.Multi.fill_inner (T.setVm vm₁) cA cy n.toNatClampNeg k.toNatClampNeg (defaultValue ty) n.toNatClampNeg j hj
    rw [hF, hTh, hz] at this
    exact this
  have hout : Jvm.Free.Multi.outerC cA n.toNatClampNeg H.size n.toNatClampNeg = vp_cell cA (n.toNatClampNeg, .inr (.inr (.inr (.inr (fun i => if i < n.toNatClampNeg then some (H.size + 1 + i) else none))))) := by
    rw [vp_cell_q]
    exact vr_outer cA n.toNatClampNeg H.size n.toNatClampNeg
  rw [hout] at f2
  have hlt : ∀ a, a ∈ L → a < H.size := fun a ha => by
    obtain ⟨k9, hk9⟩ := va_pl_get (X := X) (f := f) ha
    exact (hP k9 _ hk9).lt
  have hnl : ∀ i : Nat, i < n.toNatClampNeg → H.size + 1 + i ∉ L := fun i _ h => by
    have := hlt _ h
    omega
  have hnm : ∀ a, a ∈ (List.range n.toNatClampNeg).map (fun i => H.size + 1 + i) → a ∉ L := fun a ha h => by
    obtain ⟨i, -, rfl⟩ := List.mem_map.mp ha
    have := hlt _ h
    omega
  have hP0 : va_P D cl (X ++ va_pl L f) F.heap := hP.kept (fun k9 x hx => hold x.1 ((hP k9 x hx).lt))
  have hP1 : va_P D cl ((X ++ va_pl L f) ++ [(H.size, .inl (cA, n.toNatClampNeg, .inr (.inr (.inr (.inr (fun i => if i < n.toNatClampNeg then some (H.size + 1 + i) else none))))))]) F.heap := hP0.app (fun k9 x hx => by
    have h0 : k9 < 1 := (List.getElem?_eq_some_iff.mp hx).1
    rw [show k9 = 0 by omega] at hx
    cases hx
    exact f2)
  have hP2 : va_P D cl (((X ++ va_pl L f) ++ [(H.size, .inl (cA, n.toNatClampNeg, .inr (.inr (.inr (.inr (fun i => if i < n.toNatClampNeg then some (H.size + 1 + i) else none))))))]) ++ ((List.range n.toNatClampNeg).map (fun i => H.size + 1 + i)).map (fun a => (a, .inl (cy, z)))) F.heap := hP1.app (fun k9 x hx => by
    obtain ⟨a, ha, rfl⟩ := List.mem_map.mp (List.mem_of_getElem? hx)
    obtain ⟨i, hi, rfl⟩ := List.mem_map.mp ha
    exact hrow i (List.mem_range.mp hi))
  have hD2 : va_D A (((X ++ va_pl L f) ++ [(H.size, .inl (cA, n.toNatClampNeg, .inr (.inr (.inr (.inr (fun i => if i < n.toNatClampNeg then some (H.size + 1 + i) else none))))))]) ++ ((List.range n.toNatClampNeg).map (fun i => H.size + 1 + i)).map (fun a => (a, .inl (cy, z)))) := by
    have hD1 := hD.push (e := .inl (cA, n.toNatClampNeg, .inr (.inr (.inr (.inr (fun i => if i < n.toNatClampNeg then some (H.size + 1 + i) else none)))))) hP rfl (hA _ hS.1)
    generalize hW1 : (X ++ va_pl L f) ++ [(H.size, .inl (cA, n.toNatClampNeg, .inr (.inr (.inr (.inr (fun i => if i < n.toNatClampNeg then some (H.size + 1 + i) else none))))))] = W1 at hD1 hP1 ⊢
    have hle : ∀ (k9 : Nat) (x : Nat × va_E), W1[k9]? = some x → x.1 ≤ H.size := fun k9 x hx => by
      rw [← hW1] at hx
      by_cases hl : k9 < (X ++ va_pl L f).length
      · rw [List.getElem?_append_left hl] at hx
        exact Nat.le_of_lt ((hP k9 x hx).lt)
      · rw [List.getElem?_append_right (by omega)] at hx
        have h0 : k9 - (X ++ va_pl L f).length < 1 := (List.getElem?_eq_some_iff.mp hx).1
        rw [show k9 - (X ++ va_pl L f).length = 0 by omega] at hx
        cases hx
        exact Nat.le_refl _
    have hr : ∀ (k9 : Nat) (x : Nat × va_E), (((List.range n.toNatClampNeg).map (fun i => H.size + 1 + i)).map (fun a => ((a, .inl (cy, z)) : Nat × va_E)))[k9]? = some x → x.1 = H.size + 1 + k9 := fun k9 x hx => by
      rw [List.getElem?_map, List.getElem?_map] at hx
      by_cases h9 : k9 < n.toNatClampNeg
      · rw [List.getElem?_range h9] at hx
        cases hx
        rfl
      · have hn0 : (List.range n.toNatClampNeg)[k9]? = none := List.getElem?_eq_none (by rw [List.length_range]; omega)
        rw [hn0] at hx
        cases hx
    refine ⟨fun i j x y hi hj hxy => ?_, fun k9 x hx => ?_⟩
    · by_cases h1 : i < W1.length <;> by_cases h2 : j < W1.length
      · rw [List.getElem?_append_left h1] at hi
        rw [List.getElem?_append_left h2] at hj
        exact hD1.1 i j x y hi hj hxy
      · rw [List.getElem?_append_left h1] at hi
        rw [List.getElem?_append_right (by omega)] at hj
        have := hle _ _ hi
        have := hr _ _ hj
        omega
      · rw [List.getElem?_append_right (by omega)] at hi
        rw [List.getElem?_append_left h2] at hj
        have := hle _ _ hj
        have := hr _ _ hi
        omega
      · rw [List.getElem?_append_right (by omega)] at hi hj
        have := hr _ _ hi
        have := hr _ _ hj
        omega
    · by_cases h1 : k9 < W1.length
      · rw [List.getElem?_append_left h1] at hx
        exact hD1.2 k9 x hx
      · rw [List.getElem?_append_right (by omega)] at hx
        have := hr _ _ hx
        exact hA _ (by have := hS.1; omega)
  have hAr : ArrOfT s cA (.array ty) := fun N9 z9 => by
    obtain ⟨-, k9, hk9, cm9, hkk9⟩ := (hO 0 0 0).1
    exact ⟨(fun q hq => by cases hq), k9, hk9, cm9, hkk9⟩
  have hK2 : va_K D cl (tys ++ [(cA, .array ty)]) s := ⟨hK.1, fun k9 x hx => by
    by_cases hl : k9 < tys.length
    · rw [List.getElem?_append_left hl] at hx
      exact hK.2 k9 x hx
    · rw [List.getElem?_append_right (by omega)] at hx
      have h0 : k9 - tys.length < 1 := (List.getElem?_eq_some_iff.mp hx).1
      rw [show k9 - tys.length = 0 by omega] at hx
      cases hx
      exact ⟨hAr, fA⟩⟩
  obtain ⟨t, a1, b1⟩ := kk H.size (fun i => H.size + 1 + i) cA F.heap (fun i j _ _ h => by have h9 : H.size + 1 + i = H.size + 1 + j := h; omega) hnl hK2 (by rw [← vr_rows hnm]; exact vr_lay hP2) (by rw [← vr_rows hnm]; exact vr_layD hD2) ⟨by rw [f1]; have := hS.1; omega, fun x h1 h2 => (hold x (Nat.lt_of_lt_of_le h1 hS.1)).trans (hS.2.1 x h1 h2), hS.2.2⟩ F rfl X'
  refine ⟨t, step t ?_, b1⟩
  have e : T.heap.size = H.size := by rw [hT]
  rw [e]
  exact a1
end VGM
/-! ===== END ===== -/

/-! ===== BEGIN exceptions that leave a method, and their catching by the caller (launches without stack traces) ===== -/
section VXA
/-! The laws vx_back, vx_callV, vx_callS, vx_callSW, vx_throw0, vx_throwS follow proofs of the library, with one case more: JvmDerived/Free/Laws.lean (Back.of_free), Shelf42/LK1.lean (callV, callS), Shelf/KitTraced.lean (throwNew0V, throwNewS). -/
/-- where a method has thrown q: the class by its name, the cell, what was written, the world -/
def vx_T (XC : String → State → State → Prop) (st : State) (q : Addr) (t : State) (mc ms : Nat) (free : Addr → Prop) : Prop :=
  ∃ (E : String) (ce : Cell) (L : List Loc), XC E st t ∧ t.heap[q]? = some ce ∧ ce.vm = .none ∧ st.vm.findClass E = some ce.cls ∧ st.WarmedH t.vm ∧ st.sameButNew ({ t with vm := st.vm } : State) L mc ms ∧ ∀ z ∈ L, free z.base
def vx_Q (Qc : Array Value → State → Outcome → State → Prop) (XC : String → State → State → Prop) (mc ms : Nat) (free : Addr → Prop) : Array Value → State → Outcome → State → Prop := fun a st o t =>
  (Qc a st o t ∧ ∃ L, FrameEnd st o t L mc ms ∧ ∀ q ∈ L, free q.base) ∨ ∃ q, o = .threw q ∧ vx_T XC st q t mc ms free
/-- a callee that returns or throws -/
def vx_Met (l : Launch) (y : MethodName) (ws : List Cond) (rm : Room) (Pc : Array Value → State → Prop) (Qc : Array Value → State → Outcome → State → Prop) (XC : String → State → State → Prop) (mc ms : Nat) (free : Addr → Prop) : Prop :=
  MetFree l y (headSpec ws rm) Pc (fun _ _ _ _ _ => True) (vx_Q Qc XC mc ms free)
def vx_Post (XC : String → State → State → Prop) (mc ms : Nat) (free : Addr → Prop) : Pt → Array Value → Addr → Pt → Prop := fun A a q B =>
  ∃ (g : JFrame) (mk : MethodId) (t : State) (L : List Loc) (E : String) (ce : Cell), B.U.heap = t.heap ∧ B.U.vm = t.vm ∧ XC E (A.U.calling g mk a) t ∧ t.heap[q]? = some ce ∧ ce.vm = .none ∧ A.U.vm.findClass E = some ce.cls ∧ B.locs = A.locs ++ L ∧ (∀ z ∈ L, free z.base) ∧ B.cells = A.cells + mc ∧ B.slots = A.slots + ms
def vx_Back (l : Launch) (R : Room) (p : Program) (e : Env) (below : List Frame) (s : State) (sargs : Array Value) (y : MethodName) (len W9 : Nat)
    (Pre : Pt → Array Value → Prop) (Post : Pt → Array Value → Option Value → Pt → Prop) (PostX : Pt → Array Value → Addr → Pt → Prop) : Prop :=
  ∀ (m : MethodId) (meth : Method) (c : Code) (A : Pt) (g : JFrame) (ig : Instr) (mk : MethodId) (a : Array Value),
    Stand p l e R s m sargs below meth c A.U A.locs A.cells A.slots → g.method = m → g.locals.size = c.maxLocals → decode c.code g.pc = .ok (ig, len) →
    2 * g.monitorRoom + (g.stack.map fun v => v.category).sum ≤ W9 → A.U.methodNamed? y = some mk → Pre A a →
    (∃ (v : Option Value) (B : Pt), Stand p l e R s m sargs below meth c B.U B.locs B.cells B.slots ∧ Post A a v B ∧
      Steps p.tables e below (doInvoke e (A.U.setTop g) [] mk a).1 (B.U.setTop { g with pc := g.pc + len, stack := v.toList ++ g.stack })) ∨
    (∃ (q : Addr) (B : Pt), Stand p l e R s m sargs below meth c B.U B.locs B.cells B.slots ∧ PostX A a q B ∧
      Steps p.tables e below (doInvoke e (A.U.setTop g) [] mk a).1 ((B.U.setTop g).pushFrame (.throwing q)))
section Payer
variable {l : Launch} {R : Room} {p : Program} {e : Env} {below : List Frame} {s : State} {sargs : Array Value} {y : MethodName} {len W9 : Nat}
theorem vx_back {ws : List Cond} {rm : Room} {Pc : Array Value → State → Prop} {Qc : Array Value → State → Outcome → State → Prop} {XC : String → State → State → Prop} {mc ms : Nat} {free : Addr → Prop} {bytes : ByteArray} {maxL : Nat} {ret : Option FieldType}
    (hM : vx_Met l y ws rm Pc Qc XC mc ms free) (hblind : FrameBlind Pc) (hrc : rm.cells = mc) (hrs : rm.slots = ms)
    (hframes : rm.frames + 1 ≤ R.frames) (hlocals : W9 + (maxL + 11) + rm.locals ≤ R.locals)
    (hws : ∀ w ∈ ws, ∀ a' U, s.WarmedH U.vm → w.before a' U = true) (hcode : Cond.code y bytes maxL ret ∈ ws) (hinit : ∀ a' U, s.WarmedH U.vm → (Cond.initialized y.cls).before a' U = true) :
    vx_Back l R p e below s sargs y len W9 (PreOf R mc ms Pc) (PostOf Qc mc ms free) (vx_Post XC mc ms free) := by
  intro m meth c A g ig mk a X hg hsize hdg hW hn hp
  have h1 : (headSpec ws rm).pre.before a A.U = true := atoms_intro fun w hw => hws w hw _ _ X.warmed
  have h2 : (Cond.code y bytes maxL ret).before a A.U = true := hws _ hcode _ _ X.warmed
  have h3 : (Cond.initialized y.cls).before a A.U = true := hinit _ _ X.warmed
  have h4 : A.cells + (headSpec ws rm).room.cells ≤ R.cells := by rw [show (headSpec ws rm).room.cells = mc from hrc]; exact hp.1
  have h5 : A.slots + (headSpec ws rm).room.slots ≤ R.slots := by rw [show (headSpec ws rm).room.slots = ms from hrs]; exact hp.2.1
  have hPc : Pc a (A.U.calling g mk a) := hblind _ _ _ _ hp.2.2
  obtain ⟨U, Ls, c0, s0⟩ := A
  dsimp only [Pt.U, Pt.locs, Pt.cells, Pt.slots] at h1 h2 h3 h4 h5 X hn hPc ⊢
  obtain ⟨methY, cY, hmY, hcY, -, hlY, -, -, -, -⟩ := Cond.code_spec hn h2
  obtain ⟨kY, hkY, -⟩ := className_of_methodNamed hn
  have hinitY : kY.init = .initialized := Cond.initialized_spec (findClass_of_methodNamed hn) hkY h3
  have h : At U g.method c below := by rw [hg]; exact X.here
  have hlocals9 : W9 + (maxL + 11) + (headSpec ws rm).room.locals ≤ R.locals := hlocals
  have happ : (headSpec ws rm).appliesLoose y e.platform (U.calling g mk a) = true :=
    Spec.appliesLoose_calling (g := g) h hdg hn hkY hinitY
      (X.room_calling (g := g) (R' := (headSpec ws rm).room) hsize hmY hcY hframes (by rw [hlY]; omega) h4 h5) h1
  obtain ⟨mid, hmid⟩ := h.above
  have hfr : (U.setTop g).frames = (.java g :: mid) ++ below := by rw [State.frames_setTop' g h.top, hmid]; rfl
  obtain ⟨o, s₂, hsteps, -, hend, hq⟩ := Steps.callFree hM p X.admits X.cas X.clock (acts := []) hfr happ hPc trivial
  have hq' : vx_Q Qc XC mc ms free a (U.calling g mk a) o s₂ := hq
  rw [State.frames_setTop' g h.top] at hend
  obtain ⟨g₀, hg0⟩ := Option.isSome_iff_exists.mp h.top
  obtain ⟨r, hr⟩ := State.topJava?_eq_some.mp hg0
  have hr' : (({ U with heap := s₂.heap, slotsUsed := s₂.slotsUsed } : State).setVm s₂.vm).frames = .java g₀ :: r := hr
  rcases hq' with ⟨hqc, L, hfe, hL⟩ | ⟨q, rfl, E, ce, L, hx, hce, hcv, hcl, hW₂, hsm, hL⟩
  · obtain ⟨⟨v, rfl⟩, hW₂, e2, q2, q3, q4, q5, q6⟩ := id hfe
    have e3 : s₂ = ({ (U.calling g mk a).setFrames s₂.frames with heap := s₂.heap, slotsUsed := s₂.slotsUsed } : State).setVm s₂.vm := by
      have : s₂ = ({ s₂ with vm := (U.calling g mk a).vm } : State).setVm s₂.vm := rfl
      rw [e2] at this
      exact this
    obtain ⟨c₂, i₂, len₂, hc₂, hd₂, hf₂⟩ := hend
    have hW' : U.WarmedH s₂.vm := hW₂
    have hcc : c₂ = c := by
      have h1 : s₂.code? g.method = U.code? g.method := by
        rw [State.code?_eq, State.code?_eq, hW'.alike.method?]
      exact Option.some.inj (hc₂.symm.trans (h1.trans h.code))
    subst hcc
    have hlen : len₂ = len := by rw [hdg] at hd₂; cases hd₂; rfl
    subst hlen
    have hs₂ : s₂ = (({ U with heap := s₂.heap, slotsUsed := s₂.slotsUsed } : State).setVm s₂.vm).setTop { g with pc := g.pc + len₂, stack := v.toList ++ g.stack } := by
      refine e3.trans ?_
      rw [hf₂, State.calling_eq h.top, State.setFrames_setFrames, State.setTop_of_frames _ hr', hr]
      rfl
    have hsame : U.sameButNew ({ U with heap := s₂.heap, slotsUsed := s₂.slotsUsed } : State) L mc ms := by
      refine ⟨?_, q2, q3, q4, q5, q6⟩
      obtain ⟨t, ht, -⟩ := State.frames_cons hr
      show ({ U with heap := s₂.heap, slotsUsed := s₂.slotsUsed } : State) = { U.setFrames U.frames with heap := s₂.heap, slotsUsed := s₂.slotsUsed }
      rw [State.setFrames_self ht]
    subst hg
    refine Or.inl ⟨v, ⟨(({ U with heap := s₂.heap, slotsUsed := s₂.slotsUsed } : State).setVm s₂.vm), Ls ++ L, c0 + mc, s0 + ms⟩,
      ⟨X.admits, X.cas, X.clock, X.frames, X.room, X.hears, X.method, X.code, (X.here.setHeapUsed s₂.heap s₂.slotsUsed).setVm hW'.alike, X.tail, State.WarmedH.trans X.warmed hW', X.limits, X.bytes, X.same.trans (hsame.setVm s.vm)⟩,
      ⟨g, mk, s₂, L, rfl, rfl, hqc, rfl, hL, rfl, rfl⟩, ?_⟩
    show Steps p.tables e below _ ((({ U with heap := s₂.heap, slotsUsed := s₂.slotsUsed } : State).setVm s₂.vm).setTop { g with pc := g.pc + len₂, stack := v.toList ++ g.stack })
    rw [← hs₂]
    exact hsteps
  · obtain ⟨e2, q2, q3, q4, q5, q6⟩ := id hsm
    have e3 : s₂ = ({ (U.calling g mk a).setFrames s₂.frames with heap := s₂.heap, slotsUsed := s₂.slotsUsed } : State).setVm s₂.vm := by
      have : s₂ = ({ s₂ with vm := (U.calling g mk a).vm } : State).setVm s₂.vm := rfl
      rw [e2] at this
      exact this
    have hf₂ : s₂.frames = .throwing q :: .java g :: U.frames.tail := hend
    have hW' : U.WarmedH s₂.vm := hW₂
    have hs₂ : s₂ = ((({ U with heap := s₂.heap, slotsUsed := s₂.slotsUsed } : State).setVm s₂.vm).setTop g).pushFrame (.throwing q) := by
      refine e3.trans ?_
      rw [hf₂, State.calling_eq h.top, State.setFrames_setFrames, State.pushFrame, State.frames_setTop _ hr', State.setTop_of_frames _ hr', State.setFrames_setFrames, hr]
      rfl
    have hsame : U.sameButNew ({ U with heap := s₂.heap, slotsUsed := s₂.slotsUsed } : State) L mc ms := by
      refine ⟨?_, q2, q3, q4, q5, q6⟩
      obtain ⟨t, ht, -⟩ := State.frames_cons hr
      show ({ U with heap := s₂.heap, slotsUsed := s₂.slotsUsed } : State) = { U.setFrames U.frames with heap := s₂.heap, slotsUsed := s₂.slotsUsed }
      rw [State.setFrames_self ht]
    subst hg
    refine Or.inr ⟨q, ⟨(({ U with heap := s₂.heap, slotsUsed := s₂.slotsUsed } : State).setVm s₂.vm), Ls ++ L, c0 + mc, s0 + ms⟩,
      ⟨X.admits, X.cas, X.clock, X.frames, X.room, X.hears, X.method, X.code, (X.here.setHeapUsed s₂.heap s₂.slotsUsed).setVm hW'.alike, X.tail, State.WarmedH.trans X.warmed hW', X.limits, X.bytes, X.same.trans (hsame.setVm s.vm)⟩,
      ⟨g, mk, s₂, L, E, ce, rfl, rfl, hx, hce, hcv, hcl, rfl, hL, rfl, rfl⟩, ?_⟩
    show Steps p.tables e below _ (((({ U with heap := s₂.heap, slotsUsed := s₂.slotsUsed } : State).setVm s₂.vm).setTop g).pushFrame (.throwing q))
    rw [← hs₂]
    exact hsteps
end Payer
section Calls
variable {p : Program} {l : Launch} {e : Env} {R : Room} {s : State} {m : MethodId} {args : Array Value} {below : List Frame} {meth : Method} {c : Code} {T : State} {locs : List Loc} {cells slots : Nat}
theorem vx_callV (X : Stand p l e R s m args below meth c T locs cells slots) (hexec : p.tables.exec = Jvm.exec) {own C : String} {index : Nat} {y : MethodName} {bytes : ByteArray} {maxL : Nat} {ret : Option FieldType}
    (hown : s.vm.findClass own = some m.cls) (hlink : (Cond.methodLink own index y).before args s = true) (hinst : (Cond.instanceMethod y).before args s = true) (hsel : (Cond.selects C y y).before args s = true)
    (hcode : (Cond.code y bytes maxL ret).before args s = true) (hy : y.cls ≠ "java/lang/invoke/MethodHandle" ∧ y.cls ≠ "java/lang/invoke/VarHandle")
    {W9 : Nat} {Pre : Pt → Array Value → Prop} {Post : Pt → Array Value → Option Value → Pt → Prop} {PostX : Pt → Array Value → Addr → Pt → Prop} (hK : vx_Back l R p e below s args y 3 W9 Pre Post PostX)
    {b : Addr} {cellB : Cell} (hcell : T.heap[b]? = some cellB) (hobj : cellB.vm.isStatics = false) (hcls : s.vm.findClass C = some cellB.cls)
    {g : JFrame} (hg : g.method = m) (hsize : g.locals.size = c.maxLocals) {argsL rest : List Value} (hlen : ∀ sig, parseMethodDescriptor y.desc = some sig → argsL.length = sig.parameters.length)
    (hstack : g.stack = argsL.reverse ++ .ref b :: rest) (hW : 2 * g.monitorRoom + (rest.map fun v => v.category).sum ≤ W9) (hdg : decode c.code g.pc = .ok (.invokevirtual index, 3))
    (hpre : ∀ vm₁, s.WarmedH vm₁ → Pre ⟨T.setVm vm₁, locs, cells, slots⟩ (Value.ref b :: argsL).toArray) :
    (∃ (v : Option Value) (vm₁ : Vm) (B : Pt), s.WarmedH vm₁ ∧ Stand p l e R s m args below meth c B.U B.locs B.cells B.slots ∧ Post ⟨T.setVm vm₁, locs, cells, slots⟩ (Value.ref b :: argsL).toArray v B ∧
      ∀ target, Steps p.tables e below (B.U.setTop { g with pc := g.pc + 3, stack := v.toList ++ rest }) target → Steps p.tables e below (T.setTop g) target) ∨
    (∃ (q : Addr) (vm₁ : Vm) (B : Pt), s.WarmedH vm₁ ∧ Stand p l e R s m args below meth c B.U B.locs B.cells B.slots ∧ PostX ⟨T.setVm vm₁, locs, cells, slots⟩ (Value.ref b :: argsL).toArray q B ∧
      Steps p.tables e below (T.setTop g) ((B.U.setTop { g with stack := rest }).pushFrame (.throwing q))) := by
  obtain ⟨mk, methM, hnamed, hmethM, hstM, habM⟩ := Cond.instanceMethod_spec hinst
  obtain ⟨methM', cM, hmethM', -, -, -, -, -, -, hsigM⟩ := Cond.code_spec hnamed hcode
  cases hmethM.symm.trans hmethM'
  obtain ⟨c2, r2, m2, q1, q2, q3, q4, kP, hkP, hkPi⟩ := Cond.selects_spec hsel
  cases hcls.symm.trans q1
  cases (State.methodFound?_of_named hnamed hy).symm.trans q2
  cases hnamed.symm.trans q3
  have hselP : selectMethod e.platform s.vm cellB.cls mk = .method mk := by rw [Launch.admits_selectMethod X.admits]; exact q4
  obtain ⟨vm₁, X₁, hstep₁⟩ := X.invokevirtual hexec hown hlink hnamed hmethM hstM hkP hkPi hy (a := b) (cell := cellB) hcell
    (fun z h => by rw [h] at hobj; cases hobj) hselP hmethM habM hkP hkPi (g := g) hg (argsL := argsL) (rest := rest) (hlen _ hsigM) hstack hdg
  rcases hK m meth c ⟨T.setVm vm₁, locs, cells, slots⟩ { g with stack := rest } (.invokevirtual index) mk (Value.ref b :: argsL).toArray X₁ hg hsize hdg hW (X₁.named hnamed) (hpre vm₁ X₁.warmed) with ⟨v, B, X', hpost, hsteps⟩ | ⟨q, B, X', hpost, hsteps⟩
  · exact Or.inl ⟨v, vm₁, B, X₁.warmed, X', hpost, fun target h => hstep₁ _ fun acts => by rw [doInvoke_state]; exact hsteps.trans h⟩
  · exact Or.inr ⟨q, vm₁, B, X₁.warmed, X', hpost, hstep₁ _ fun acts => by rw [doInvoke_state]; exact hsteps⟩
theorem vx_callS (X : Stand p l e R s m args below meth c T locs cells slots) (hexec : p.tables.exec = Jvm.exec) {own : String} {index : Nat} {y : MethodName} {bytes : ByteArray} {maxL : Nat} {ret : Option FieldType}
    (hown : s.vm.findClass own = some m.cls) (hlink : (Cond.methodLink own index y).before args s = true) (hstat : (Cond.static y).before args s = true) (hinit : (Cond.initialized y.cls).before args s = true)
    (hcode : (Cond.code y bytes maxL ret).before args s = true) (hy : y.cls ≠ "java/lang/invoke/MethodHandle" ∧ y.cls ≠ "java/lang/invoke/VarHandle")
    {W9 : Nat} {Pre : Pt → Array Value → Prop} {Post : Pt → Array Value → Option Value → Pt → Prop} {PostX : Pt → Array Value → Addr → Pt → Prop} (hK : vx_Back l R p e below s args y 3 W9 Pre Post PostX)
    {g : JFrame} (hg : g.method = m) (hsize : g.locals.size = c.maxLocals) {argsL rest : List Value} (hlen : ∀ sig, parseMethodDescriptor y.desc = some sig → argsL.length = sig.parameters.length)
    (hstack : g.stack = argsL.reverse ++ rest) (hW : 2 * g.monitorRoom + (rest.map fun v => v.category).sum ≤ W9) (hdg : decode c.code g.pc = .ok (.invokestatic index, 3))
    (hpre : ∀ vm₁, s.WarmedH vm₁ → Pre ⟨T.setVm vm₁, locs, cells, slots⟩ argsL.toArray) :
    (∃ (v : Option Value) (vm₁ : Vm) (B : Pt), s.WarmedH vm₁ ∧ Stand p l e R s m args below meth c B.U B.locs B.cells B.slots ∧ Post ⟨T.setVm vm₁, locs, cells, slots⟩ argsL.toArray v B ∧
      ∀ target, Steps p.tables e below (B.U.setTop { g with pc := g.pc + 3, stack := v.toList ++ rest }) target → Steps p.tables e below (T.setTop g) target) ∨
    (∃ (q : Addr) (vm₁ : Vm) (B : Pt), s.WarmedH vm₁ ∧ Stand p l e R s m args below meth c B.U B.locs B.cells B.slots ∧ PostX ⟨T.setVm vm₁, locs, cells, slots⟩ argsL.toArray q B ∧
      Steps p.tables e below (T.setTop g) ((B.U.setTop { g with stack := rest }).pushFrame (.throwing q))) := by
  obtain ⟨mk, hnamed⟩ := Cond.code_named hcode
  obtain ⟨methM, cM, hmethM, -, -, -, -, -, -, hsigM⟩ := Cond.code_spec hnamed hcode
  have hstatic : methM.isStatic = true := Cond.static_spec hnamed hmethM hstat
  obtain ⟨kP, hkP, -⟩ := className_of_methodNamed hnamed
  have hinitP : kP.init = .initialized := Cond.initialized_spec (findClass_of_methodNamed hnamed) hkP hinit
  obtain ⟨vm₁, X₁, hstep₁⟩ := X.invokestatic hexec hown hlink hnamed hmethM hstatic hkP hinitP hy (g := g) hg (argsL := argsL) (rest := rest) (hlen _ hsigM) hstack hdg
  rcases hK m meth c ⟨T.setVm vm₁, locs, cells, slots⟩ { g with stack := rest } (.invokestatic index) mk argsL.toArray X₁ hg hsize hdg hW (X₁.named hnamed) (hpre vm₁ X₁.warmed) with ⟨v, B, X', hpost, hsteps⟩ | ⟨q, B, X', hpost, hsteps⟩
  · exact Or.inl ⟨v, vm₁, B, X₁.warmed, X', hpost, fun target h => hstep₁ _ fun acts => by rw [doInvoke_state]; exact hsteps.trans h⟩
  · exact Or.inr ⟨q, vm₁, B, X₁.warmed, X', hpost, hstep₁ _ fun acts => by rw [doInvoke_state]; exact hsteps⟩
end Calls
theorem vx_cls {s : State} {T : State} {vm₁ : Vm} {E : String} {k : ClassId} (hW : s.WarmedH vm₁) (h : (T.setVm vm₁).vm.findClass E = some k) : s.vm.findClass E = some k := by
  have h1 : vm₁.findClass E = some k := h
  rw [hW.alike.findClass] at h1
  exact h1
/-- the method's frame g, with q thrown over it -/
def vx_W (p : Program) (l : Launch) (e : Env) (R : Room) (s : State) (m : MethodId) (args : Array Value) (below : List Frame) (meth : Method) (c : Code) (H : Heap) (locs : List Loc) (cells slots : Nat) (Q : State → Prop) (g : JFrame) (q : Addr) : Prop :=
  ∀ T : State, T.heap = H → Stand p l e R s m args below meth c T locs cells slots → ∃ t, Steps p.tables e below ((T.setTop g).pushFrame (.throwing q)) t ∧ Q t
def vx_Run (p : Program) (l : Launch) (e : Env) (R : Room) (s : State) (m : MethodId) (args : Array Value) (below : List Frame) (meth : Method) (c : Code) (H : Heap) (locs : List Loc) (cells slots mc ms : Nat) (g : JFrame) (rest : List Value) (Qa : State → Outcome → State → Prop) (XC : String → State → State → Prop) (free : Addr → Prop) : Prop :=
  ∀ T : State, T.heap = H → Stand p l e R s m args below meth c T locs cells slots →
    (∃ (v : Option Value) (st₀ t T' : State) (L : List Loc), st₀.heap = H ∧ Stand p l e R s m args below meth c T' (locs ++ L) (cells + mc) (slots + ms) ∧ (∀ q ∈ L, free q.base) ∧ T'.heap = t.heap ∧ T'.vm = t.vm ∧ Qa st₀ (.returned v) t ∧
      Goes p e below T g T' { g with pc := g.pc + 3, stack := v.toList ++ rest }) ∨
    (∃ (q : Addr) (st₀ t T' : State) (L : List Loc) (E : String) (ce : Cell), st₀.heap = H ∧ Stand p l e R s m args below meth c T' (locs ++ L) (cells + mc) (slots + ms) ∧ (∀ z ∈ L, free z.base) ∧ T'.heap = t.heap ∧ T'.vm = t.vm ∧ XC E st₀ t ∧ t.heap[q]? = some ce ∧ ce.vm = .none ∧ s.vm.findClass E = some ce.cls ∧
      Steps p.tables e below (T.setTop g) ((T'.setTop { g with stack := rest }).pushFrame (.throwing q)))
def vx_X {S : Type} (px : S → Prop) (B : String → S → State → Prop) (A : Nat → Prop) : String → State → State → Prop := fun E st t => ∃ u : S, px u ∧ B E u t ∧ va_F A st t
section Runs
variable {p : Program} {l : Launch} {e : Env} {R : Room} {s : State} {m : MethodId} {args : Array Value} {below : List Frame} {meth : Method} {c : Code} {H : Heap} {locs : List Loc} {cells slots : Nat}
variable {y : MethodName} {bytes cc : ByteArray} {maxL nL mc ms n index : Nat} {ret : Option FieldType} {ws : List Cond} {rm : Room} {Pc : Array Value → State → Prop} {Qc : Array Value → State → Outcome → State → Prop} {XC : String → State → State → Prop} {free : Addr → Prop} {Ts : List Cond} {own C : String} {b : Addr} {As rest : List Value} {g : JFrame}
theorem vx_callBack (cb : CallB R s args own index y bytes maxL ret ws rm mc ms n) (hM : vx_Met l y ws rm Pc Qc XC mc ms free) (hbl : FrameBlind Pc) : vx_Back l R p e below s args y 3 8 (PreOf R mc ms Pc) (PostOf Qc mc ms free) (vx_Post XC mc ms free) := by
  obtain ⟨hrc, hrs, hfr, hlo, hws, hcw, -, hini, -⟩ := cb
  exact vx_back (bytes := bytes) (maxL := maxL) (ret := ret) hM hbl hrc hrs hfr hlo hws hcw (fun a' U hW => word_at hW (Or.inl (by first | rfl | simp [Cond.onTables, Cond.keeps, Cond.steady])) hini)
theorem vx_runV (S : CallFix p m c cc nL s args Ts own) (hM : vx_Met l y ws rm Pc Qc XC mc ms free) (cw : CallW R s args own C index y bytes maxL ret ws rm mc ms n) (hp : PreV s H C b Pc As)
    (hg : g.method = m) (hn : As.length = n) (hsize : g.locals.size = nL) (hstack : g.stack = As.reverse ++ .ref b :: rest) (hW : 2 * g.monitorRoom + (rest.map fun v => v.category).sum ≤ 8) (hdg : decode cc g.pc = .ok (.invokevirtual index, 3)) (hf : cells + mc ≤ R.cells ∧ slots + ms ≤ R.slots) :
    vx_Run p l e R s m args below meth c H locs cells slots mc ms g rest (Qc (Value.ref b :: As).toArray) XC free := by
  have hK : vx_Back l R p e below s args y 3 8 (PreOf R mc ms Pc) (PostOf Qc mc ms free) (vx_Post XC mc ms free) := vx_callBack cw.1 hM hp.1
  obtain ⟨⟨-, -, -, -, -, -, hcode, -, hy, hlen, hl⟩, hin, hse⟩ := cw
  obtain ⟨hx, hb, hml, ho, -⟩ := S
  obtain ⟨-, ⟨cellB, hcB, hoB, hclB⟩, hPc⟩ := hp
  intro T hT X
  rcases vx_callV X hx (C := C) (bytes := bytes) (maxL := maxL) (ret := ret) ho hl hin hse hcode hy hK (by rw [hT]; exact hcB) hoB hclB hg (hsize.trans hml.symm) (argsL := As) (rest := rest) (fun sig h => hn.trans (hlen sig h)) hstack hW (by rw [hb]; exact hdg)
    (fun vm₁ hW₁ => ⟨hf.1, hf.2, hPc (T.setVm vm₁) hT hW₁⟩) with ⟨v, vm₁, ⟨U', l2, c2, s2⟩, hW₁, X', ⟨g', mk, t, L, e1, e2, hq, h1, hL, h2, h3⟩, st⟩ | ⟨q, vm₁, ⟨U', l2, c2, s2⟩, hW₁, X', ⟨g', mk, t, L, E, ce, e1, e2, hq, hce, hcv, hcl, h1, hL, h2, h3⟩, st⟩
  · dsimp only [Pt.U, Pt.locs, Pt.cells, Pt.slots] at X' e1 e2 h1 h2 h3 st
    subst h1; subst h2; subst h3
    exact Or.inl ⟨v, (T.setVm vm₁).calling g' mk (Value.ref b :: As).toArray, t, U', L, hT, X', hL, e1, e2, hq, st⟩
  · dsimp only [Pt.U, Pt.locs, Pt.cells, Pt.slots] at X' e1 e2 h1 h2 h3 st hcl
    subst h1; subst h2; subst h3
    exact Or.inr ⟨q, (T.setVm vm₁).calling g' mk (Value.ref b :: As).toArray, t, U', L, E, ce, hT, X', hL, e1, e2, hq, hce, hcv, vx_cls hW₁ hcl, st⟩
theorem vx_runS (S : CallFix p m c cc nL s args Ts own) (hM : vx_Met l y ws rm Pc Qc XC mc ms free) (cw : CallB R s args own index y bytes maxL ret ws rm mc ms n ∧ (Cond.static y).before args s = true) (hp : PreS s H Pc As)
    (hg : g.method = m) (hn : As.length = n) (hsize : g.locals.size = nL) (hstack : g.stack = As.reverse ++ rest) (hW : 2 * g.monitorRoom + (rest.map fun v => v.category).sum ≤ 8) (hdg : decode cc g.pc = .ok (.invokestatic index, 3)) (hf : cells + mc ≤ R.cells ∧ slots + ms ≤ R.slots) :
    vx_Run p l e R s m args below meth c H locs cells slots mc ms g rest (Qc As.toArray) XC free := by
  have hK : vx_Back l R p e below s args y 3 8 (PreOf R mc ms Pc) (PostOf Qc mc ms free) (vx_Post XC mc ms free) := vx_callBack cw.1 hM hp.1
  obtain ⟨⟨-, -, -, -, -, -, hcode, hini, hy, hlen, hl⟩, hstt⟩ := cw
  obtain ⟨hx, hb, hml, ho, -⟩ := S
  intro T hT X
  rcases vx_callS X hx (bytes := bytes) (maxL := maxL) (ret := ret) ho hl hstt hini hcode hy hK hg (hsize.trans hml.symm) (argsL := As) (rest := rest) (fun sig h => hn.trans (hlen sig h)) hstack hW (by rw [hb]; exact hdg)
    (fun vm₁ hW₁ => ⟨hf.1, hf.2, hp.2 (T.setVm vm₁) hT hW₁⟩) with ⟨v, vm₁, ⟨U', l2, c2, s2⟩, hW₁, X', ⟨g', mk, t, L, e1, e2, hq, h1, hL, h2, h3⟩, st⟩ | ⟨q, vm₁, ⟨U', l2, c2, s2⟩, hW₁, X', ⟨g', mk, t, L, E, ce, e1, e2, hq, hce, hcv, hcl, h1, hL, h2, h3⟩, st⟩
  · dsimp only [Pt.U, Pt.locs, Pt.cells, Pt.slots] at X' e1 e2 h1 h2 h3 st
    subst h1; subst h2; subst h3
    exact Or.inl ⟨v, (T.setVm vm₁).calling g' mk As.toArray, t, U', L, hT, X', hL, e1, e2, hq, st⟩
  · dsimp only [Pt.U, Pt.locs, Pt.cells, Pt.slots] at X' e1 e2 h1 h2 h3 st hcl
    subst h1; subst h2; subst h3
    exact Or.inr ⟨q, (T.setVm vm₁).calling g' mk As.toArray, t, U', L, E, ce, hT, X', hL, e1, e2, hq, hce, hcv, vx_cls hW₁ hcl, st⟩
end Runs
section Rows
variable {p : Program} {l : Launch} {e : Env} {R : Room} {s : State} {m : MethodId} {args : Array Value} {below : List Frame} {meth : Method} {c : Code} {H : Heap} {locs : List Loc} {cells slots : Nat} {Q : State → Prop}
variable {mc ms : Nat} {free : Addr → Prop} {A0 A1 : Nat → Prop} {H0 : Heap} {a : Array Value} {pc : Nat} {ls : Array Slot} {st0 rest : List Value}
theorem vx_keep {st₀ t T' : State} {L : List Loc} (h0 : st₀.heap = H) (e1 : T'.heap = t.heap) (hS : va_S A0 H0 H locs) (hA : ∀ q, q < H.size → A1 q → A0 q) (hf : ∀ q, free q → A0 q) (hL : ∀ q ∈ L, free q.base) (hF : va_F A1 st₀ t) :
    H.size ≤ T'.heap.size ∧ (∀ q : Nat, q < H.size → ¬ A1 q → T'.heap[q]? = H[q]?) ∧ va_S A0 H0 T'.heap (locs ++ L) := by
  obtain ⟨hz, hk⟩ := hF
  rw [h0] at hz hk
  exact ⟨by rw [e1]; exact hz, fun q h1 h2 => by rw [e1]; exact hk q h1 h2,
    ⟨Nat.le_trans hS.1 (by rw [e1]; exact hz), fun q h1 h2 => by rw [e1, hk q (Nat.lt_of_lt_of_le h1 hS.1) (fun z => h2 (hA q (Nat.lt_of_lt_of_le h1 hS.1) z))]; exact hS.2.1 q h1 h2, fun q hq => by
      rcases List.mem_append.mp hq with h | h
      · exact hS.2.2 q h
      · exact hf _ (hL q h)⟩⟩
theorem vx_calli {S SX : Type} {post : Int32 → S → Prop} {px : SX → Prop} {B : S → State → Prop} {BX : String → SX → State → Prop} {AX : Nat → Prop} (hr : vx_Run p l e R s m args below meth c H locs cells slots mc ms (F0 m pc ls st0) rest (va_Qi post B A1 a) (vx_X px BX AX) free) (hS : va_S A0 H0 H locs) (hA : ∀ q, q < H.size → A1 q → A0 q) (hf : ∀ q, free q → A0 q) (hAX : ∀ q, q < H.size → AX q → A0 q)
    (kx : ∀ (E : String) (ce : Cell) (q9 : Addr) (u : SX) (t : State) (H1 : Heap) (locs1 : List Loc), t.heap = H1 → s.vm.Alike t.vm → px u → BX E u t → H.size ≤ H1.size → (∀ q : Nat, q < H.size → ¬ AX q → H1[q]? = H[q]?) → va_S A0 H0 H1 locs1 → H1[q9]? = some ce → ce.vm = .none → s.vm.findClass E = some ce.cls → vx_W p l e R s m args below meth c H1 locs1 (cells + mc) (slots + ms) Q (F0 m pc ls rest) q9)
    (kk : ∀ (r : Int32) (u : S) (t : State) (H1 : Heap) (locs1 : List Loc), t.heap = H1 → s.vm.Alike t.vm → post r u → B u t → H.size ≤ H1.size → (∀ q : Nat, q < H.size → ¬ A1 q → H1[q]? = H[q]?) → va_S A0 H0 H1 locs1 → W p l e R s m args below meth c H1 locs1 (cells + mc) (slots + ms) Q (F0 m (pc + 3) ls (.int r :: rest))) : W p l e R s m args below meth c H locs cells slots Q (F0 m pc ls st0) := by
  intro T hT X
  rcases hr T hT X with ⟨v, st₀, t, T', L, h0, X', hL, e1, e2, ⟨⟨r, u, hv, hp, hb⟩, hF⟩, st⟩ | ⟨q, st₀, t, T', L, E, ce, h0, X', hL, e1, e2, ⟨u, hp, hb, hF⟩, hce, hcv, hcl, st⟩
  · cases hv
    obtain ⟨k1, k2, k3⟩ := vx_keep h0 e1 hS hA hf hL hF
    obtain ⟨t2, a1, b1⟩ := kk r u t T'.heap (locs ++ L) e1.symm (by rw [← e2]; exact X'.warmed.alike) hp hb k1 k2 k3 T' rfl X'
    exact ⟨t2, st t2 a1, b1⟩
  · obtain ⟨k1, k2, k3⟩ := vx_keep h0 e1 hS hAX hf hL hF
    obtain ⟨t2, a1, b1⟩ := kx E ce q u t T'.heap (locs ++ L) e1.symm (by rw [← e2]; exact X'.warmed.alike) hp hb k1 k2 k3 (by rw [e1]; exact hce) hcv hcl T' rfl X'
    exact ⟨t2, st.trans a1, b1⟩
theorem vx_calll {S SX : Type} {post : Int64 → S → Prop} {px : SX → Prop} {B : S → State → Prop} {BX : String → SX → State → Prop} {AX : Nat → Prop} (hr : vx_Run p l e R s m args below meth c H locs cells slots mc ms (F0 m pc ls st0) rest (va_Ql post B A1 a) (vx_X px BX AX) free) (hS : va_S A0 H0 H locs) (hA : ∀ q, q < H.size → A1 q → A0 q) (hf : ∀ q, free q → A0 q) (hAX : ∀ q, q < H.size → AX q → A0 q)
    (kx : ∀ (E : String) (ce : Cell) (q9 : Addr) (u : SX) (t : State) (H1 : Heap) (locs1 : List Loc), t.heap = H1 → s.vm.Alike t.vm → px u → BX E u t → H.size ≤ H1.size → (∀ q : Nat, q < H.size → ¬ AX q → H1[q]? = H[q]?) → va_S A0 H0 H1 locs1 → H1[q9]? = some ce → ce.vm = .none → s.vm.findClass E = some ce.cls → vx_W p l e R s m args below meth c H1 locs1 (cells + mc) (slots + ms) Q (F0 m pc ls rest) q9)
    (kk : ∀ (r : Int64) (u : S) (t : State) (H1 : Heap) (locs1 : List Loc), t.heap = H1 → s.vm.Alike t.vm → post r u → B u t → H.size ≤ H1.size → (∀ q : Nat, q < H.size → ¬ A1 q → H1[q]? = H[q]?) → va_S A0 H0 H1 locs1 → W p l e R s m args below meth c H1 locs1 (cells + mc) (slots + ms) Q (F0 m (pc + 3) ls (.long r :: rest))) : W p l e R s m args below meth c H locs cells slots Q (F0 m pc ls st0) := by
  intro T hT X
  rcases hr T hT X with ⟨v, st₀, t, T', L, h0, X', hL, e1, e2, ⟨⟨r, u, hv, hp, hb⟩, hF⟩, st⟩ | ⟨q, st₀, t, T', L, E, ce, h0, X', hL, e1, e2, ⟨u, hp, hb, hF⟩, hce, hcv, hcl, st⟩
  · cases hv
    obtain ⟨k1, k2, k3⟩ := vx_keep h0 e1 hS hA hf hL hF
    obtain ⟨t2, a1, b1⟩ := kk r u t T'.heap (locs ++ L) e1.symm (by rw [← e2]; exact X'.warmed.alike) hp hb k1 k2 k3 T' rfl X'
    exact ⟨t2, st t2 a1, b1⟩
  · obtain ⟨k1, k2, k3⟩ := vx_keep h0 e1 hS hAX hf hL hF
    obtain ⟨t2, a1, b1⟩ := kx E ce q u t T'.heap (locs ++ L) e1.symm (by rw [← e2]; exact X'.warmed.alike) hp hb k1 k2 k3 (by rw [e1]; exact hce) hcv hcl T' rfl X'
    exact ⟨t2, st.trans a1, b1⟩
theorem vx_callf {S SX : Type} {post : UInt32 → S → Prop} {px : SX → Prop} {B : S → State → Prop} {BX : String → SX → State → Prop} {AX : Nat → Prop} (hr : vx_Run p l e R s m args below meth c H locs cells slots mc ms (F0 m pc ls st0) rest (va_Qf post B A1 a) (vx_X px BX AX) free) (hS : va_S A0 H0 H locs) (hA : ∀ q, q < H.size → A1 q → A0 q) (hf : ∀ q, free q → A0 q) (hAX : ∀ q, q < H.size → AX q → A0 q)
    (kx : ∀ (E : String) (ce : Cell) (q9 : Addr) (u : SX) (t : State) (H1 : Heap) (locs1 : List Loc), t.heap = H1 → s.vm.Alike t.vm → px u → BX E u t → H.size ≤ H1.size → (∀ q : Nat, q < H.size → ¬ AX q → H1[q]? = H[q]?) → va_S A0 H0 H1 locs1 → H1[q9]? = some ce → ce.vm = .none → s.vm.findClass E = some ce.cls → vx_W p l e R s m args below meth c H1 locs1 (cells + mc) (slots + ms) Q (F0 m pc ls rest) q9)
    (kk : ∀ (r : UInt32) (u : S) (t : State) (H1 : Heap) (locs1 : List Loc), t.heap = H1 → s.vm.Alike t.vm → post r u → B u t → H.size ≤ H1.size → (∀ q : Nat, q < H.size → ¬ A1 q → H1[q]? = H[q]?) → va_S A0 H0 H1 locs1 → W p l e R s m args below meth c H1 locs1 (cells + mc) (slots + ms) Q (F0 m (pc + 3) ls (.float r :: rest))) : W p l e R s m args below meth c H locs cells slots Q (F0 m pc ls st0) := by
  intro T hT X
  rcases hr T hT X with ⟨v, st₀, t, T', L, h0, X', hL, e1, e2, ⟨⟨r, u, hv, hp, hb⟩, hF⟩, st⟩ | ⟨q, st₀, t, T', L, E, ce, h0, X', hL, e1, e2, ⟨u, hp, hb, hF⟩, hce, hcv, hcl, st⟩
  · cases hv
    obtain ⟨k1, k2, k3⟩ := vx_keep h0 e1 hS hA hf hL hF
    obtain ⟨t2, a1, b1⟩ := kk r u t T'.heap (locs ++ L) e1.symm (by rw [← e2]; exact X'.warmed.alike) hp hb k1 k2 k3 T' rfl X'
    exact ⟨t2, st t2 a1, b1⟩
  · obtain ⟨k1, k2, k3⟩ := vx_keep h0 e1 hS hAX hf hL hF
    obtain ⟨t2, a1, b1⟩ := kx E ce q u t T'.heap (locs ++ L) e1.symm (by rw [← e2]; exact X'.warmed.alike) hp hb k1 k2 k3 (by rw [e1]; exact hce) hcv hcl T' rfl X'
    exact ⟨t2, st.trans a1, b1⟩
theorem vx_calld {S SX : Type} {post : UInt64 → S → Prop} {px : SX → Prop} {B : S → State → Prop} {BX : String → SX → State → Prop} {AX : Nat → Prop} (hr : vx_Run p l e R s m args below meth c H locs cells slots mc ms (F0 m pc ls st0) rest (va_Qd post B A1 a) (vx_X px BX AX) free) (hS : va_S A0 H0 H locs) (hA : ∀ q, q < H.size → A1 q → A0 q) (hf : ∀ q, free q → A0 q) (hAX : ∀ q, q < H.size → AX q → A0 q)
    (kx : ∀ (E : String) (ce : Cell) (q9 : Addr) (u : SX) (t : State) (H1 : Heap) (locs1 : List Loc), t.heap = H1 → s.vm.Alike t.vm → px u → BX E u t → H.size ≤ H1.size → (∀ q : Nat, q < H.size → ¬ AX q → H1[q]? = H[q]?) → va_S A0 H0 H1 locs1 → H1[q9]? = some ce → ce.vm = .none → s.vm.findClass E = some ce.cls → vx_W p l e R s m args below meth c H1 locs1 (cells + mc) (slots + ms) Q (F0 m pc ls rest) q9)
    (kk : ∀ (r : UInt64) (u : S) (t : State) (H1 : Heap) (locs1 : List Loc), t.heap = H1 → s.vm.Alike t.vm → post r u → B u t → H.size ≤ H1.size → (∀ q : Nat, q < H.size → ¬ A1 q → H1[q]? = H[q]?) → va_S A0 H0 H1 locs1 → W p l e R s m args below meth c H1 locs1 (cells + mc) (slots + ms) Q (F0 m (pc + 3) ls (.double r :: rest))) : W p l e R s m args below meth c H locs cells slots Q (F0 m pc ls st0) := by
  intro T hT X
  rcases hr T hT X with ⟨v, st₀, t, T', L, h0, X', hL, e1, e2, ⟨⟨r, u, hv, hp, hb⟩, hF⟩, st⟩ | ⟨q, st₀, t, T', L, E, ce, h0, X', hL, e1, e2, ⟨u, hp, hb, hF⟩, hce, hcv, hcl, st⟩
  · cases hv
    obtain ⟨k1, k2, k3⟩ := vx_keep h0 e1 hS hA hf hL hF
    obtain ⟨t2, a1, b1⟩ := kk r u t T'.heap (locs ++ L) e1.symm (by rw [← e2]; exact X'.warmed.alike) hp hb k1 k2 k3 T' rfl X'
    exact ⟨t2, st t2 a1, b1⟩
  · obtain ⟨k1, k2, k3⟩ := vx_keep h0 e1 hS hAX hf hL hF
    obtain ⟨t2, a1, b1⟩ := kx E ce q u t T'.heap (locs ++ L) e1.symm (by rw [← e2]; exact X'.warmed.alike) hp hb k1 k2 k3 (by rw [e1]; exact hce) hcv hcl T' rfl X'
    exact ⟨t2, st.trans a1, b1⟩
theorem vx_callv {S SX : Type} {post : S → Prop} {px : SX → Prop} {B : S → State → Prop} {BX : String → SX → State → Prop} {AX : Nat → Prop} (hr : vx_Run p l e R s m args below meth c H locs cells slots mc ms (F0 m pc ls st0) rest (va_Qv post B A1 a) (vx_X px BX AX) free) (hS : va_S A0 H0 H locs) (hA : ∀ q, q < H.size → A1 q → A0 q) (hf : ∀ q, free q → A0 q) (hAX : ∀ q, q < H.size → AX q → A0 q)
    (kx : ∀ (E : String) (ce : Cell) (q9 : Addr) (u : SX) (t : State) (H1 : Heap) (locs1 : List Loc), t.heap = H1 → s.vm.Alike t.vm → px u → BX E u t → H.size ≤ H1.size → (∀ q : Nat, q < H.size → ¬ AX q → H1[q]? = H[q]?) → va_S A0 H0 H1 locs1 → H1[q9]? = some ce → ce.vm = .none → s.vm.findClass E = some ce.cls → vx_W p l e R s m args below meth c H1 locs1 (cells + mc) (slots + ms) Q (F0 m pc ls rest) q9)
    (kk : ∀ (u : S) (t : State) (H1 : Heap) (locs1 : List Loc), t.heap = H1 → s.vm.Alike t.vm → post u → B u t → H.size ≤ H1.size → (∀ q : Nat, q < H.size → ¬ A1 q → H1[q]? = H[q]?) → va_S A0 H0 H1 locs1 → W p l e R s m args below meth c H1 locs1 (cells + mc) (slots + ms) Q (F0 m (pc + 3) ls (rest))) : W p l e R s m args below meth c H locs cells slots Q (F0 m pc ls st0) := by
  intro T hT X
  rcases hr T hT X with ⟨v, st₀, t, T', L, h0, X', hL, e1, e2, ⟨⟨u, hv, hp, hb⟩, hF⟩, st⟩ | ⟨q, st₀, t, T', L, E, ce, h0, X', hL, e1, e2, ⟨u, hp, hb, hF⟩, hce, hcv, hcl, st⟩
  · cases hv
    obtain ⟨k1, k2, k3⟩ := vx_keep h0 e1 hS hA hf hL hF
    obtain ⟨t2, a1, b1⟩ := kk u t T'.heap (locs ++ L) e1.symm (by rw [← e2]; exact X'.warmed.alike) hp hb k1 k2 k3 T' rfl X'
    exact ⟨t2, st t2 a1, b1⟩
  · obtain ⟨k1, k2, k3⟩ := vx_keep h0 e1 hS hAX hf hL hF
    obtain ⟨t2, a1, b1⟩ := kx E ce q u t T'.heap (locs ++ L) e1.symm (by rw [← e2]; exact X'.warmed.alike) hp hb k1 k2 k3 (by rw [e1]; exact hce) hcv hcl T' rfl X'
    exact ⟨t2, st.trans a1, b1⟩
/-- caught by the row x of this method's table; the rows ahead don't take it -/
theorem vx_catch {own name : String} {E : String} {ce : Cell} {q : Addr} (hown : s.vm.findClass own = some m.cls) (pre : List ExceptionTableEntry) (x : ExceptionTableEntry) (suf : List ExceptionTableEntry) (hsplit : c.exceptionTable.toList = pre ++ x :: suf)
    (hpass : ∀ z ∈ pre, covers z pc = false ∨ (z.catchType ≠ 0 ∧ ∃ nm : String, (Cond.classLink own z.catchType nm).before args s = true ∧ va_Nc E nm s)) (hx : covers x pc = true) (h0 : x.catchType ≠ 0)
    (hlink : (Cond.classLink own x.catchType name).before args s = true) (hcast : (Cond.castable E name).before args s = true) (hcell : H[q]? = some ce) (hv : ce.vm = .none) (hcl : s.vm.findClass E = some ce.cls)
    (kk : W p l e R s m args below meth c H locs cells slots Q (F0 m x.handlerPc ls [.ref q])) : vx_W p l e R s m args below meth c H locs cells slots Q (F0 m pc ls rest) q := by
  intro T hT X
  have hpl : e.platform.magicAccessors = ({} : Platform).magicAccessors := by rw [X.admits.platform]
  obtain ⟨c3, c4, hc3, hc4, hasg⟩ := Cond.castable_spec hcast
  cases Option.some.inj (hc3.symm.trans hcl)
  obtain ⟨c5, hc5, hcl5⟩ := Cond.classLink_spec hown hlink e.platform hpl
  cases Option.some.inj (hc4.symm.trans hc5)
  obtain ⟨vm', X', st⟩ := X.thenCaughtThrough q (g := F0 m pc ls rest) rfl (Steps.refl _) (by rw [hT]; exact hcell) (by rw [hv]; rfl) (by obtain ⟨k9, h9, -⟩ := Vm.findClass_spec hcl; exact ⟨k9, h9⟩) pre x suf hsplit
    (fun z hz => by
      rcases hpass z hz with h | ⟨hz0, nm, hl1, hn1⟩
      · exact Or.inl h
      · obtain ⟨c6, hc6, hcl6⟩ := Cond.classLink_spec hown hl1 e.platform hpl
        obtain ⟨a8, b8, h1, h2, h3⟩ := hn1
        cases Option.some.inj (h1.symm.trans hcl)
        cases Option.some.inj (h2.symm.trans hc6)
        exact Or.inr ⟨hz0, _, hcl6, h3⟩) hx (Or.inr ⟨h0, c4, hcl5, hasg⟩)
  obtain ⟨t, a1, b1⟩ := kk (T.setVm vm') hT X'
  exact ⟨t, st.trans a1, b1⟩
end Rows
section Ends
variable {p : Program} {l : Launch} {e : Env} {R : Room} {s : State} {m : MethodId} {args : Array Value} {below : List Frame} {meth : Method} {c : Code} {H : Heap} {locs : List Loc} {cells slots : Nat} {Q : State → Prop}
variable {mc ms : Nat} {free : Addr → Prop} {A0 A1 : Nat → Prop} {H0 : Heap} {a : Array Value} {ls : Array Slot} {st0 rest : List Value}
variable {Qc : Array Value → State → Outcome → State → Prop} {XC : String → State → State → Prop}
/-- what a body that may throw owes at its end -/
def vx_MQ (below : List Frame) (Qc : Array Value → State → Outcome → State → Prop) (XC : String → State → State → Prop) (a : Array Value) (s : State) (mc ms : Nat) (free : Addr → Prop) : State → Prop := fun t =>
  ∃ o, t.status = .running ∧ Ended t below o ∧ vx_Q Qc XC mc ms free a s o t
theorem vx_ret {g : JFrame} {mc ms : Nat} (k : W p l e R s m args below meth c H locs cells slots (MQ below Qc args s mc ms free) g) : W p l e R s m args below meth c H locs cells slots (vx_MQ below Qc XC args s mc ms free) g := by
  intro T hT X
  obtain ⟨t, a1, o, b1, b2, b3, b4⟩ := k T hT X
  exact ⟨t, a1, o, b1, b2, Or.inl ⟨b3, b4⟩⟩
/-- not caught here: it goes on to the caller -/
theorem vx_widen {g : JFrame} {q : Addr} {k n : Nat} (h1 : cells ≤ k) (h2 : slots ≤ n) (kk : vx_W p l e R s m args below meth c H locs k n Q g q) : vx_W p l e R s m args below meth c H locs cells slots Q g q := fun T hT X => kk T hT (stand_widen X h1 h2)
theorem vx_out {pc : Nat} {E : String} {ce : Cell} {q : Addr} {mc ms : Nat} (hout : ∀ x ∈ c.exceptionTable.toList, covers x pc = false) (hlocks : meth.locks = false) (hcell : H[q]? = some ce) (hv : ce.vm = .none) (hcl : s.vm.findClass E = some ce.cls)
    (hx : ∀ t : State, t.heap = H → s.vm.Alike t.vm → XC E s t) (hf : ∀ z ∈ locs, free z.base) (hc : cells ≤ mc) (hs : slots ≤ ms) :
    vx_W p l e R s m args below meth c H locs cells slots (vx_MQ below Qc XC args s mc ms free) (F0 m pc ls rest) q := by
  intro T hT X
  obtain ⟨st1, hrun, hend, hW, hsm⟩ := X.leaveThrown q (g := F0 m pc ls rest) rfl rfl rfl hout hlocks
  have hcell9 : (T.setFrames (.throwing q :: below)).heap[q]? = some ce := by
    show T.heap[q]? = some ce
    rw [hT]; exact hcell
  exact ⟨_, st1, .threw q, hrun, hend, Or.inr ⟨q, rfl, E, ce, locs, hx _ hT hW.alike, hcell9, hv, hcl, hW, hsm.mono hc hs, hf⟩⟩
theorem vx_frame {U : State} {k n : Nat} (h : s.sameButNew ({ U with vm := s.vm } : State) locs k n) : s.heap.size ≤ U.heap.size ∧ ∀ q : Nat, q < s.heap.size → (∀ z ∈ locs, z.base ≠ q) → U.heap[q]? = s.heap[q]? := by
  obtain ⟨-, h2, -, -, -, h6⟩ := h
  refine ⟨h2, fun q hq hz => ?_⟩
  obtain ⟨c9, e1, e2, e3, e4⟩ := h6 q _ (Array.getElem?_eq_getElem hq)
  have hs : c9.slots = (s.heap[q]).slots := Array.ext_getElem? fun i => e4 i fun hm => hz _ hm rfl
  have h9 : c9 = s.heap[q] := by
    rw [hs] at e2
    exact e2
  have e5 : U.heap[q]? = some c9 := e1
  rw [e5, h9, Array.getElem?_eq_getElem hq]
/-- the words of a throw but the four that speak of the heap -/
def vx_no (w : Cond) : Bool := decide (w ≠ .isRef (.static Bundle.tN "UNASSIGNED_STACK" Bundle.steD)) && decide (w ≠ .isRef (.static Bundle.tN "SUPPRESSED_SENTINEL" Bundle.listD)) && decide (w ≠ .laysStatic Bundle.tN "UNASSIGNED_STACK" Bundle.steD) && decide (w ≠ .laysStatic Bundle.tN "SUPPRESSED_SENTINEL" Bundle.listD)
def vx_at0 (own : String) (ic : Nat) (X : String) (names : List String) : List Cond := (Bundle.ownAtoms0 own ic X names).filter vx_no
def vx_atS (own : String) (ic : Nat) (X : String) (names : List String) : List Cond := (Bundle.ownAtoms own ic X names).filter vx_no
/-- a word that the tables alone decide, or a good one -/
def vx_ot (w : Cond) : Bool := w.onTables || goodWord w
theorem vx_ot_at {args a' : Array Value} {s U : State} {w : Cond} (hW : s.WarmedH U.vm) (hvm : s.vm = U.vm) (hg : vx_ot w = true) (h : w.before args s = true) : w.before a' U = true := by
  simp only [vx_ot, Bool.or_eq_true] at hg
  rcases hg with hg | hg
  · exact va_tabs hg hvm h
  · exact word_at hW (good_of_word hg) h
/-- a list's words: the good ones out of the method's own list, the others by premises of their own -/
theorem vx_hat {args : Array Value} {s : State} {L B : List Cond} (h1 : ∀ w ∈ L.filter goodWord, w.before args s = true) (h2 : ∀ w ∈ L.filter (fun w => !goodWord w), w ∈ B) (h3 : ∀ w ∈ B, w.before args s = true) : ∀ w ∈ L, w.before args s = true := by
  intro w hw
  by_cases g : goodWord w = true
  · exact h1 w (List.mem_filter.mpr ⟨hw, g⟩)
  · refine h3 w (h2 w (List.mem_filter.mpr ⟨hw, ?_⟩))
    show (!goodWord w) = true
    cases hgw : goodWord w
    · rfl
    · exact absurd hgw g
theorem vx_c {args : Array Value} {s : State} {w : Cond} {B : List Cond} (h : w.before args s = true) (t : ∀ w ∈ B, w.before args s = true) : ∀ w' ∈ w :: B, w'.before args s = true := fun w' h' => (List.mem_cons.mp h').elim (fun e => by rw [e]; exact h) (t w')
theorem vx_n {args : Array Value} {s : State} : ∀ w ∈ ([] : List Cond), w.before args s = true := fun _ h => nomatch h
theorem vx_own {args : Array Value} {s : State} {L : List Cond} (h1 : ∀ w ∈ L.filter vx_no, w.before args s = true)
    (hU : (Cond.isRef (.static Bundle.tN "UNASSIGNED_STACK" Bundle.steD)).before args s = true) (hN : (Cond.isRef (.static Bundle.tN "SUPPRESSED_SENTINEL" Bundle.listD)).before args s = true)
    (lU : (Cond.laysStatic Bundle.tN "UNASSIGNED_STACK" Bundle.steD).before args s = true) (lN : (Cond.laysStatic Bundle.tN "SUPPRESSED_SENTINEL" Bundle.listD).before args s = true) : ∀ w ∈ L, w.before args s = true := by
  intro w hw
  by_cases e1 : w = .isRef (.static Bundle.tN "UNASSIGNED_STACK" Bundle.steD)
  · rw [e1]; exact hU
  · by_cases e2 : w = .isRef (.static Bundle.tN "SUPPRESSED_SENTINEL" Bundle.listD)
    · rw [e2]; exact hN
    · by_cases e3 : w = .laysStatic Bundle.tN "UNASSIGNED_STACK" Bundle.steD
      · rw [e3]; exact lU
      · by_cases e4 : w = .laysStatic Bundle.tN "SUPPRESSED_SENTINEL" Bundle.listD
        · rw [e4]; exact lN
        · exact h1 w (List.mem_filter.mpr ⟨hw, by unfold vx_no; rw [decide_eq_true e1, decide_eq_true e2, decide_eq_true e3, decide_eq_true e4]; rfl⟩)
/-- where a static field lies, its class's statics cell in H -/
def vx_L (C n d : String) (A : Nat → Prop) (U : State) (H : Heap) : Prop := ∃ (c : ClassId) (k : Class) (i : Nat) (f : Field) (a : Nat) (cell : Cell), U.vm.findClass C = some c ∧ U.fieldFound? C n d = some (c, k, i, f) ∧ f.isStatic = true ∧ k.statics = some a ∧ H[a]? = some cell ∧ cell.vm.isStatics = true ∧ cell.cls = c ∧ f.slot < cell.slots.size ∧ k.staticTypes[f.slot]? = some f.type ∧ ¬ A a
theorem vx_L.moved {C n d : String} {A : Nat → Prop} {u U : State} {H : Heap} (hvm : u.vm.Alike U.vm) (h : vx_L C n d A u H) : vx_L C n d A U H := by
  obtain ⟨c, k, i, f, a, cell, h1, h2, h3, h4, h5, h6, h7, h8, h9, h10⟩ := h
  obtain ⟨k', hi', he⟩ := State.fieldFound?_setVm hvm h2
  exact ⟨c, k', i, f, a, cell, by rw [hvm.findClass]; exact h1, hi', h3, by rw [he]; exact h4, h5, h6, h7, h8, by rw [he]; exact h9, h10⟩
theorem vx_L.kept {C n d : String} {A : Nat → Prop} {U : State} {H H1 : Heap} (h : vx_L C n d A U H) (hq : ∀ a : Nat, a < H.size → ¬ A a → H1[a]? = H[a]?) : vx_L C n d A U H1 := by
  obtain ⟨c, k, i, f, a, cell, h1, h2, h3, h4, h5, h6, h7, h8, h9, h10⟩ := h
  exact ⟨c, k, i, f, a, cell, h1, h2, h3, h4, by rw [hq a (Array.getElem?_eq_some_iff.mp h5).1 h10]; exact h5, h6, h7, h8, h9, h10⟩
theorem vx_L.narrow {C n d : String} {A B : Nat → Prop} {U : State} {H : Heap} (h : vx_L C n d A U H) (hAB : ∀ q, B q → A q) : vx_L C n d B U H := by
  obtain ⟨c, k, i, f, a, cell, h1, h2, h3, h4, h5, h6, h7, h8, h9, h10⟩ := h
  exact ⟨c, k, i, f, a, cell, h1, h2, h3, h4, h5, h6, h7, h8, h9, fun z => h10 (hAB _ z)⟩
theorem vx_L.word {C n d : String} {A : Nat → Prop} {s : State} {args : Array Value} (h : vx_L C n d A s s.heap) : (Cond.laysStatic C n d).before args s = true := by
  obtain ⟨c, k, i, f, a, cell, h1, h2, h3, h4, h5, h6, h7, h8, h9, -⟩ := h
  show (Cond.laysStatic C n d).holds args s none s [] = true
  exact Cond.laysStatic_of h1 h2 h3 h4 h5 h6 h7 h8 h9
/-- .. and what it holds: null or some reference -/
def vx_Zq (C n d : String) (A : Nat → Prop) (U : State) (H : Heap) : Prop := va_Zq C n d A U H ∧ vx_L C n d A U H
theorem vx_Zq.moved {C n d : String} {A : Nat → Prop} {u U : State} {H : Heap} (hvm : u.vm.Alike U.vm) (h : vx_Zq C n d A u H) : vx_Zq C n d A U H := ⟨va_Zq.moved hvm h.1, vx_L.moved hvm h.2⟩
theorem vx_Zq.kept {C n d : String} {A : Nat → Prop} {U : State} {H H1 : Heap} (h : vx_Zq C n d A U H) (hq : ∀ a : Nat, a < H.size → ¬ A a → H1[a]? = H[a]?) : vx_Zq C n d A U H1 := ⟨va_Zq.kept h.1 hq, vx_L.kept h.2 hq⟩
theorem vx_Zq.narrow {C n d : String} {A B : Nat → Prop} {U : State} {H : Heap} (h : vx_Zq C n d A U H) (hAB : ∀ q, B q → A q) : vx_Zq C n d B U H := ⟨va_Zq.narrow h.1 hAB, vx_L.narrow h.2 hAB⟩
theorem vx_Zqof {args : Array Value} {s : State} {C n d : String} {A : Nat → Prop} (hl : (Cond.laysStatic C n d).before args s = true) (hini : (Cond.initialized C).before args s = true) (h : (Cond.isRef (.static C n d)).before args s = true) (hA : ∀ a : Nat, a < s.heap.size → ¬ A a) : vx_Zq C n d A s s.heap := by
  refine ⟨va_Zqof hl hini h hA, ?_⟩
  obtain ⟨c, k, i, f, a, cell, h1, h2, h3, h4, h5, h6, h7, h8, h9⟩ := Cond.laysStatic_spec hl
  exact ⟨c, k, i, f, a, cell, h1, h2, h3, h4, h5, h6, h7, h8, h9, hA a (Array.getElem?_eq_some_iff.mp h5).1⟩
theorem vx_isRef {C n d : String} {v : Value} {A : Nat → Prop} {s : State} {args : Array Value} (h : va_Z C n d v A s s.heap) (hv : v.isRef = true) : (Cond.isRef (.static C n d)).before args s = true := by
  obtain ⟨cf, kf, fi, f, a, cell, h1, h2, h3, h4, h5, h6, h7, -⟩ := h
  have he : (Term.static C n d).eval args s none [] s = some v := by
    simp [Term.eval, State.fieldNamed?, h1, h2, h4, h5, h6, h7]
  simp only [Cond.before, Cond.holds, Cond.value, he]
  cases v <;> simp_all [Value.isRef]
theorem vx_isRefq {C n d : String} {A : Nat → Prop} {s : State} {args : Array Value} (h : va_Zq C n d A s s.heap) : (Cond.isRef (.static C n d)).before args s = true := by
  rcases h with h | ⟨t, h⟩
  · exact vx_isRef h rfl
  · exact vx_isRef h rfl
/-- the same frame, seen from here: as if the method were called anew in this heap -/
theorem vx_rebase {T : State} (X : Stand p l e R s m args below meth c T locs cells slots) {R' : Room} (hf : R'.frames ≤ R.frames) (hl : R'.locals ≤ R.locals) (hc : cells + R'.cells ≤ R.cells) (hs : slots + R'.slots ≤ R.slots) :
    Stand p l e R' ((T.setVm s.vm).setFrames (.invoking m args :: below)) m args below meth c T [] 0 0 := by
  have htop : (T.setVm s.vm).topJava?.isSome := X.here.top
  have hF : ((T.setVm s.vm).setFrames (.invoking m args :: below)).frames = .invoking m args :: below := State.frames_setFrames _ (State.cur_lt_of_top htop)
  obtain ⟨g₀, hg0⟩ := Option.isSome_iff_exists.mp htop
  obtain ⟨r, hr⟩ := State.topJava?_eq_some.mp hg0
  have hl9 : e.platform.stackLimits (T.setVm s.vm).me = e.platform.stackLimits s.me := X.limits
  have hb9 : (T.setVm s.vm).me.stackBytes = s.me.stackBytes := X.bytes
  refine ⟨X.admits, X.cas, X.clock, hF, ?_, X.hears, X.method, X.code, X.here, X.tail, X.warmed, ?_, ?_, ?_⟩
  · have h := X.room
    have hU : ((T.setVm s.vm).setFrames (.invoking m args :: below)).localsInUse = s.localsInUse := by
      rw [State.localsInUse_invoking hF (meth := meth) (c := c) X.method X.code, State.localsInUse_invoking X.frames X.method X.code]
    simp only [State.hasRoom, Bool.and_eq_true, decide_eq_true_eq] at h ⊢
    obtain ⟨⟨⟨⟨h1, h2, h3, h4, h5, h6⟩, h7⟩, h8⟩, h9⟩ := h
    rw [X.frames, List.length_cons] at h2 h3
    have q1 := X.heapSize
    have q2 := X.used
    simp only [hF, hU, List.length_cons, State.stackLimits_setFrames, State.stackBytes_setFrames, hl9, hb9]
    refine ⟨⟨⟨⟨by omega, by omega, by omega, by omega, by omega, h6⟩, ?_⟩, ?_⟩, X.book⟩
    · show T.heap.size + R'.cells ≤ e.platform.maxCells
      omega
    · show T.slotsUsed + R'.slots ≤ e.platform.maxSlots
      omega
  · rw [State.stackLimits_setFrames]; rfl
  · rw [State.stackBytes_setFrames]; rfl
  · refine ⟨?_, Nat.le_refl _, Nat.le_refl _, ?_, ?_, fun a c9 h9 => ⟨c9, h9, rfl, rfl, fun _ _ => rfl⟩⟩
    · obtain ⟨t, ht, -⟩ := State.frames_cons hr
      show T.setVm s.vm = { ((T.setVm s.vm).setFrames (.invoking m args :: below)).setFrames (T.setVm s.vm).frames with heap := T.heap, slotsUsed := T.slotsUsed }
      rw [State.setFrames_setFrames, State.setFrames_self ht]
      rfl
    · show T.slotsUsed = T.slotsUsed + ((T.heap.toList.drop T.heap.size).map (·.slots.size)).sum
      rw [List.drop_eq_nil_of_le (Nat.le_of_eq Array.length_toList)]
      rfl
    · show ((T.heap.toList.drop T.heap.size).map (·.slots.size)).sum ≤ 0
      rw [List.drop_eq_nil_of_le (Nat.le_of_eq Array.length_toList)]
      exact Nat.le_refl _
/-- 'throw new E()': new; dup; invokespecial; athrow -/
theorem vx_throw0 {cc : ByteArray} {pc : Nat} (hexec : p.tables.exec = Jvm.exec) (hb : c.code = cc) (hl : l.stackTraces = false) {own cls : String} {names : List String} {ik ic mc ms : Nat} {A : Nat → Prop}
    (hown : s.vm.findClass own = some m.cls) (hcls : Bundle.fit cls = true) (hnames : ∀ n ∈ names, Bundle.fit n = true)
    (hk : (Cond.classLink own ik cls).before args s = true) (hini : (Cond.initialized cls).before args s = true) (hat : ∀ w ∈ vx_at0 own ic cls names, w.before args s = true)
    (hgood : ∀ w ∈ Cond.classLink own ik cls :: Cond.initialized cls :: vx_at0 own ic cls names, vx_ot w = true)
    (hU : vx_Zq Bundle.tN "UNASSIGNED_STACK" Bundle.steD A s s.heap) (hN : vx_Zq Bundle.tN "SUPPRESSED_SENTINEL" Bundle.listD A s s.heap) (hS : va_S A s.heap H locs) (hsize : ls.size = c.maxLocals)
    (d0 : decode cc pc = .ok (.new ik, 3)) (d3 : decode cc (pc + 3) = .ok (.dup, 1)) (d4 : decode cc (pc + 4) = .ok (.invokespecial ic, 3)) (d7 : decode cc (pc + 7) = .ok (.athrow, 1))
    (hout : ∀ x ∈ c.exceptionTable.toList, covers x (pc + 7) = false)
    (hRframes : names.length + 3 < R.frames) (hRlocals : (rest.map fun v => v.category).sum + (13 * (names.length + 1) + 42) ≤ R.locals) (hRcells : cells + 1 ≤ R.cells) (hRslots : slots + 6 ≤ R.slots) (hlocks : meth.locks = false)
    (hx : ∀ t : State, s.vm.Alike t.vm → H.size ≤ t.heap.size → (∀ q : Nat, q < H.size → t.heap[q]? = H[q]?) → XC cls s t)
    (hf : ∀ z ∈ locs, free z.base) (hc : cells + 1 ≤ mc) (hs : slots + 6 ≤ ms) :
    W p l e R s m args below meth c H locs cells slots (vx_MQ below Qc XC args s mc ms free) (F0 m pc ls rest) := by
  intro T hT X
  have htr : e.platform.stackTraces = false := (show e.platform.stackTraces = l.stackTraces by rw [X.admits.platform]).trans hl
  have Y := vx_rebase X (R' := { frames := R.frames, locals := R.locals, cells := 1, slots := 6 }) (Nat.le_refl _) (Nat.le_refl _) hRcells hRslots
  obtain ⟨s', hA⟩ : ∃ z, z = (T.setVm s.vm).setFrames (.invoking m args :: below) := ⟨_, rfl⟩
  rw [← hA] at Y
  have hvm : s'.vm = s.vm := by rw [hA]; rfl
  have hhp : s'.heap = H := by rw [hA]; exact hT
  have hW0 : s.WarmedH s'.vm := by rw [hvm]; exact State.WarmedH.refl s
  have hat' : ∀ w ∈ vx_at0 own ic cls names, w.before args s' = true := fun w hw => vx_ot_at hW0 hvm.symm (hgood w (List.mem_cons_of_mem _ (List.mem_cons_of_mem _ hw))) (hat w hw)
  have hk' : (Cond.classLink own ik cls).before args s' = true := vx_ot_at hW0 hvm.symm (hgood _ List.mem_cons_self) hk
  have hini' : (Cond.initialized cls).before args s' = true := vx_ot_at hW0 hvm.symm (hgood _ (List.mem_cons_of_mem _ List.mem_cons_self)) hini
  have hU' : vx_Zq Bundle.tN "UNASSIGNED_STACK" Bundle.steD A s' s'.heap := by rw [hhp]; exact vx_Zq.moved hW0.alike (hU.kept hS.2.1)
  have hN' : vx_Zq Bundle.tN "SUPPRESSED_SENTINEL" Bundle.listD A s' s'.heap := by rw [hhp]; exact vx_Zq.moved hW0.alike (hN.kept hS.2.1)
  have h : ∀ w ∈ Bundle.ownAtoms0 own ic cls names, w.before args s' = true := vx_own hat' (vx_isRefq hU'.1) (vx_isRefq hN'.1) hU'.2.word hN'.2.word
  have hown' : s'.vm.findClass own = some m.cls := by rw [hvm]; exact hown
  have hins : (Cond.instantiable cls 6).before args s' = true := h _ (by simp [Bundle.ownAtoms0])
  obtain ⟨vm₁, cX, kX, hfX, hkX, -, -, X₁, st1⟩ := Y.newCold hexec (own := own) (C := cls) (index := ik) (n := 6) hown' hk' hins hini'
    (g := F0 m pc ls rest) rfl (by rw [hb]; exact d0) (Nat.le_refl _) (Nat.le_refl _)
  generalize hT1 : (T.setVm vm₁).pushCell { cls := cX, slots := kX.instanceTypes.map defaultValue, vm := .none } = T1 at X₁ st1
  have hcat : (Value.ref T.heap.size).category = 1 := rfl
  have hcellA : T1.heap[T.heap.size]? = some (freshCell cX kX) := by rw [← hT1]; exact State.heap_pushCell_size _ _
  have d3' : decode c.code (pc + 3) = .ok (.dup, 1) := by rw [hb]; exact d3
  obtain ⟨U, hsteps, hrun, hend, hW, hsame, ce, hce, hO⟩ := X₁.ctorThrow0 hexec htr (own := own) (cls := cls) (names := names) (ic := ic) hown' hcls hnames h (fun x hx => nomatch hx) hfX hkX hcellA (by rw [hhp, hT]; exact Nat.le_refl _)
    (g := { method := m, pc := pc + 4, locals := ls, stack := .ref T.heap.size :: .ref T.heap.size :: rest, locked := none }) rfl hsize rfl rfl (rest := rest) rfl
    (by rw [hb]; exact d4) (by rw [hb]; exact d7) hout hRframes (by simp only [List.map_cons, List.sum_cons, hcat]; omega) hlocks
  obtain ⟨f1, f2⟩ := vx_frame hsame
  rw [hhp] at f1 f2
  have hWs : s.WarmedH U.vm := State.WarmedH.trans hW0 hW
  have hcl : s.vm.findClass cls = some ce.cls := by
    have h9 := hO.cls
    rw [hvm] at h9
    exact h9
  have hall : s.sameButNew ({ U with vm := s.vm } : State) locs mc ms := by
    subst hA
    obtain ⟨e1, e2⟩ := hsame
    rw [State.setFrames_setFrames] at e1
    have h2 : (T.setVm s.vm).sameButNew ({ U with vm := s.vm } : State) [] (0 + 1) (0 + 6) := ⟨e1, e2⟩
    have h3 := X.same.trans h2
    rw [List.append_nil] at h3
    exact h3.mono hc hs
  refine ⟨U, ?_, .threw T.heap.size, hrun, hend, Or.inr ⟨T.heap.size, rfl, cls, ce, locs, hx U hWs.alike f1 (fun q hq => f2 q hq (fun z hz => nomatch hz)), hce, hO.vm, hcl, hWs, hall, hf⟩⟩
  refine st1 _ ?_
  show Steps p.tables e below (T1.setTop { method := m, pc := pc + 3, locals := ls, stack := .ref T.heap.size :: rest, locked := none }) _
  jvm_step X₁.here [X₁.here.top, hexec, d3', Value.category]
  exact hsteps
/-- 'throw new E("text")': new; dup; ldc; invokespecial; athrow -/
theorem vx_throwS {cc : ByteArray} {pc : Nat} (hexec : p.tables.exec = Jvm.exec) (hb : c.code = cc) (hl : l.stackTraces = false) {own cls text : String} {names : List String} {ik is ic mc ms sa : Nat} {A : Nat → Prop}
    (hown : s.vm.findClass own = some m.cls) (hcls : Bundle.fit cls = true) (hnames : ∀ n ∈ names, Bundle.fit n = true)
    (hk : (Cond.classLink own ik cls).before args s = true) (hini : (Cond.initialized cls).before args s = true) (hstr : vk_R own is text sa s) (hat : ∀ w ∈ vx_atS own ic cls names, w.before args s = true)
    (hgood : ∀ w ∈ Cond.classLink own ik cls :: Cond.initialized cls :: vx_atS own ic cls names, vx_ot w = true)
    (hU : vx_Zq Bundle.tN "UNASSIGNED_STACK" Bundle.steD A s s.heap) (hN : vx_Zq Bundle.tN "SUPPRESSED_SENTINEL" Bundle.listD A s s.heap) (hS : va_S A s.heap H locs) (hsize : ls.size = c.maxLocals)
    (d0 : decode cc pc = .ok (.new ik, 3)) (d3 : decode cc (pc + 3) = .ok (.dup, 1)) (d4 : decode cc (pc + 4) = .ok (.ldc is, 2)) (d6 : decode cc (pc + 6) = .ok (.invokespecial ic, 3)) (d9 : decode cc (pc + 9) = .ok (.athrow, 1))
    (hout : ∀ x ∈ c.exceptionTable.toList, covers x (pc + 9) = false)
    (hRframes : names.length + 3 < R.frames) (hRlocals : (rest.map fun v => v.category).sum + (13 * (names.length + 1) + 43) ≤ R.locals) (hRcells : cells + 1 ≤ R.cells) (hRslots : slots + 6 ≤ R.slots) (hlocks : meth.locks = false)
    (hx : ∀ t : State, s.vm.Alike t.vm → H.size ≤ t.heap.size → (∀ q : Nat, q < H.size → t.heap[q]? = H[q]?) → XC cls s t)
    (hf : ∀ z ∈ locs, free z.base) (hc : cells + 1 ≤ mc) (hs : slots + 6 ≤ ms) :
    W p l e R s m args below meth c H locs cells slots (vx_MQ below Qc XC args s mc ms free) (F0 m pc ls rest) := by
  intro T hT X
  have htr : e.platform.stackTraces = false := (show e.platform.stackTraces = l.stackTraces by rw [X.admits.platform]).trans hl
  have Y := vx_rebase X (R' := { frames := R.frames, locals := R.locals, cells := 1, slots := 6 }) (Nat.le_refl _) (Nat.le_refl _) hRcells hRslots
  obtain ⟨s', hA⟩ : ∃ z, z = (T.setVm s.vm).setFrames (.invoking m args :: below) := ⟨_, rfl⟩
  rw [← hA] at Y
  have hvm : s'.vm = s.vm := by rw [hA]; rfl
  have hhp : s'.heap = H := by rw [hA]; exact hT
  have hW0 : s.WarmedH s'.vm := by rw [hvm]; exact State.WarmedH.refl s
  have hat' : ∀ w ∈ vx_atS own ic cls names, w.before args s' = true := fun w hw => vx_ot_at hW0 hvm.symm (hgood w (List.mem_cons_of_mem _ (List.mem_cons_of_mem _ hw))) (hat w hw)
  have hk' : (Cond.classLink own ik cls).before args s' = true := vx_ot_at hW0 hvm.symm (hgood _ List.mem_cons_self) hk
  have hini' : (Cond.initialized cls).before args s' = true := vx_ot_at hW0 hvm.symm (hgood _ (List.mem_cons_of_mem _ List.mem_cons_self)) hini
  have hU' : vx_Zq Bundle.tN "UNASSIGNED_STACK" Bundle.steD A s' s'.heap := by rw [hhp]; exact vx_Zq.moved hW0.alike (hU.kept hS.2.1)
  have hN' : vx_Zq Bundle.tN "SUPPRESSED_SENTINEL" Bundle.listD A s' s'.heap := by rw [hhp]; exact vx_Zq.moved hW0.alike (hN.kept hS.2.1)
  have h : ∀ w ∈ Bundle.ownAtoms own ic cls names, w.before args s' = true := vx_own hat' (vx_isRefq hU'.1) (vx_isRefq hN'.1) hU'.2.word hN'.2.word
  have hown' : s'.vm.findClass own = some m.cls := by rw [hvm]; exact hown
  have hins : (Cond.instantiable cls 6).before args s' = true := h _ (by simp [Bundle.ownAtoms])
  obtain ⟨vm₁, cX, kX, hfX, hkX, -, -, X₁, st1⟩ := Y.newCold hexec (own := own) (C := cls) (index := ik) (n := 6) hown' hk' hins hini'
    (g := F0 m pc ls rest) rfl (by rw [hb]; exact d0) (Nat.le_refl _) (Nat.le_refl _)
  generalize hT1 : (T.setVm vm₁).pushCell { cls := cX, slots := kX.instanceTypes.map defaultValue, vm := .none } = T1 at X₁ st1
  have hcat : (Value.ref T.heap.size).category = 1 := rfl
  have hcellA : T1.heap[T.heap.size]? = some (freshCell cX kX) := by rw [← hT1]; exact State.heap_pushCell_size _ _
  have d3' : decode c.code (pc + 3) = .ok (.dup, 1) := by rw [hb]; exact d3
  have d4' : decode c.code (pc + 4) = .ok (.ldc is, 2) := by rw [hb]; exact d4
  have hstr' : vk_R own is text sa s' := vk_R.warm hW0 hstr
  obtain ⟨U, hsteps, hrun, hend, hW, hsame, ce, hce, hO⟩ := X₁.ctorThrowS hexec htr (own := own) (cls := cls) (names := names) (ic := ic) hown' hcls hnames h (fun x hx => nomatch hx) hfX hkX hcellA (by rw [hhp, hT]; exact Nat.le_refl _) (msg := .ref sa) rfl
    (g := { method := m, pc := pc + 6, locals := ls, stack := .ref sa :: .ref T.heap.size :: .ref T.heap.size :: rest, locked := none }) rfl hsize rfl rfl (rest := rest) rfl
    (by rw [hb]; exact d6) (by rw [hb]; exact d9) hout hRframes (by simp only [List.map_cons, List.sum_cons, hcat]; omega) hlocks
  obtain ⟨f1, f2⟩ := vx_frame hsame
  rw [hhp] at f1 f2
  have hWs : s.WarmedH U.vm := State.WarmedH.trans hW0 hW
  have hcl : s.vm.findClass cls = some ce.cls := by
    have h9 := hO.cls
    rw [hvm] at h9
    exact h9
  have hall : s.sameButNew ({ U with vm := s.vm } : State) locs mc ms := by
    subst hA
    obtain ⟨e1, e2⟩ := hsame
    rw [State.setFrames_setFrames] at e1
    have h2 : (T.setVm s.vm).sameButNew ({ U with vm := s.vm } : State) [] (0 + 1) (0 + 6) := ⟨e1, e2⟩
    have h3 := X.same.trans h2
    rw [List.append_nil] at h3
    exact h3.mono hc hs
  refine ⟨U, ?_, .threw T.heap.size, hrun, hend, Or.inr ⟨T.heap.size, rfl, cls, ce, locs, hx U hWs.alike f1 (fun q hq => f2 q hq (fun z hz => nomatch hz)), hce, hO.vm, hcl, hWs, hall, hf⟩⟩
  refine st1 _ ?_
  show Steps p.tables e below (T1.setTop { method := m, pc := pc + 3, locals := ls, stack := .ref T.heap.size :: rest, locked := none }) _
  jvm_step X₁.here [X₁.here.top, hexec, d3', Value.category]
  exact X₁.ldcString hexec (own := own) (text := text) (index := is) (a := sa) hown' hstr'.1 hstr'.2
    (g := { method := m, pc := pc + 4, locals := ls, stack := .ref T.heap.size :: .ref T.heap.size :: rest, locked := none }) rfl d4' _ hsteps
/-- 'throw new E("text")', the text by a wide index -/
theorem vx_throwSW {cc : ByteArray} {pc : Nat} (hexec : p.tables.exec = Jvm.exec) (hb : c.code = cc) (hl : l.stackTraces = false) {own cls text : String} {names : List String} {ik is ic mc ms sa : Nat} {A : Nat → Prop}
    (hown : s.vm.findClass own = some m.cls) (hcls : Bundle.fit cls = true) (hnames : ∀ n ∈ names, Bundle.fit n = true)
    (hk : (Cond.classLink own ik cls).before args s = true) (hini : (Cond.initialized cls).before args s = true) (hstr : vk_R own is text sa s) (hat : ∀ w ∈ vx_atS own ic cls names, w.before args s = true)
    (hgood : ∀ w ∈ Cond.classLink own ik cls :: Cond.initialized cls :: vx_atS own ic cls names, vx_ot w = true)
    (hU : vx_Zq Bundle.tN "UNASSIGNED_STACK" Bundle.steD A s s.heap) (hN : vx_Zq Bundle.tN "SUPPRESSED_SENTINEL" Bundle.listD A s s.heap) (hS : va_S A s.heap H locs) (hsize : ls.size = c.maxLocals)
    (d0 : decode cc pc = .ok (.new ik, 3)) (d3 : decode cc (pc + 3) = .ok (.dup, 1)) (d4 : decode cc (pc + 4) = .ok (.ldc_w is, 3)) (d7 : decode cc (pc + 7) = .ok (.invokespecial ic, 3)) (d10 : decode cc (pc + 10) = .ok (.athrow, 1))
    (hout : ∀ x ∈ c.exceptionTable.toList, covers x (pc + 10) = false)
    (hRframes : names.length + 3 < R.frames) (hRlocals : (rest.map fun v => v.category).sum + (13 * (names.length + 1) + 43) ≤ R.locals) (hRcells : cells + 1 ≤ R.cells) (hRslots : slots + 6 ≤ R.slots) (hlocks : meth.locks = false)
    (hx : ∀ t : State, s.vm.Alike t.vm → H.size ≤ t.heap.size → (∀ q : Nat, q < H.size → t.heap[q]? = H[q]?) → XC cls s t)
    (hf : ∀ z ∈ locs, free z.base) (hc : cells + 1 ≤ mc) (hs : slots + 6 ≤ ms) :
    W p l e R s m args below meth c H locs cells slots (vx_MQ below Qc XC args s mc ms free) (F0 m pc ls rest) := by
  intro T hT X
  have htr : e.platform.stackTraces = false := (show e.platform.stackTraces = l.stackTraces by rw [X.admits.platform]).trans hl
  have Y := vx_rebase X (R' := { frames := R.frames, locals := R.locals, cells := 1, slots := 6 }) (Nat.le_refl _) (Nat.le_refl _) hRcells hRslots
  obtain ⟨s', hA⟩ : ∃ z, z = (T.setVm s.vm).setFrames (.invoking m args :: below) := ⟨_, rfl⟩
  rw [← hA] at Y
  have hvm : s'.vm = s.vm := by rw [hA]; rfl
  have hhp : s'.heap = H := by rw [hA]; exact hT
  have hW0 : s.WarmedH s'.vm := by rw [hvm]; exact State.WarmedH.refl s
  have hat' : ∀ w ∈ vx_atS own ic cls names, w.before args s' = true := fun w hw => vx_ot_at hW0 hvm.symm (hgood w (List.mem_cons_of_mem _ (List.mem_cons_of_mem _ hw))) (hat w hw)
  have hk' : (Cond.classLink own ik cls).before args s' = true := vx_ot_at hW0 hvm.symm (hgood _ List.mem_cons_self) hk
  have hini' : (Cond.initialized cls).before args s' = true := vx_ot_at hW0 hvm.symm (hgood _ (List.mem_cons_of_mem _ List.mem_cons_self)) hini
  have hU' : vx_Zq Bundle.tN "UNASSIGNED_STACK" Bundle.steD A s' s'.heap := by rw [hhp]; exact vx_Zq.moved hW0.alike (hU.kept hS.2.1)
  have hN' : vx_Zq Bundle.tN "SUPPRESSED_SENTINEL" Bundle.listD A s' s'.heap := by rw [hhp]; exact vx_Zq.moved hW0.alike (hN.kept hS.2.1)
  have h : ∀ w ∈ Bundle.ownAtoms own ic cls names, w.before args s' = true := vx_own hat' (vx_isRefq hU'.1) (vx_isRefq hN'.1) hU'.2.word hN'.2.word
  have hown' : s'.vm.findClass own = some m.cls := by rw [hvm]; exact hown
  have hins : (Cond.instantiable cls 6).before args s' = true := h _ (by simp [Bundle.ownAtoms])
  obtain ⟨vm₁, cX, kX, hfX, hkX, -, -, X₁, st1⟩ := Y.newCold hexec (own := own) (C := cls) (index := ik) (n := 6) hown' hk' hins hini'
    (g := F0 m pc ls rest) rfl (by rw [hb]; exact d0) (Nat.le_refl _) (Nat.le_refl _)
  generalize hT1 : (T.setVm vm₁).pushCell { cls := cX, slots := kX.instanceTypes.map defaultValue, vm := .none } = T1 at X₁ st1
  have hcat : (Value.ref T.heap.size).category = 1 := rfl
  have hcellA : T1.heap[T.heap.size]? = some (freshCell cX kX) := by rw [← hT1]; exact State.heap_pushCell_size _ _
  have d3' : decode c.code (pc + 3) = .ok (.dup, 1) := by rw [hb]; exact d3
  have d4' : decode c.code (pc + 4) = .ok (.ldc_w is, 3) := by rw [hb]; exact d4
  have hstr' : vk_R own is text sa s' := vk_R.warm hW0 hstr
  obtain ⟨U, hsteps, hrun, hend, hW, hsame, ce, hce, hO⟩ := X₁.ctorThrowS hexec htr (own := own) (cls := cls) (names := names) (ic := ic) hown' hcls hnames h (fun x hx => nomatch hx) hfX hkX hcellA (by rw [hhp, hT]; exact Nat.le_refl _) (msg := .ref sa) rfl
    (g := { method := m, pc := pc + 7, locals := ls, stack := .ref sa :: .ref T.heap.size :: .ref T.heap.size :: rest, locked := none }) rfl hsize rfl rfl (rest := rest) rfl
    (by rw [hb]; exact d7) (by rw [hb]; exact d10) hout hRframes (by simp only [List.map_cons, List.sum_cons, hcat]; omega) hlocks
  obtain ⟨f1, f2⟩ := vx_frame hsame
  rw [hhp] at f1 f2
  have hWs : s.WarmedH U.vm := State.WarmedH.trans hW0 hW
  have hcl : s.vm.findClass cls = some ce.cls := by
    have h9 := hO.cls
    rw [hvm] at h9
    exact h9
  have hall : s.sameButNew ({ U with vm := s.vm } : State) locs mc ms := by
    subst hA
    obtain ⟨e1, e2⟩ := hsame
    rw [State.setFrames_setFrames] at e1
    have h2 : (T.setVm s.vm).sameButNew ({ U with vm := s.vm } : State) [] (0 + 1) (0 + 6) := ⟨e1, e2⟩
    have h3 := X.same.trans h2
    rw [List.append_nil] at h3
    exact h3.mono hc hs
  refine ⟨U, ?_, .threw T.heap.size, hrun, hend, Or.inr ⟨T.heap.size, rfl, cls, ce, locs, hx U hWs.alike f1 (fun q hq => f2 q hq (fun z hz => nomatch hz)), hce, hO.vm, hcl, hWs, hall, hf⟩⟩
  refine st1 _ ?_
  show Steps p.tables e below (T1.setTop { method := m, pc := pc + 3, locals := ls, stack := .ref T.heap.size :: rest, locked := none }) _
  jvm_step X₁.here [X₁.here.top, hexec, d3', Value.category]
  exact X₁.ldcStringW hexec (own := own) (text := text) (index := is) (a := sa) hown' hstr'.1 hstr'.2
    (g := { method := m, pc := pc + 4, locals := ls, stack := .ref T.heap.size :: .ref T.heap.size :: rest, locked := none }) rfl d4' _ hsteps
end Ends
section Bodies
variable {l : Launch}
theorem vx_ofW {y : MethodName} {ws ws' : List Cond} {rm : Room} {Pc : Array Value → State → Prop} {Qc : Array Value → State → Outcome → State → Prop} {XC : String → State → State → Prop} {mc ms : Nat} {free : Addr → Prop} {cc : ByteArray} {maxL : Nat} {ret : Option FieldType}
    (hy : plainName y.cls = true) (hw : ws = Cond.code y cc maxL ret :: ws')
    (body : ∀ p e s m args below meth c s₁, BodyLoose p l y (headSpec ws rm) cc maxL ret e s m args below meth c s₁ → c.maxLocals = maxL → (∀ x ∈ c.exceptionTable.toList, False) → Pc args s →
      W p l e (headSpec ws rm).room s m args below meth c s.heap [] 0 0 (vx_MQ below Qc XC args s mc ms free) (entryFrame m args maxL)) : vx_Met l y ws rm Pc Qc XC mc ms free := by
  refine MetFree.of_bodyS (code := cc) (maxLocals := maxL) (ret := ret) hy ?_ ?_
  · intro args s m h hn
    obtain ⟨meth, c, h1, h2, h3, h4, h5, h6, -, -⟩ := Cond.code_spec hn (atoms_spec (ws := ws) h _ (by rw [hw]; exact List.mem_cons_self))
    exact ⟨meth, c, h1, h2, h3, h4, h5, h6⟩
  · intro p e s m args below meth c s₁ B hml hP _
    have hh0 : s₁.heap = s.heap := by rw [B.state]; rfl
    have ht : ∀ x ∈ c.exceptionTable.toList, False := by
      obtain ⟨meth9, c9, h1, h2, -, -, -, -, h7, -⟩ := Cond.code_spec B.named (atoms_spec (ws := ws) B.pre _ (by rw [hw]; exact List.mem_cons_self))
      cases Option.some.inj (h1.symm.trans B.method)
      cases Option.some.inj (h2.symm.trans (Stand.of_body B).code)
      intro x hx
      rw [Array.isEmpty_iff.mp h7] at hx
      cases hx
    obtain ⟨t, a1, o, b1, b2, b3⟩ := body p e s m args below meth c s₁ B hml ht hP s₁ hh0 (Stand.of_body B)
    exact ⟨t, o, a1, b1, b2, b3⟩
/-- the table of a body with handlers -/
theorem vx_table {p : Program} {x y : MethodName} {S : Spec} {cc bytes : ByteArray} {maxL maxL' : Nat} {ret ret' : Option FieldType} {e : Env} {s s₁ : State} {m : MethodId} {args : Array Value} {below : List Frame} {meth : Method} {c : Code} {hh : List (Nat × Nat × Nat × Nat)}
    (B : BodyLoose p l y S cc maxL ret e s m args below meth c s₁) (h : (Cond.codeWith y bytes maxL' ret' hh).before args s = true) : c.exceptionTable.toList = tableOf hh := by
  obtain ⟨m9, meth9, c9, hn9, h1, h2, -, -, h6, -⟩ := Cond.codeWith_spec h
  cases Option.some.inj (hn9.symm.trans B.named)
  cases Option.some.inj (h1.symm.trans B.method)
  cases Option.some.inj (h2.symm.trans (Stand.of_body B).code)
  rw [← h6, table_eq]
end Bodies
end VXA
/-! ===== END ===== -/
/-! ===== BEGIN a static call of a method with an exception table ===== -/
section VXS
variable {p : Program} {l : Launch} {e : Env} {R : Room} {s : State} {m : MethodId} {args : Array Value} {below : List Frame} {meth : Method} {c : Code} {T : State} {H : Heap} {locs : List Loc} {cells slots : Nat}
abbrev vx_CSW (R : Room) (s : State) (args : Array Value) (own : String) (index : Nat) (y : MethodName) (bytes : ByteArray) (maxL : Nat) (ret : Option FieldType) (hh : List (Nat × Nat × Nat × Nat)) (ws : List Cond) (rm : Room) (mc ms n : Nat) : Prop :=
  (rm.cells = mc ∧ rm.slots = ms ∧ rm.frames + 1 ≤ R.frames ∧ 8 + (maxL + 11) + rm.locals ≤ R.locals ∧ (∀ w ∈ ws, ∀ (a' : Array Value) (U : State), s.WarmedH U.vm → w.before a' U = true) ∧ Cond.codeWith y bytes maxL ret hh ∈ ws) ∧
  (Cond.codeWith y bytes maxL ret hh).before args s = true ∧ (Cond.initialized y.cls).before args s = true ∧ (y.cls ≠ "java/lang/invoke/MethodHandle" ∧ y.cls ≠ "java/lang/invoke/VarHandle") ∧
  (∀ sig, parseMethodDescriptor y.desc = some sig → n = sig.parameters.length) ∧ (Cond.methodLink own index y).before args s = true ∧ (Cond.static y).before args s = true
theorem vx_cwSW {own : String} {index maxL mc ms : Nat} {y : MethodName} {bytes : ByteArray} {ret : Option FieldType} {hh : List (Nat × Nat × Nat × Nat)} {Ts ws ws' : List Cond} {rm : Room} (n : Nat) (ht : ∀ w ∈ Ts, w.before args s = true) (hT : GoodIn Ts (va_wsS own index y ws)) (hw : ws = Cond.codeWith y bytes maxL ret hh :: ws') (hrc : rm.cells = mc) (hrs : rm.slots = ms)
    (hd : y.cls ≠ "java/lang/invoke/MethodHandle" ∧ y.cls ≠ "java/lang/invoke/VarHandle" ∧ (parseMethodDescriptor y.desc).map (fun d => d.parameters.length) = some n) (hR : rm.frames + 1 ≤ R.frames ∧ 8 + (maxL + 11) + rm.locals ≤ R.locals) :
    vx_CSW R s args own index y bytes maxL ret hh ws rm mc ms n := by
  have ok : ∀ w ∈ va_wsS own index y ws, w.before args s = true := fun w h => ht w (hT w h).1
  have hG : GoodIn Ts ws := fun w h => hT w (by unfold va_wsS; exact List.mem_append_right _ h)
  have hc : Cond.codeWith y bytes maxL ret hh ∈ ws := by rw [hw]; exact List.mem_cons_self
  refine ⟨⟨hrc, hrs, hR.1, hR.2, pay_in ht hG, hc⟩, ht _ (hG _ hc).1, ok _ (by simp [va_wsS]), ⟨hd.1, hd.2.1⟩, fun sig h => ?_, ok _ (by simp [va_wsS]), ok _ (by simp [va_wsS])⟩
  have h2 := hd.2.2
  rw [h] at h2
  exact (Option.some.inj h2).symm
theorem vx_callSW (X : Stand p l e R s m args below meth c T locs cells slots) (hexec : p.tables.exec = Jvm.exec) {own : String} {index : Nat} {y : MethodName} {bytes : ByteArray} {maxL : Nat} {ret : Option FieldType} {hh : List (Nat × Nat × Nat × Nat)}
    (hown : s.vm.findClass own = some m.cls) (hlink : (Cond.methodLink own index y).before args s = true) (hstat : (Cond.static y).before args s = true) (hinit : (Cond.initialized y.cls).before args s = true)
    (hcode : (Cond.codeWith y bytes maxL ret hh).before args s = true) (hy : y.cls ≠ "java/lang/invoke/MethodHandle" ∧ y.cls ≠ "java/lang/invoke/VarHandle")
    {W9 : Nat} {Pre : Pt → Array Value → Prop} {Post : Pt → Array Value → Option Value → Pt → Prop} (hK : Back l R p e below s args y 3 W9 Pre Post)
    {g : JFrame} (hg : g.method = m) (hsize : g.locals.size = c.maxLocals) {argsL rest : List Value} (hlen : ∀ sig, parseMethodDescriptor y.desc = some sig → argsL.length = sig.parameters.length)
    (hstack : g.stack = argsL.reverse ++ rest) (hW : 2 * g.monitorRoom + (rest.map fun v => v.category).sum ≤ W9) (hdg : decode c.code g.pc = .ok (.invokestatic index, 3))
    (hpre : ∀ vm₁, s.WarmedH vm₁ → Pre ⟨T.setVm vm₁, locs, cells, slots⟩ argsL.toArray) :
    ∃ (v : Option Value) (vm₁ : Vm) (B : Pt), s.WarmedH vm₁ ∧ Stand p l e R s m args below meth c B.U B.locs B.cells B.slots ∧ Post ⟨T.setVm vm₁, locs, cells, slots⟩ argsL.toArray v B ∧
      ∀ target, Steps p.tables e below (B.U.setTop { g with pc := g.pc + 3, stack := v.toList ++ rest }) target → Steps p.tables e below (T.setTop g) target := by
  obtain ⟨mk, methM, cM, hnamed, hmethM, -, -, -, -, -, -, hsigM⟩ := Cond.codeWith_spec hcode
  have hstatic : methM.isStatic = true := Cond.static_spec hnamed hmethM hstat
  obtain ⟨kP, hkP, -⟩ := className_of_methodNamed hnamed
  have hinitP : kP.init = .initialized := Cond.initialized_spec (findClass_of_methodNamed hnamed) hkP hinit
  obtain ⟨vm₁, X₁, hstep₁⟩ := X.invokestatic hexec hown hlink hnamed hmethM hstatic hkP hinitP hy (g := g) hg (argsL := argsL) (rest := rest) (hlen _ hsigM) hstack hdg
  obtain ⟨v, B, X', hpost, hsteps⟩ := hK m meth c ⟨T.setVm vm₁, locs, cells, slots⟩ { g with stack := rest } (.invokestatic index) mk argsL.toArray X₁ hg hsize hdg hW (X₁.named hnamed) (hpre vm₁ X₁.warmed)
  exact ⟨v, vm₁, B, X₁.warmed, X', hpost, fun target h => hstep₁ _ fun acts => by rw [doInvoke_state]; exact hsteps.trans h⟩
theorem vx_runSW {y : MethodName} {bytes cc : ByteArray} {maxL nL mc ms n index : Nat} {ret : Option FieldType} {hh : List (Nat × Nat × Nat × Nat)} {ws : List Cond} {rm : Room} {Pc : Array Value → State → Prop} {Qc : Array Value → State → Outcome → State → Prop} {free : Addr → Prop} {Ts : List Cond} {own : String} {As rest : List Value} {g : JFrame}
    (S : CallFix p m c cc nL s args Ts own) (hM : Met l y ws rm Pc Qc mc ms free) (cw : vx_CSW R s args own index y bytes maxL ret hh ws rm mc ms n) (hp : PreS s H Pc As)
    (hg : g.method = m) (hn : As.length = n) (hsize : g.locals.size = nL) (hstack : g.stack = As.reverse ++ rest) (hW : 2 * g.monitorRoom + (rest.map fun v => v.category).sum ≤ 8) (hdg : decode cc g.pc = .ok (.invokestatic index, 3)) (hf : cells + mc ≤ R.cells ∧ slots + ms ≤ R.slots) :
    va_Run p l e R s m args below meth c H locs cells slots mc ms g rest (Qc As.toArray) (free) := by
  obtain ⟨⟨hrc, hrs, hfr, hlo, hws, hcw⟩, hcode, hini, hy, hlen, hl, hstt⟩ := cw
  have hK : Back l R p e below s args y 3 8 (PreOf R mc ms Pc) (PostOf Qc mc ms free) := va_backW (hh := hh) (bytes := bytes) (maxL := maxL) (ret := ret) hM hp.1 hrc hrs hfr hlo hws hcw (fun a' U hW => word_at hW (Or.inl (by first | rfl | simp [Cond.onTables, Cond.keeps, Cond.steady])) hini)
  obtain ⟨hx, hb, hml, ho, -⟩ := S
  intro T hT X
  obtain ⟨v, vm₁, ⟨U', l2, c2, s2⟩, hW₁, X', ⟨g', mk, t, L, e1, e2, hq, h1, hL, h2, h3⟩, st⟩ := vx_callSW X hx (hh := hh) (bytes := bytes) (maxL := maxL) (ret := ret) ho hl hstt hini hcode hy hK hg (hsize.trans hml.symm) (argsL := As) (rest := rest) (fun sig h => hn.trans (hlen sig h)) hstack hW (by rw [hb]; exact hdg)
    (fun vm₁ hW₁ => ⟨hf.1, hf.2, hp.2 (T.setVm vm₁) hT hW₁⟩)
  dsimp only [Pt.U, Pt.locs, Pt.cells, Pt.slots] at X' e1 e2 h1 h2 h3 st
  subst h1; subst h2; subst h3
  exact ⟨v, (T.setVm vm₁).calling g' mk As.toArray, t, U', L, hT, X', hL, e1, e2, hq, st⟩
/-- not caught here, past rows that name other classes: it goes on to the caller -/
theorem vx_outP {p : Program} {l : Launch} {e : Env} {R : Room} {s : State} {m : MethodId} {args : Array Value} {below : List Frame} {meth : Method} {c : Code} {H : Heap} {locs : List Loc} {cells slots : Nat} {free : Addr → Prop} {ls : Array Slot} {rest : List Value} {Qc : Array Value → State → Outcome → State → Prop} {XC : String → State → State → Prop}
    {pc : Nat} {own E : String} {ce : Cell} {q : Addr} {mc ms : Nat} (hown : s.vm.findClass own = some m.cls) (hlocks : meth.locks = false)
    (hpass : ∀ z ∈ c.exceptionTable.toList, covers z pc = false ∨ (z.catchType ≠ 0 ∧ ∃ nm : String, (Cond.classLink own z.catchType nm).before args s = true ∧ va_Nc E nm s)) (hcell : H[q]? = some ce) (hv : ce.vm = .none) (hcl : s.vm.findClass E = some ce.cls)
    (hx : ∀ t : State, t.heap = H → s.vm.Alike t.vm → XC E s t) (hf : ∀ z ∈ locs, free z.base) (hc : cells ≤ mc) (hs : slots ≤ ms) :
    vx_W p l e R s m args below meth c H locs cells slots (vx_MQ below Qc XC args s mc ms free) (F0 m pc ls rest) q := by
  intro T hT X
  have hpl : e.platform.magicAccessors = ({} : Platform).magicAccessors := by rw [X.admits.platform]
  obtain ⟨vm', hW', X', st⟩ := X.outThrough hlocks q (g := F0 m pc ls rest) rfl rfl rfl (cell := ce) (by rw [hT]; exact hcell) (by rw [hv]; rfl)
    (by obtain ⟨k9, h9, -⟩ := Vm.findClass_spec hcl; exact ⟨k9, h9⟩) (fun z hz => by
      rcases hpass z hz with h | ⟨hz0, nm, hl1, hn1⟩
      · exact Or.inl h
      · obtain ⟨c6, hc6, hcl6⟩ := Cond.classLink_spec hown hl1 e.platform hpl
        obtain ⟨a8, b8, h1, h2, h3⟩ := hn1
        cases Option.some.inj (h1.symm.trans hcl)
        cases Option.some.inj (h2.symm.trans hc6)
        exact Or.inr ⟨hz0, _, hcl6, h3⟩)
  obtain ⟨g₀, hfr⟩ := X'.frames_eq
  have hcell9 : ((T.setVm vm').setFrames (.throwing q :: below)).heap[q]? = some ce := by
    show T.heap[q]? = some ce
    rw [hT]; exact hcell
  have hend : Ended ((T.setVm vm').setFrames (.throwing q :: below)) below (.threw q) := State.frames_setFrames _ (State.cur_lt_of_frames hfr)
  refine ⟨(T.setVm vm').setFrames (.throwing q :: below), ?_, .threw q, X'.here.running, hend, Or.inr ⟨q, rfl, E, ce, locs, hx _ hT (X'.ends _).1.alike, hcell9, hv, hcl, (X'.ends _).1, (X'.ends _).2.mono hc hs, hf⟩⟩
  rw [X.pushThrowing_eq]
  exact st
/-- a thing of a world lies in the heap -/
theorem vx_lt {D : va_G} {cl : List vw_C} {ws : va_W} {H1 : Heap} (h : va_P D cl ws H1) {k : Nat} {q : Nat × va_E} (hk : ws[k]? = some q) : q.1 < H1.size := (h k q hk).lt
end VXS
/-! ===== END ===== -/
/-! ===== BEGIN methods with a table of their own: called by a name, returning or throwing ===== -/
section VXH
/-! vx_backW, vx_callVX, vx_callSX, vx_callVW, vx_runVW, vx_runVX, vx_runSX, vx_ofWH follow the same proofs as their sisters above (Free/Laws.lean, Shelf42/LK1.lean); vx_outP calls Shelf42/NT130.lean (outThrough). -/
section
variable {l : Launch} {R : Room} {p : Program} {e : Env} {below : List Frame} {s : State} {sargs : Array Value} {y : MethodName} {len W9 : Nat}
theorem vx_backW {ws : List Cond} {rm : Room} {Pc : Array Value → State → Prop} {Qc : Array Value → State → Outcome → State → Prop} {XC : String → State → State → Prop} {mc ms : Nat} {free : Addr → Prop} {bytes : ByteArray} {maxL : Nat} {ret : Option FieldType} {hh : List (Nat × Nat × Nat × Nat)}
    (hM : vx_Met l y ws rm Pc Qc XC mc ms free) (hblind : FrameBlind Pc) (hrc : rm.cells = mc) (hrs : rm.slots = ms)
    (hframes : rm.frames + 1 ≤ R.frames) (hlocals : W9 + (maxL + 11) + rm.locals ≤ R.locals)
    (hws : ∀ w ∈ ws, ∀ a' U, s.WarmedH U.vm → w.before a' U = true) (hcode : Cond.codeWith y bytes maxL ret hh ∈ ws) (hinit : ∀ a' U, s.WarmedH U.vm → (Cond.initialized y.cls).before a' U = true) :
    vx_Back l R p e below s sargs y len W9 (PreOf R mc ms Pc) (PostOf Qc mc ms free) (vx_Post XC mc ms free) := by
  intro m meth c A g ig mk a X hg hsize hdg hW hn hp
  have h1 : (headSpec ws rm).pre.before a A.U = true := atoms_intro fun w hw => hws w hw _ _ X.warmed
  have h2 : (Cond.codeWith y bytes maxL ret hh).before a A.U = true := hws _ hcode _ _ X.warmed
  have h3 : (Cond.initialized y.cls).before a A.U = true := hinit _ _ X.warmed
  have h4 : A.cells + (headSpec ws rm).room.cells ≤ R.cells := by rw [show (headSpec ws rm).room.cells = mc from hrc]; exact hp.1
  have h5 : A.slots + (headSpec ws rm).room.slots ≤ R.slots := by rw [show (headSpec ws rm).room.slots = ms from hrs]; exact hp.2.1
  have hPc : Pc a (A.U.calling g mk a) := hblind _ _ _ _ hp.2.2
  obtain ⟨U, Ls, c0, s0⟩ := A
  dsimp only [Pt.U, Pt.locs, Pt.cells, Pt.slots] at h1 h2 h3 h4 h5 X hn hPc ⊢
  obtain ⟨m9, methY, cY, hn9, hmY, hcY, -, hlY, -⟩ := Cond.codeWith_spec h2
  cases Option.some.inj (hn9.symm.trans hn)
  obtain ⟨kY, hkY, -⟩ := className_of_methodNamed hn
  have hinitY : kY.init = .initialized := Cond.initialized_spec (findClass_of_methodNamed hn) hkY h3
  have h : At U g.method c below := by rw [hg]; exact X.here
  have hlocals9 : W9 + (maxL + 11) + (headSpec ws rm).room.locals ≤ R.locals := hlocals
  have happ : (headSpec ws rm).appliesLoose y e.platform (U.calling g mk a) = true :=
    Spec.appliesLoose_calling (g := g) h hdg hn hkY hinitY
      (X.room_calling (g := g) (R' := (headSpec ws rm).room) hsize hmY hcY hframes (by rw [hlY]; omega) h4 h5) h1
  obtain ⟨mid, hmid⟩ := h.above
  have hfr : (U.setTop g).frames = (.java g :: mid) ++ below := by rw [State.frames_setTop' g h.top, hmid]; rfl
  obtain ⟨o, s₂, hsteps, -, hend, hq⟩ := Steps.callFree hM p X.admits X.cas X.clock (acts := []) hfr happ hPc trivial
  have hq' : vx_Q Qc XC mc ms free a (U.calling g mk a) o s₂ := hq
  rw [State.frames_setTop' g h.top] at hend
  obtain ⟨g₀, hg0⟩ := Option.isSome_iff_exists.mp h.top
  obtain ⟨r, hr⟩ := State.topJava?_eq_some.mp hg0
  have hr' : (({ U with heap := s₂.heap, slotsUsed := s₂.slotsUsed } : State).setVm s₂.vm).frames = .java g₀ :: r := hr
  rcases hq' with ⟨hqc, L, hfe, hL⟩ | ⟨q, rfl, E, ce, L, hx, hce, hcv, hcl, hW₂, hsm, hL⟩
  · obtain ⟨⟨v, rfl⟩, hW₂, e2, q2, q3, q4, q5, q6⟩ := id hfe
    have e3 : s₂ = ({ (U.calling g mk a).setFrames s₂.frames with heap := s₂.heap, slotsUsed := s₂.slotsUsed } : State).setVm s₂.vm := by
      have : s₂ = ({ s₂ with vm := (U.calling g mk a).vm } : State).setVm s₂.vm := rfl
      rw [e2] at this
      exact this
    obtain ⟨c₂, i₂, len₂, hc₂, hd₂, hf₂⟩ := hend
    have hW' : U.WarmedH s₂.vm := hW₂
    have hcc : c₂ = c := by
      have h1 : s₂.code? g.method = U.code? g.method := by
        rw [State.code?_eq, State.code?_eq, hW'.alike.method?]
      exact Option.some.inj (hc₂.symm.trans (h1.trans h.code))
    subst hcc
    have hlen : len₂ = len := by rw [hdg] at hd₂; cases hd₂; rfl
    subst hlen
    have hs₂ : s₂ = (({ U with heap := s₂.heap, slotsUsed := s₂.slotsUsed } : State).setVm s₂.vm).setTop { g with pc := g.pc + len₂, stack := v.toList ++ g.stack } := by
      refine e3.trans ?_
      rw [hf₂, State.calling_eq h.top, State.setFrames_setFrames, State.setTop_of_frames _ hr', hr]
      rfl
    have hsame : U.sameButNew ({ U with heap := s₂.heap, slotsUsed := s₂.slotsUsed } : State) L mc ms := by
      refine ⟨?_, q2, q3, q4, q5, q6⟩
      obtain ⟨t, ht, -⟩ := State.frames_cons hr
      show ({ U with heap := s₂.heap, slotsUsed := s₂.slotsUsed } : State) = { U.setFrames U.frames with heap := s₂.heap, slotsUsed := s₂.slotsUsed }
      rw [State.setFrames_self ht]
    subst hg
    refine Or.inl ⟨v, ⟨(({ U with heap := s₂.heap, slotsUsed := s₂.slotsUsed } : State).setVm s₂.vm), Ls ++ L, c0 + mc, s0 + ms⟩,
      ⟨X.admits, X.cas, X.clock, X.frames, X.room, X.hears, X.method, X.code, (X.here.setHeapUsed s₂.heap s₂.slotsUsed).setVm hW'.alike, X.tail, State.WarmedH.trans X.warmed hW', X.limits, X.bytes, X.same.trans (hsame.setVm s.vm)⟩,
      ⟨g, mk, s₂, L, rfl, rfl, hqc, rfl, hL, rfl, rfl⟩, ?_⟩
    show Steps p.tables e below _ ((({ U with heap := s₂.heap, slotsUsed := s₂.slotsUsed } : State).setVm s₂.vm).setTop { g with pc := g.pc + len₂, stack := v.toList ++ g.stack })
    rw [← hs₂]
    exact hsteps
  · obtain ⟨e2, q2, q3, q4, q5, q6⟩ := id hsm
    have e3 : s₂ = ({ (U.calling g mk a).setFrames s₂.frames with heap := s₂.heap, slotsUsed := s₂.slotsUsed } : State).setVm s₂.vm := by
      have : s₂ = ({ s₂ with vm := (U.calling g mk a).vm } : State).setVm s₂.vm := rfl
      rw [e2] at this
      exact this
    have hf₂ : s₂.frames = .throwing q :: .java g :: U.frames.tail := hend
    have hW' : U.WarmedH s₂.vm := hW₂
    have hs₂ : s₂ = ((({ U with heap := s₂.heap, slotsUsed := s₂.slotsUsed } : State).setVm s₂.vm).setTop g).pushFrame (.throwing q) := by
      refine e3.trans ?_
      rw [hf₂, State.calling_eq h.top, State.setFrames_setFrames, State.pushFrame, State.frames_setTop _ hr', State.setTop_of_frames _ hr', State.setFrames_setFrames, hr]
      rfl
    have hsame : U.sameButNew ({ U with heap := s₂.heap, slotsUsed := s₂.slotsUsed } : State) L mc ms := by
      refine ⟨?_, q2, q3, q4, q5, q6⟩
      obtain ⟨t, ht, -⟩ := State.frames_cons hr
      show ({ U with heap := s₂.heap, slotsUsed := s₂.slotsUsed } : State) = { U.setFrames U.frames with heap := s₂.heap, slotsUsed := s₂.slotsUsed }
      rw [State.setFrames_self ht]
    subst hg
    refine Or.inr ⟨q, ⟨(({ U with heap := s₂.heap, slotsUsed := s₂.slotsUsed } : State).setVm s₂.vm), Ls ++ L, c0 + mc, s0 + ms⟩,
      ⟨X.admits, X.cas, X.clock, X.frames, X.room, X.hears, X.method, X.code, (X.here.setHeapUsed s₂.heap s₂.slotsUsed).setVm hW'.alike, X.tail, State.WarmedH.trans X.warmed hW', X.limits, X.bytes, X.same.trans (hsame.setVm s.vm)⟩,
      ⟨g, mk, s₂, L, E, ce, rfl, rfl, hx, hce, hcv, hcl, rfl, hL, rfl, rfl⟩, ?_⟩
    show Steps p.tables e below _ (((({ U with heap := s₂.heap, slotsUsed := s₂.slotsUsed } : State).setVm s₂.vm).setTop g).pushFrame (.throwing q))
    rw [← hs₂]
    exact hsteps
end
variable {p : Program} {l : Launch} {e : Env} {R : Room} {s : State} {m : MethodId} {args : Array Value} {below : List Frame} {meth : Method} {c : Code} {T : State} {H : Heap} {locs : List Loc} {cells slots : Nat}
theorem vx_callVX (X : Stand p l e R s m args below meth c T locs cells slots) (hexec : p.tables.exec = Jvm.exec) {own C : String} {index : Nat} {y : MethodName} {bytes : ByteArray} {maxL : Nat} {ret : Option FieldType} {hh : List (Nat × Nat × Nat × Nat)}
    (hown : s.vm.findClass own = some m.cls) (hlink : (Cond.methodLink own index y).before args s = true) (hinst : (Cond.instanceMethod y).before args s = true) (hsel : (Cond.selects C y y).before args s = true)
    (hcode : (Cond.codeWith y bytes maxL ret hh).before args s = true) (hy : y.cls ≠ "java/lang/invoke/MethodHandle" ∧ y.cls ≠ "java/lang/invoke/VarHandle")
    {W9 : Nat} {Pre : Pt → Array Value → Prop} {Post : Pt → Array Value → Option Value → Pt → Prop} {PostX : Pt → Array Value → Addr → Pt → Prop} (hK : vx_Back l R p e below s args y 3 W9 Pre Post PostX)
    {b : Addr} {cellB : Cell} (hcell : T.heap[b]? = some cellB) (hobj : cellB.vm.isStatics = false) (hcls : s.vm.findClass C = some cellB.cls)
    {g : JFrame} (hg : g.method = m) (hsize : g.locals.size = c.maxLocals) {argsL rest : List Value} (hlen : ∀ sig, parseMethodDescriptor y.desc = some sig → argsL.length = sig.parameters.length)
    (hstack : g.stack = argsL.reverse ++ .ref b :: rest) (hW : 2 * g.monitorRoom + (rest.map fun v => v.category).sum ≤ W9) (hdg : decode c.code g.pc = .ok (.invokevirtual index, 3))
    (hpre : ∀ vm₁, s.WarmedH vm₁ → Pre ⟨T.setVm vm₁, locs, cells, slots⟩ (Value.ref b :: argsL).toArray) :
    (∃ (v : Option Value) (vm₁ : Vm) (B : Pt), s.WarmedH vm₁ ∧ Stand p l e R s m args below meth c B.U B.locs B.cells B.slots ∧ Post ⟨T.setVm vm₁, locs, cells, slots⟩ (Value.ref b :: argsL).toArray v B ∧
      ∀ target, Steps p.tables e below (B.U.setTop { g with pc := g.pc + 3, stack := v.toList ++ rest }) target → Steps p.tables e below (T.setTop g) target) ∨
    (∃ (q : Addr) (vm₁ : Vm) (B : Pt), s.WarmedH vm₁ ∧ Stand p l e R s m args below meth c B.U B.locs B.cells B.slots ∧ PostX ⟨T.setVm vm₁, locs, cells, slots⟩ (Value.ref b :: argsL).toArray q B ∧
      Steps p.tables e below (T.setTop g) ((B.U.setTop { g with stack := rest }).pushFrame (.throwing q))) := by
  obtain ⟨mk, methM, hnamed, hmethM, hstM, habM⟩ := Cond.instanceMethod_spec hinst
  obtain ⟨m8, methM', cM, hn8, hmethM', -, -, -, -, -, -, hsigM⟩ := Cond.codeWith_spec hcode
  cases Option.some.inj (hn8.symm.trans hnamed)
  cases hmethM.symm.trans hmethM'
  obtain ⟨c2, r2, m2, q1, q2, q3, q4, kP, hkP, hkPi⟩ := Cond.selects_spec hsel
  cases hcls.symm.trans q1
  cases (State.methodFound?_of_named hnamed hy).symm.trans q2
  cases hnamed.symm.trans q3
  have hselP : selectMethod e.platform s.vm cellB.cls mk = .method mk := by rw [Launch.admits_selectMethod X.admits]; exact q4
  obtain ⟨vm₁, X₁, hstep₁⟩ := X.invokevirtual hexec hown hlink hnamed hmethM hstM hkP hkPi hy (a := b) (cell := cellB) hcell
    (fun z h => by rw [h] at hobj; cases hobj) hselP hmethM habM hkP hkPi (g := g) hg (argsL := argsL) (rest := rest) (hlen _ hsigM) hstack hdg
  rcases hK m meth c ⟨T.setVm vm₁, locs, cells, slots⟩ { g with stack := rest } (.invokevirtual index) mk (Value.ref b :: argsL).toArray X₁ hg hsize hdg hW (X₁.named hnamed) (hpre vm₁ X₁.warmed) with ⟨v, B, X', hpost, hsteps⟩ | ⟨q, B, X', hpost, hsteps⟩
  · exact Or.inl ⟨v, vm₁, B, X₁.warmed, X', hpost, fun target h => hstep₁ _ fun acts => by rw [doInvoke_state]; exact hsteps.trans h⟩
  · exact Or.inr ⟨q, vm₁, B, X₁.warmed, X', hpost, hstep₁ _ fun acts => by rw [doInvoke_state]; exact hsteps⟩
theorem vx_callSX (X : Stand p l e R s m args below meth c T locs cells slots) (hexec : p.tables.exec = Jvm.exec) {own : String} {index : Nat} {y : MethodName} {bytes : ByteArray} {maxL : Nat} {ret : Option FieldType} {hh : List (Nat × Nat × Nat × Nat)}
    (hown : s.vm.findClass own = some m.cls) (hlink : (Cond.methodLink own index y).before args s = true) (hstat : (Cond.static y).before args s = true) (hinit : (Cond.initialized y.cls).before args s = true)
    (hcode : (Cond.codeWith y bytes maxL ret hh).before args s = true) (hy : y.cls ≠ "java/lang/invoke/MethodHandle" ∧ y.cls ≠ "java/lang/invoke/VarHandle")
    {W9 : Nat} {Pre : Pt → Array Value → Prop} {Post : Pt → Array Value → Option Value → Pt → Prop} {PostX : Pt → Array Value → Addr → Pt → Prop} (hK : vx_Back l R p e below s args y 3 W9 Pre Post PostX)
    {g : JFrame} (hg : g.method = m) (hsize : g.locals.size = c.maxLocals) {argsL rest : List Value} (hlen : ∀ sig, parseMethodDescriptor y.desc = some sig → argsL.length = sig.parameters.length)
    (hstack : g.stack = argsL.reverse ++ rest) (hW : 2 * g.monitorRoom + (rest.map fun v => v.category).sum ≤ W9) (hdg : decode c.code g.pc = .ok (.invokestatic index, 3))
    (hpre : ∀ vm₁, s.WarmedH vm₁ → Pre ⟨T.setVm vm₁, locs, cells, slots⟩ argsL.toArray) :
    (∃ (v : Option Value) (vm₁ : Vm) (B : Pt), s.WarmedH vm₁ ∧ Stand p l e R s m args below meth c B.U B.locs B.cells B.slots ∧ Post ⟨T.setVm vm₁, locs, cells, slots⟩ argsL.toArray v B ∧
      ∀ target, Steps p.tables e below (B.U.setTop { g with pc := g.pc + 3, stack := v.toList ++ rest }) target → Steps p.tables e below (T.setTop g) target) ∨
    (∃ (q : Addr) (vm₁ : Vm) (B : Pt), s.WarmedH vm₁ ∧ Stand p l e R s m args below meth c B.U B.locs B.cells B.slots ∧ PostX ⟨T.setVm vm₁, locs, cells, slots⟩ argsL.toArray q B ∧
      Steps p.tables e below (T.setTop g) ((B.U.setTop { g with stack := rest }).pushFrame (.throwing q))) := by
  obtain ⟨mk, methM, cM, hnamed, hmethM, -, -, -, -, -, -, hsigM⟩ := Cond.codeWith_spec hcode
  have hstatic : methM.isStatic = true := Cond.static_spec hnamed hmethM hstat
  obtain ⟨kP, hkP, -⟩ := className_of_methodNamed hnamed
  have hinitP : kP.init = .initialized := Cond.initialized_spec (findClass_of_methodNamed hnamed) hkP hinit
  obtain ⟨vm₁, X₁, hstep₁⟩ := X.invokestatic hexec hown hlink hnamed hmethM hstatic hkP hinitP hy (g := g) hg (argsL := argsL) (rest := rest) (hlen _ hsigM) hstack hdg
  rcases hK m meth c ⟨T.setVm vm₁, locs, cells, slots⟩ { g with stack := rest } (.invokestatic index) mk argsL.toArray X₁ hg hsize hdg hW (X₁.named hnamed) (hpre vm₁ X₁.warmed) with ⟨v, B, X', hpost, hsteps⟩ | ⟨q, B, X', hpost, hsteps⟩
  · exact Or.inl ⟨v, vm₁, B, X₁.warmed, X', hpost, fun target h => hstep₁ _ fun acts => by rw [doInvoke_state]; exact hsteps.trans h⟩
  · exact Or.inr ⟨q, vm₁, B, X₁.warmed, X', hpost, hstep₁ _ fun acts => by rw [doInvoke_state]; exact hsteps⟩
theorem vx_callVW (X : Stand p l e R s m args below meth c T locs cells slots) (hexec : p.tables.exec = Jvm.exec) {own C : String} {index : Nat} {y : MethodName} {bytes : ByteArray} {maxL : Nat} {ret : Option FieldType} {hh : List (Nat × Nat × Nat × Nat)}
    (hown : s.vm.findClass own = some m.cls) (hlink : (Cond.methodLink own index y).before args s = true) (hinst : (Cond.instanceMethod y).before args s = true) (hsel : (Cond.selects C y y).before args s = true)
    (hcode : (Cond.codeWith y bytes maxL ret hh).before args s = true) (hy : y.cls ≠ "java/lang/invoke/MethodHandle" ∧ y.cls ≠ "java/lang/invoke/VarHandle")
    {W9 : Nat} {Pre : Pt → Array Value → Prop} {Post : Pt → Array Value → Option Value → Pt → Prop} (hK : Back l R p e below s args y 3 W9 Pre Post)
    {b : Addr} {cellB : Cell} (hcell : T.heap[b]? = some cellB) (hobj : cellB.vm.isStatics = false) (hcls : s.vm.findClass C = some cellB.cls)
    {g : JFrame} (hg : g.method = m) (hsize : g.locals.size = c.maxLocals) {argsL rest : List Value} (hlen : ∀ sig, parseMethodDescriptor y.desc = some sig → argsL.length = sig.parameters.length)
    (hstack : g.stack = argsL.reverse ++ .ref b :: rest) (hW : 2 * g.monitorRoom + (rest.map fun v => v.category).sum ≤ W9) (hdg : decode c.code g.pc = .ok (.invokevirtual index, 3))
    (hpre : ∀ vm₁, s.WarmedH vm₁ → Pre ⟨T.setVm vm₁, locs, cells, slots⟩ (Value.ref b :: argsL).toArray) :
    ∃ (v : Option Value) (vm₁ : Vm) (B : Pt), s.WarmedH vm₁ ∧ Stand p l e R s m args below meth c B.U B.locs B.cells B.slots ∧ Post ⟨T.setVm vm₁, locs, cells, slots⟩ (Value.ref b :: argsL).toArray v B ∧
      ∀ target, Steps p.tables e below (B.U.setTop { g with pc := g.pc + 3, stack := v.toList ++ rest }) target → Steps p.tables e below (T.setTop g) target := by
  obtain ⟨mk, methM, hnamed, hmethM, hstM, habM⟩ := Cond.instanceMethod_spec hinst
  obtain ⟨m8, methM', cM, hn8, hmethM', -, -, -, -, -, -, hsigM⟩ := Cond.codeWith_spec hcode
  cases Option.some.inj (hn8.symm.trans hnamed)
  cases hmethM.symm.trans hmethM'
  obtain ⟨c2, r2, m2, q1, q2, q3, q4, kP, hkP, hkPi⟩ := Cond.selects_spec hsel
  cases hcls.symm.trans q1
  cases (State.methodFound?_of_named hnamed hy).symm.trans q2
  cases hnamed.symm.trans q3
  have hselP : selectMethod e.platform s.vm cellB.cls mk = .method mk := by rw [Launch.admits_selectMethod X.admits]; exact q4
  obtain ⟨vm₁, X₁, hstep₁⟩ := X.invokevirtual hexec hown hlink hnamed hmethM hstM hkP hkPi hy (a := b) (cell := cellB) hcell
    (fun z h => by rw [h] at hobj; cases hobj) hselP hmethM habM hkP hkPi (g := g) hg (argsL := argsL) (rest := rest) (hlen _ hsigM) hstack hdg
  obtain ⟨v, B, X', hpost, hsteps⟩ := hK m meth c ⟨T.setVm vm₁, locs, cells, slots⟩ { g with stack := rest } (.invokevirtual index) mk (Value.ref b :: argsL).toArray X₁ hg hsize hdg hW (X₁.named hnamed) (hpre vm₁ X₁.warmed)
  exact ⟨v, vm₁, B, X₁.warmed, X', hpost, fun target h => hstep₁ _ fun acts => by rw [doInvoke_state]; exact hsteps.trans h⟩
abbrev vx_CVW (R : Room) (s : State) (args : Array Value) (own C : String) (index : Nat) (y : MethodName) (bytes : ByteArray) (maxL : Nat) (ret : Option FieldType) (hh : List (Nat × Nat × Nat × Nat)) (ws : List Cond) (rm : Room) (mc ms n : Nat) : Prop :=
  (rm.cells = mc ∧ rm.slots = ms ∧ rm.frames + 1 ≤ R.frames ∧ 8 + (maxL + 11) + rm.locals ≤ R.locals ∧ (∀ w ∈ ws, ∀ (a' : Array Value) (U : State), s.WarmedH U.vm → w.before a' U = true) ∧ Cond.codeWith y bytes maxL ret hh ∈ ws) ∧
  (Cond.codeWith y bytes maxL ret hh).before args s = true ∧ (Cond.initialized y.cls).before args s = true ∧ (y.cls ≠ "java/lang/invoke/MethodHandle" ∧ y.cls ≠ "java/lang/invoke/VarHandle") ∧
  (∀ sig, parseMethodDescriptor y.desc = some sig → n = sig.parameters.length) ∧ (Cond.methodLink own index y).before args s = true ∧ (Cond.instanceMethod y).before args s = true ∧ (Cond.selects C y y).before args s = true
theorem vx_cwVW {own C : String} {index maxL mc ms : Nat} {y : MethodName} {bytes : ByteArray} {ret : Option FieldType} {hh : List (Nat × Nat × Nat × Nat)} {Ts ws ws' : List Cond} {rm : Room} (n : Nat) (ht : ∀ w ∈ Ts, w.before args s = true) (hT : GoodIn Ts (wsV own index C y ws)) (hw : ws = Cond.codeWith y bytes maxL ret hh :: ws') (hrc : rm.cells = mc) (hrs : rm.slots = ms)
    (hd : y.cls = C ∧ y.cls ≠ "java/lang/invoke/MethodHandle" ∧ y.cls ≠ "java/lang/invoke/VarHandle" ∧ (parseMethodDescriptor y.desc).map (fun d => d.parameters.length) = some n) (hR : rm.frames + 1 ≤ R.frames ∧ 8 + (maxL + 11) + rm.locals ≤ R.locals) :
    vx_CVW R s args own C index y bytes maxL ret hh ws rm mc ms n := by
  obtain ⟨hC, hd⟩ := hd
  subst hC
  have ok : ∀ w ∈ wsV own index y.cls y ws, w.before args s = true := fun w h => ht w (hT w h).1
  have hG : GoodIn Ts ws := fun w h => hT w (by unfold wsV; exact List.mem_append_right _ h)
  have hc : Cond.codeWith y bytes maxL ret hh ∈ ws := by rw [hw]; exact List.mem_cons_self
  refine ⟨⟨hrc, hrs, hR.1, hR.2, pay_in ht hG, hc⟩, ht _ (hG _ hc).1, ok _ (by simp [wsV]), ⟨hd.1, hd.2.1⟩, fun sig h => ?_, ok _ (by simp [wsV]), ok _ (by simp [wsV]), ok _ (by simp [wsV])⟩
  have h2 := hd.2.2
  rw [h] at h2
  exact (Option.some.inj h2).symm
theorem vx_runVW {y : MethodName} {bytes cc : ByteArray} {maxL nL mc ms n index : Nat} {ret : Option FieldType} {hh : List (Nat × Nat × Nat × Nat)} {ws : List Cond} {rm : Room} {Pc : Array Value → State → Prop} {Qc : Array Value → State → Outcome → State → Prop} {free : Addr → Prop} {Ts : List Cond} {own C : String} {b : Addr} {As rest : List Value} {g : JFrame}
    (S : CallFix p m c cc nL s args Ts own) (hM : Met l y ws rm Pc Qc mc ms free) (cw : vx_CVW R s args own C index y bytes maxL ret hh ws rm mc ms n) (hp : PreV s H C b Pc As)
    (hg : g.method = m) (hn : As.length = n) (hsize : g.locals.size = nL) (hstack : g.stack = As.reverse ++ .ref b :: rest) (hW : 2 * g.monitorRoom + (rest.map fun v => v.category).sum ≤ 8) (hdg : decode cc g.pc = .ok (.invokevirtual index, 3)) (hf : cells + mc ≤ R.cells ∧ slots + ms ≤ R.slots) :
    va_Run p l e R s m args below meth c H locs cells slots mc ms g rest (Qc (Value.ref b :: As).toArray) free := by
  obtain ⟨⟨hrc, hrs, hfr, hlo, hws, hcw⟩, hcode, hini, hy, hlen, hl, hin, hse⟩ := cw
  have hK : Back l R p e below s args y 3 8 (PreOf R mc ms Pc) (PostOf Qc mc ms free) := va_backW (hh := hh) (bytes := bytes) (maxL := maxL) (ret := ret) hM hp.1 hrc hrs hfr hlo hws hcw (fun a' U hW => word_at hW (Or.inl (by first | rfl | simp [Cond.onTables, Cond.keeps, Cond.steady])) hini)
  obtain ⟨hx, hb, hml, ho, -⟩ := S
  obtain ⟨-, ⟨cellB, hcB, hoB, hclB⟩, hPc⟩ := hp
  intro T hT X
  obtain ⟨v, vm₁, ⟨U', l2, c2, s2⟩, hW₁, X', ⟨g', mk, t, L, e1, e2, hq, h1, hL, h2, h3⟩, st⟩ := vx_callVW X hx (C := C) (hh := hh) (bytes := bytes) (maxL := maxL) (ret := ret) ho hl hin hse hcode hy hK (by rw [hT]; exact hcB) hoB hclB hg (hsize.trans hml.symm) (argsL := As) (rest := rest) (fun sig h => hn.trans (hlen sig h)) hstack hW (by rw [hb]; exact hdg)
    (fun vm₁ hW₁ => ⟨hf.1, hf.2, hPc (T.setVm vm₁) hT hW₁⟩)
  dsimp only [Pt.U, Pt.locs, Pt.cells, Pt.slots] at X' e1 e2 h1 h2 h3 st
  subst h1; subst h2; subst h3
  exact ⟨v, (T.setVm vm₁).calling g' mk (Value.ref b :: As).toArray, t, U', L, hT, X', hL, e1, e2, hq, st⟩
section
variable {y : MethodName} {bytes cc : ByteArray} {maxL nL mc ms n index : Nat} {ret : Option FieldType} {ws : List Cond} {rm : Room} {Pc : Array Value → State → Prop} {Qc : Array Value → State → Outcome → State → Prop} {XC : String → State → State → Prop} {free : Addr → Prop} {Ts : List Cond} {own C : String} {b : Addr} {As rest : List Value} {g : JFrame}
theorem vx_runVX {hh : List (Nat × Nat × Nat × Nat)} (S : CallFix p m c cc nL s args Ts own) (hM : vx_Met l y ws rm Pc Qc XC mc ms free) (cw : vx_CVW R s args own C index y bytes maxL ret hh ws rm mc ms n) (hp : PreV s H C b Pc As)
    (hg : g.method = m) (hn : As.length = n) (hsize : g.locals.size = nL) (hstack : g.stack = As.reverse ++ .ref b :: rest) (hW : 2 * g.monitorRoom + (rest.map fun v => v.category).sum ≤ 8) (hdg : decode cc g.pc = .ok (.invokevirtual index, 3)) (hf : cells + mc ≤ R.cells ∧ slots + ms ≤ R.slots) :
    vx_Run p l e R s m args below meth c H locs cells slots mc ms g rest (Qc (Value.ref b :: As).toArray) XC free := by
  obtain ⟨⟨hrc, hrs, hfr, hlo, hws, hcw⟩, hcode, hini, hy, hlen, hl, hin, hse⟩ := cw
  have hK : vx_Back l R p e below s args y 3 8 (PreOf R mc ms Pc) (PostOf Qc mc ms free) (vx_Post XC mc ms free) := vx_backW (hh := hh) (bytes := bytes) (maxL := maxL) (ret := ret) hM hp.1 hrc hrs hfr hlo hws hcw (fun a' U hW => word_at hW (Or.inl (by first | rfl | simp [Cond.onTables, Cond.keeps, Cond.steady])) hini)
  obtain ⟨hx, hb, hml, ho, -⟩ := S
  obtain ⟨-, ⟨cellB, hcB, hoB, hclB⟩, hPc⟩ := hp
  intro T hT X
  rcases vx_callVX X hx (C := C) (hh := hh) (bytes := bytes) (maxL := maxL) (ret := ret) ho hl hin hse hcode hy hK (by rw [hT]; exact hcB) hoB hclB hg (hsize.trans hml.symm) (argsL := As) (rest := rest) (fun sig h => hn.trans (hlen sig h)) hstack hW (by rw [hb]; exact hdg)
    (fun vm₁ hW₁ => ⟨hf.1, hf.2, hPc (T.setVm vm₁) hT hW₁⟩) with ⟨v, vm₁, ⟨U', l2, c2, s2⟩, hW₁, X', ⟨g', mk, t, L, e1, e2, hq, h1, hL, h2, h3⟩, st⟩ | ⟨q, vm₁, ⟨U', l2, c2, s2⟩, hW₁, X', ⟨g', mk, t, L, E, ce, e1, e2, hq, hce, hcv, hcl, h1, hL, h2, h3⟩, st⟩
  · dsimp only [Pt.U, Pt.locs, Pt.cells, Pt.slots] at X' e1 e2 h1 h2 h3 st
    subst h1; subst h2; subst h3
    exact Or.inl ⟨v, (T.setVm vm₁).calling g' mk (Value.ref b :: As).toArray, t, U', L, hT, X', hL, e1, e2, hq, st⟩
  · dsimp only [Pt.U, Pt.locs, Pt.cells, Pt.slots] at X' e1 e2 h1 h2 h3 st hcl
    subst h1; subst h2; subst h3
    exact Or.inr ⟨q, (T.setVm vm₁).calling g' mk (Value.ref b :: As).toArray, t, U', L, E, ce, hT, X', hL, e1, e2, hq, hce, hcv, vx_cls hW₁ hcl, st⟩
theorem vx_runSX {hh : List (Nat × Nat × Nat × Nat)} (S : CallFix p m c cc nL s args Ts own) (hM : vx_Met l y ws rm Pc Qc XC mc ms free) (cw : vx_CSW R s args own index y bytes maxL ret hh ws rm mc ms n) (hp : PreS s H Pc As)
    (hg : g.method = m) (hn : As.length = n) (hsize : g.locals.size = nL) (hstack : g.stack = As.reverse ++ rest) (hW : 2 * g.monitorRoom + (rest.map fun v => v.category).sum ≤ 8) (hdg : decode cc g.pc = .ok (.invokestatic index, 3)) (hf : cells + mc ≤ R.cells ∧ slots + ms ≤ R.slots) :
    vx_Run p l e R s m args below meth c H locs cells slots mc ms g rest (Qc As.toArray) XC free := by
  obtain ⟨⟨hrc, hrs, hfr, hlo, hws, hcw⟩, hcode, hini, hy, hlen, hl, hstt⟩ := cw
  have hK : vx_Back l R p e below s args y 3 8 (PreOf R mc ms Pc) (PostOf Qc mc ms free) (vx_Post XC mc ms free) := vx_backW (hh := hh) (bytes := bytes) (maxL := maxL) (ret := ret) hM hp.1 hrc hrs hfr hlo hws hcw (fun a' U hW => word_at hW (Or.inl (by first | rfl | simp [Cond.onTables, Cond.keeps, Cond.steady])) hini)
  obtain ⟨hx, hb, hml, ho, -⟩ := S
  intro T hT X
  rcases vx_callSX X hx (hh := hh) (bytes := bytes) (maxL := maxL) (ret := ret) ho hl hstt hini hcode hy hK hg (hsize.trans hml.symm) (argsL := As) (rest := rest) (fun sig h => hn.trans (hlen sig h)) hstack hW (by rw [hb]; exact hdg)
    (fun vm₁ hW₁ => ⟨hf.1, hf.2, hp.2 (T.setVm vm₁) hT hW₁⟩) with ⟨v, vm₁, ⟨U', l2, c2, s2⟩, hW₁, X', ⟨g', mk, t, L, e1, e2, hq, h1, hL, h2, h3⟩, st⟩ | ⟨q, vm₁, ⟨U', l2, c2, s2⟩, hW₁, X', ⟨g', mk, t, L, E, ce, e1, e2, hq, hce, hcv, hcl, h1, hL, h2, h3⟩, st⟩
  · dsimp only [Pt.U, Pt.locs, Pt.cells, Pt.slots] at X' e1 e2 h1 h2 h3 st
    subst h1; subst h2; subst h3
    exact Or.inl ⟨v, (T.setVm vm₁).calling g' mk As.toArray, t, U', L, hT, X', hL, e1, e2, hq, st⟩
  · dsimp only [Pt.U, Pt.locs, Pt.cells, Pt.slots] at X' e1 e2 h1 h2 h3 st hcl
    subst h1; subst h2; subst h3
    exact Or.inr ⟨q, (T.setVm vm₁).calling g' mk As.toArray, t, U', L, E, ce, hT, X', hL, e1, e2, hq, hce, hcv, vx_cls hW₁ hcl, st⟩
end
end VXH
theorem vx_ofWH {l : Launch} {y : MethodName} {ws ws' : List Cond} {rm : Room} {Pc : Array Value → State → Prop} {Qc : Array Value → State → Outcome → State → Prop} {XC : String → State → State → Prop} {mc ms : Nat} {free : Addr → Prop} {cc : ByteArray} {maxL : Nat} {ret : Option FieldType} {hh : List (Nat × Nat × Nat × Nat)}
    (hy : plainName y.cls = true) (hw : ws = Cond.codeWith y cc maxL ret hh :: ws')
    (body : ∀ p e s m args below meth c s₁, BodyLoose p l y (headSpec ws rm) cc maxL ret e s m args below meth c s₁ → c.maxLocals = maxL → Pc args s →
      W p l e (headSpec ws rm).room s m args below meth c s.heap [] 0 0 (vx_MQ below Qc XC args s mc ms free) (entryFrame m args maxL)) : vx_Met l y ws rm Pc Qc XC mc ms free := by
  refine MetFree.of_bodyS (code := cc) (maxLocals := maxL) (ret := ret) hy ?_ ?_
  · intro args s m h hn
    obtain ⟨m9, meth, c, hn9, h1, h2, h3, h4, -, h5, h6, -⟩ := Cond.codeWith_spec (atoms_spec (ws := ws) h _ (by rw [hw]; exact List.mem_cons_self))
    cases hn.symm.trans hn9
    exact ⟨meth, c, h1, h2, h3, h4, h5, h6⟩
  · intro p e s m args below meth c s₁ B hml hP _
    have hh0 : s₁.heap = s.heap := by rw [B.state]; rfl
    obtain ⟨t, a1, o, b1, b2, b3⟩ := body p e s m args below meth c s₁ B hml hP s₁ hh0 (Stand.of_body B)
    exact ⟨t, o, a1, b1, b2, b3⟩
/-! ===== END ===== -/
end
section
def RX0 : String := "Trumpvault$Bids"
def TX0 : u_T := fun k => match k with
  | 0 => ("Trumpvault$Bids", "prices", "[[I", true)
  | _ => ("Trumpvault$Bids", "numbers", "[[I", true)
def tyX0 : Nat → FieldType := fun k => match k with
  | 0 => .array (.array .int)
  | _ => .array (.array .int)
abbrev wsX00 : List Cond := u_ws RX0 TX0 2
theorem nmX0 : ∀ a, a < 2 → ∀ b, b < 2 → a ≠ b → (TX0 a).2.1 ≠ (TX0 b).2.1 := by decide +kernel
theorem tyX0_ok : ∀ k, k < 2 → parseFieldDescriptor (TX0 k).2.2.1 = some (tyX0 k) := by decide +kernel
abbrev cX0_init : ByteArray := prog_2_method_1_code
def yX0_init : MethodName := ⟨RX0, "<init>", "()V"⟩
abbrev cX0_has : ByteArray := prog_2_method_2_code
def yX0_has : MethodName := ⟨RX0, "has", "(II)Z"⟩
abbrev cX0_put : ByteArray := prog_2_method_3_code
def yX0_put : MethodName := ⟨RX0, "put", "(IIII)V"⟩
abbrev cX0_take : ByteArray := prog_2_method_4_code
def yX0_take : MethodName := ⟨RX0, "take", "(II)I"⟩
abbrev cX0_bestBidder : ByteArray := prog_2_method_5_code
def yX0_bestBidder : MethodName := ⟨RX0, "bestBidder", "(II)I"⟩
abbrev cX0_isBefore : ByteArray := prog_2_method_6_code
def yX0_isBefore : MethodName := ⟨RX0, "isBefore", "(III)Z"⟩
def RX1 : String := "Trumpvault$Cards"
def TX1 : u_T := fun k => match k with
  | 0 => ("Trumpvault$Cards", "kinds", "[I", true)
  | 1 => ("Trumpvault$Cards", "owners", "[I", true)
  | 2 => ("Trumpvault$Cards", "states", "[I", true)
  | 3 => ("Trumpvault$Cards", "salePrices", "[I", true)
  | 4 => ("Trumpvault$Cards", "saleNumbers", "[I", true)
  | 5 => ("Trumpvault$Cards", "swapOthers", "[I", true)
  | 6 => ("Trumpvault$Cards", "borrowers", "[I", true)
  | 7 => ("Trumpvault$Cards", "returnDays", "[I", true)
  | _ => ("Trumpvault$Cards", "count", "I", false)
def tyX1 : Nat → FieldType := fun k => match k with
  | 0 => .array .int
  | 1 => .array .int
  | 2 => .array .int
  | 3 => .array .int
  | 4 => .array .int
  | 5 => .array .int
  | 6 => .array .int
  | 7 => .array .int
  | _ => .int
abbrev wsX10 : List Cond := u_ws RX1 TX1 9
theorem nmX1 : ∀ a, a < 9 → ∀ b, b < 9 → a ≠ b → (TX1 a).2.1 ≠ (TX1 b).2.1 := by decide +kernel
theorem tyX1_ok : ∀ k, k < 9 → parseFieldDescriptor (TX1 k).2.2.1 = some (tyX1 k) := by decide +kernel
abbrev cX1_init : ByteArray := prog_3_method_1_code
def yX1_init : MethodName := ⟨RX1, "<init>", "()V"⟩
abbrev cX1_has : ByteArray := prog_3_method_2_code
def yX1_has : MethodName := ⟨RX1, "has", "(I)Z"⟩
abbrev cX1_isFull : ByteArray := prog_3_method_3_code
def yX1_isFull : MethodName := ⟨RX1, "isFull", "()Z"⟩
abbrev cX1_add : ByteArray := prog_3_method_4_code
def yX1_add : MethodName := ⟨RX1, "add", "(II)I"⟩
abbrev cX1_holderOf : ByteArray := prog_3_method_5_code
def yX1_holderOf : MethodName := ⟨RX1, "holderOf", "(I)I"⟩
abbrev cX1_putSale : ByteArray := prog_3_method_6_code
def yX1_putSale : MethodName := ⟨RX1, "putSale", "(III)V"⟩
abbrev cX1_takeSale : ByteArray := prog_3_method_7_code
def yX1_takeSale : MethodName := ⟨RX1, "takeSale", "(I)I"⟩
abbrev cX1_takeSalesOf : ByteArray := prog_3_method_8_code
def yX1_takeSalesOf : MethodName := ⟨RX1, "takeSalesOf", "(I)I"⟩
abbrev cX1_isOnSale : ByteArray := prog_3_method_9_code
def yX1_isOnSale : MethodName := ⟨RX1, "isOnSale", "(II)Z"⟩
abbrev cX1_bestSale : ByteArray := prog_3_method_10_code
def yX1_bestSale : MethodName := ⟨RX1, "bestSale", "(II)I"⟩
abbrev cX1_saleIsBefore : ByteArray := prog_3_method_11_code
def yX1_saleIsBefore : MethodName := ⟨RX1, "saleIsBefore", "(II)Z"⟩
abbrev cX1_canBeSwapped : ByteArray := prog_3_method_12_code
def yX1_canBeSwapped : MethodName := ⟨RX1, "canBeSwapped", "(I)Z"⟩
abbrev cX1_lendTo : ByteArray := prog_3_method_13_code
def yX1_lendTo : MethodName := ⟨RX1, "lendTo", "(III)V"⟩
abbrev cX1_endLoans : ByteArray := prog_3_method_14_code
def yX1_endLoans : MethodName := ⟨RX1, "endLoans", "(I)V"⟩
def RX2 : String := "Trumpvault$History"
def TX2 : u_T := fun k => match k with
  | 0 => ("Trumpvault$History", "movedCards", "[I", true)
  | 1 => ("Trumpvault$History", "newOwners", "[I", true)
  | _ => ("Trumpvault$History", "count", "I", false)
def tyX2 : Nat → FieldType := fun k => match k with
  | 0 => .array .int
  | 1 => .array .int
  | _ => .int
abbrev wsX20 : List Cond := u_ws RX2 TX2 3
theorem nmX2 : ∀ a, a < 3 → ∀ b, b < 3 → a ≠ b → (TX2 a).2.1 ≠ (TX2 b).2.1 := by decide +kernel
theorem tyX2_ok : ∀ k, k < 3 → parseFieldDescriptor (TX2 k).2.2.1 = some (tyX2 k) := by decide +kernel
abbrev cX2_init : ByteArray := prog_4_method_1_code
def yX2_init : MethodName := ⟨RX2, "<init>", "()V"⟩
abbrev cX2_record : ByteArray := prog_4_method_2_code
def yX2_record : MethodName := ⟨RX2, "record", "(II)V"⟩
abbrev cX2_lastOwner : ByteArray := prog_4_method_3_code
def yX2_lastOwner : MethodName := ⟨RX2, "lastOwner", "(I)I"⟩
def RX3 : String := "Trumpvault"
def TX3 : u_T := fun k => match k with
  | 0 => ("Trumpvault", "cards", "LTrumpvault$Cards;", true)
  | 1 => ("Trumpvault", "bids", "LTrumpvault$Bids;", true)
  | 2 => ("Trumpvault", "history", "LTrumpvault$History;", true)
  | 3 => ("Trumpvault", "purses", "[I", true)
  | 4 => ("Trumpvault", "bannedFrom", "[I", true)
  | 5 => ("Trumpvault", "decks", "[I", true)
  | 6 => ("Trumpvault", "nextNumber", "I", false)
  | _ => ("Trumpvault", "today", "I", false)
def tyX3 : Nat → FieldType := fun k => match k with
  | 0 => .object "Trumpvault$Cards"
  | 1 => .object "Trumpvault$Bids"
  | 2 => .object "Trumpvault$History"
  | 3 => .array .int
  | 4 => .array .int
  | 5 => .array .int
  | 6 => .int
  | _ => .int
abbrev wsX30 : List Cond := u_ws RX3 TX3 8
theorem nmX3 : ∀ a, a < 8 → ∀ b, b < 8 → a ≠ b → (TX3 a).2.1 ≠ (TX3 b).2.1 := by decide +kernel
theorem tyX3_ok : ∀ k, k < 8 → parseFieldDescriptor (TX3 k).2.2.1 = some (tyX3 k) := by decide +kernel
abbrev cX3_init : ByteArray := prog_1_method_1_code
def yX3_init : MethodName := ⟨RX3, "<init>", "()V"⟩
abbrev cX3_mint : ByteArray := prog_1_method_2_code
def yX3_mint : MethodName := ⟨RX3, "mint", "(II)I"⟩
abbrev cX3_owner : ByteArray := prog_1_method_3_code
def yX3_owner : MethodName := ⟨RX3, "owner", "(I)I"⟩
abbrev cX3_ownerByHistory : ByteArray := prog_1_method_4_code
def yX3_ownerByHistory : MethodName := ⟨RX3, "ownerByHistory", "(I)I"⟩
abbrev cX3_holder : ByteArray := prog_1_method_5_code
def yX3_holder : MethodName := ⟨RX3, "holder", "(I)I"⟩
abbrev cX3_stateOf : ByteArray := prog_1_method_6_code
def yX3_stateOf : MethodName := ⟨RX3, "stateOf", "(I)I"⟩
abbrev cX3_coins : ByteArray := prog_1_method_7_code
def yX3_coins : MethodName := ⟨RX3, "coins", "(I)I"⟩
abbrev cX3_sell : ByteArray := prog_1_method_8_code
def yX3_sell : MethodName := ⟨RX3, "sell", "(II)I"⟩
abbrev cX3_bid : ByteArray := prog_1_method_9_code
def yX3_bid : MethodName := ⟨RX3, "bid", "(III)I"⟩
abbrev cX3_cancelSale : ByteArray := prog_1_method_10_code
def yX3_cancelSale : MethodName := ⟨RX3, "cancelSale", "(I)I"⟩
abbrev cX3_cancelBid : ByteArray := prog_1_method_11_code
def yX3_cancelBid : MethodName := ⟨RX3, "cancelBid", "(II)I"⟩
abbrev cX3_leastSale : ByteArray := prog_1_method_12_code
def yX3_leastSale : MethodName := ⟨RX3, "leastSale", "(I)I"⟩
abbrev cX3_greatestBid : ByteArray := prog_1_method_13_code
def yX3_greatestBid : MethodName := ⟨RX3, "greatestBid", "(I)I"⟩
abbrev cX3_swap : ByteArray := prog_1_method_14_code
def yX3_swap : MethodName := ⟨RX3, "swap", "(II)V"⟩
abbrev cX3_agree : ByteArray := prog_1_method_15_code
def yX3_agree : MethodName := ⟨RX3, "agree", "(I)I"⟩
abbrev cX3_cancelSwap : ByteArray := prog_1_method_16_code
def yX3_cancelSwap : MethodName := ⟨RX3, "cancelSwap", "(I)V"⟩
abbrev cX3_lend : ByteArray := prog_1_method_17_code
def yX3_lend : MethodName := ⟨RX3, "lend", "(III)I"⟩
abbrev cX3_ban : ByteArray := prog_1_method_18_code
def yX3_ban : MethodName := ⟨RX3, "ban", "(II)I"⟩
abbrev cX3_lift : ByteArray := prog_1_method_19_code
def yX3_lift : MethodName := ⟨RX3, "lift", "(I)Z"⟩
abbrev cX3_isBanned : ByteArray := prog_1_method_20_code
def yX3_isBanned : MethodName := ⟨RX3, "isBanned", "(I)Z"⟩
abbrev cX3_pass : ByteArray := prog_1_method_21_code
def yX3_pass : MethodName := ⟨RX3, "pass", "(I)I"⟩
abbrev cX3_toggleDeck : ByteArray := prog_1_method_22_code
def yX3_toggleDeck : MethodName := ⟨RX3, "toggleDeck", "(II)I"⟩
abbrev cX3_isRight : ByteArray := prog_1_method_23_code
def yX3_isRight : MethodName := ⟨RX3, "isRight", "(I)Z"⟩
abbrev cX3_strength : ByteArray := prog_1_method_24_code
def yX3_strength : MethodName := ⟨RX3, "strength", "(I)I"⟩
abbrev cX3_play : ByteArray := prog_1_method_25_code
def yX3_play : MethodName := ⟨RX3, "play", "(II)I"⟩
abbrev cX3_needPlayer : ByteArray := prog_1_method_26_code
def yX3_needPlayer : MethodName := ⟨RX3, "needPlayer", "(I)V"⟩
abbrev cX3_needKind : ByteArray := prog_1_method_27_code
def yX3_needKind : MethodName := ⟨RX3, "needKind", "(I)V"⟩
abbrev cX3_needCard : ByteArray := prog_1_method_28_code
def yX3_needCard : MethodName := ⟨RX3, "needCard", "(I)V"⟩
abbrev cX3_needPrice : ByteArray := prog_1_method_29_code
def yX3_needPrice : MethodName := ⟨RX3, "needPrice", "(I)V"⟩
abbrev cX3_bannedToday : ByteArray := prog_1_method_30_code
def yX3_bannedToday : MethodName := ⟨RX3, "bannedToday", "(I)Z"⟩
abbrev cX3_giveTo : ByteArray := prog_1_method_31_code
def yX3_giveTo : MethodName := ⟨RX3, "giveTo", "(II)V"⟩
abbrev cX3_giveBidBack : ByteArray := prog_1_method_32_code
def yX3_giveBidBack : MethodName := ⟨RX3, "giveBidBack", "(II)I"⟩
abbrev cX3_clearMarket : ByteArray := prog_1_method_33_code
def yX3_clearMarket : MethodName := ⟨RX3, "clearMarket", "(I)I"⟩
abbrev cX3_inDeck : ByteArray := prog_1_method_34_code
def yX3_inDeck : MethodName := ⟨RX3, "inDeck", "(II)Z"⟩
abbrev cX3_deckIsRight : ByteArray := prog_1_method_35_code
def yX3_deckIsRight : MethodName := ⟨RX3, "deckIsRight", "(I)Z"⟩
abbrev cX3_isPlayable : ByteArray := prog_1_method_36_code
def yX3_isPlayable : MethodName := ⟨RX3, "isPlayable", "(II)Z"⟩
abbrev cX3_deckStrength : ByteArray := prog_1_method_37_code
def yX3_deckStrength : MethodName := ⟨RX3, "deckStrength", "(I)I"⟩
def RX4 : String := "TrumpvaultModel"
def TX4 : u_T := fun k => match k with
  | 0 => ("TrumpvaultModel", "today", "I", false)
  | 1 => ("TrumpvaultModel", "coins", "[I", true)
  | 2 => ("TrumpvaultModel", "kindOf", "[I", true)
  | 3 => ("TrumpvaultModel", "owner", "[I", true)
  | 4 => ("TrumpvaultModel", "state", "[I", true)
  | 5 => ("TrumpvaultModel", "price", "[I", true)
  | 6 => ("TrumpvaultModel", "number", "[I", true)
  | 7 => ("TrumpvaultModel", "swapFor", "[I", true)
  | 8 => ("TrumpvaultModel", "holder", "[I", true)
  | 9 => ("TrumpvaultModel", "back", "[I", true)
  | 10 => ("TrumpvaultModel", "cards", "I", false)
  | 11 => ("TrumpvaultModel", "bidPrice", "[I", true)
  | 12 => ("TrumpvaultModel", "bidNumber", "[I", true)
  | 13 => ("TrumpvaultModel", "made", "I", false)
  | 14 => ("TrumpvaultModel", "banDay", "[I", true)
  | 15 => ("TrumpvaultModel", "deck", "[I", true)
  | _ => ("TrumpvaultModel", "thrown", "I", false)
def tyX4 : Nat → FieldType := fun k => match k with
  | 0 => .int
  | 1 => .array .int
  | 2 => .array .int
  | 3 => .array .int
  | 4 => .array .int
  | 5 => .array .int
  | 6 => .array .int
  | 7 => .array .int
  | 8 => .array .int
  | 9 => .array .int
  | 10 => .int
  | 11 => .array .int
  | 12 => .array .int
  | 13 => .int
  | 14 => .array .int
  | 15 => .array .int
  | _ => .int
abbrev wsX40 : List Cond := u_ws RX4 TX4 17
theorem nmX4 : ∀ a, a < 17 → ∀ b, b < 17 → a ≠ b → (TX4 a).2.1 ≠ (TX4 b).2.1 := by decide +kernel
theorem tyX4_ok : ∀ k, k < 17 → parseFieldDescriptor (TX4 k).2.2.1 = some (tyX4 k) := by decide +kernel
abbrev cX4_init : ByteArray := prog_6_method_1_code
def yX4_init : MethodName := ⟨RX4, "<init>", "()V"⟩
abbrev cX4_thrown : ByteArray := prog_6_method_2_code
def yX4_thrown : MethodName := ⟨RX4, "thrown", "()I"⟩
abbrev cX4_in : ByteArray := prog_6_method_3_code
def yX4_in : MethodName := ⟨RX4, "in", "(III)Z"⟩
abbrev cX4_asked : ByteArray := prog_6_method_4_code
def yX4_asked : MethodName := ⟨RX4, "asked", "(Z)Z"⟩
abbrev cX4_asked_ : ByteArray := prog_6_method_5_code
def yX4_asked_ : MethodName := ⟨RX4, "asked", "(ZZ)Z"⟩
abbrev cX4_asked__ : ByteArray := prog_6_method_6_code
def yX4_asked__ : MethodName := ⟨RX4, "asked", "(ZZZ)Z"⟩
abbrev cX4_isPlayer : ByteArray := prog_6_method_7_code
def yX4_isPlayer : MethodName := ⟨RX4, "isPlayer", "(I)Z"⟩
abbrev cX4_isKind : ByteArray := prog_6_method_8_code
def yX4_isKind : MethodName := ⟨RX4, "isKind", "(I)Z"⟩
abbrev cX4_isCard : ByteArray := prog_6_method_9_code
def yX4_isCard : MethodName := ⟨RX4, "isCard", "(I)Z"⟩
abbrev cX4_banned : ByteArray := prog_6_method_10_code
def yX4_banned : MethodName := ⟨RX4, "banned", "(I)Z"⟩
abbrev cX4_mint : ByteArray := prog_6_method_11_code
def yX4_mint : MethodName := ⟨RX4, "mint", "(II)I"⟩
abbrev cX4_owner : ByteArray := prog_6_method_12_code
def yX4_owner : MethodName := ⟨RX4, "owner", "(I)I"⟩
abbrev cX4_ownerByHistory : ByteArray := prog_6_method_13_code
def yX4_ownerByHistory : MethodName := ⟨RX4, "ownerByHistory", "(I)I"⟩
abbrev cX4_holds : ByteArray := prog_6_method_14_code
def yX4_holds : MethodName := ⟨RX4, "holds", "(I)I"⟩
abbrev cX4_holder : ByteArray := prog_6_method_15_code
def yX4_holder : MethodName := ⟨RX4, "holder", "(I)I"⟩
abbrev cX4_stateOf : ByteArray := prog_6_method_16_code
def yX4_stateOf : MethodName := ⟨RX4, "stateOf", "(I)I"⟩
abbrev cX4_coins : ByteArray := prog_6_method_17_code
def yX4_coins : MethodName := ⟨RX4, "coins", "(I)I"⟩
abbrev cX4_bidder : ByteArray := prog_6_method_18_code
def yX4_bidder : MethodName := ⟨RX4, "bidder", "(II)I"⟩
abbrev cX4_offer : ByteArray := prog_6_method_19_code
def yX4_offer : MethodName := ⟨RX4, "offer", "(II)I"⟩
abbrev cX4_sell : ByteArray := prog_6_method_20_code
def yX4_sell : MethodName := ⟨RX4, "sell", "(II)I"⟩
abbrev cX4_bid : ByteArray := prog_6_method_21_code
def yX4_bid : MethodName := ⟨RX4, "bid", "(III)I"⟩
abbrev cX4_cancelSale : ByteArray := prog_6_method_22_code
def yX4_cancelSale : MethodName := ⟨RX4, "cancelSale", "(I)I"⟩
abbrev cX4_cancelBid : ByteArray := prog_6_method_23_code
def yX4_cancelBid : MethodName := ⟨RX4, "cancelBid", "(II)I"⟩
abbrev cX4_leastSale : ByteArray := prog_6_method_24_code
def yX4_leastSale : MethodName := ⟨RX4, "leastSale", "(I)I"⟩
abbrev cX4_greatestBid : ByteArray := prog_6_method_25_code
def yX4_greatestBid : MethodName := ⟨RX4, "greatestBid", "(I)I"⟩
abbrev cX4_swap : ByteArray := prog_6_method_26_code
def yX4_swap : MethodName := ⟨RX4, "swap", "(II)V"⟩
abbrev cX4_agree : ByteArray := prog_6_method_27_code
def yX4_agree : MethodName := ⟨RX4, "agree", "(I)I"⟩
abbrev cX4_cancelSwap : ByteArray := prog_6_method_28_code
def yX4_cancelSwap : MethodName := ⟨RX4, "cancelSwap", "(I)V"⟩
abbrev cX4_lend : ByteArray := prog_6_method_29_code
def yX4_lend : MethodName := ⟨RX4, "lend", "(III)I"⟩
abbrev cX4_clears : ByteArray := prog_6_method_30_code
def yX4_clears : MethodName := ⟨RX4, "clears", "(I)I"⟩
abbrev cX4_ban : ByteArray := prog_6_method_31_code
def yX4_ban : MethodName := ⟨RX4, "ban", "(II)I"⟩
abbrev cX4_lift : ByteArray := prog_6_method_32_code
def yX4_lift : MethodName := ⟨RX4, "lift", "(I)Z"⟩
abbrev cX4_isBanned : ByteArray := prog_6_method_33_code
def yX4_isBanned : MethodName := ⟨RX4, "isBanned", "(I)Z"⟩
abbrev cX4_pass : ByteArray := prog_6_method_34_code
def yX4_pass : MethodName := ⟨RX4, "pass", "(I)I"⟩
abbrev cX4_size : ByteArray := prog_6_method_35_code
def yX4_size : MethodName := ⟨RX4, "size", "(I)I"⟩
abbrev cX4_toggleDeck : ByteArray := prog_6_method_36_code
def yX4_toggleDeck : MethodName := ⟨RX4, "toggleDeck", "(II)I"⟩
abbrev cX4_right : ByteArray := prog_6_method_37_code
def yX4_right : MethodName := ⟨RX4, "right", "(I)Z"⟩
abbrev cX4_strengthOf : ByteArray := prog_6_method_38_code
def yX4_strengthOf : MethodName := ⟨RX4, "strengthOf", "(I)I"⟩
abbrev cX4_isRight : ByteArray := prog_6_method_39_code
def yX4_isRight : MethodName := ⟨RX4, "isRight", "(I)Z"⟩
abbrev cX4_strength : ByteArray := prog_6_method_40_code
def yX4_strength : MethodName := ⟨RX4, "strength", "(I)I"⟩
abbrev cX4_play : ByteArray := prog_6_method_41_code
def yX4_play : MethodName := ⟨RX4, "play", "(II)I"⟩
def RJx145de : String := "java/io/Serializable"
def TJx145de : u_T := fun k => match k with
  | _ => ("", "", "", false)
def tyJx145de : Nat → FieldType := fun k => match k with
  | _ => .int
abbrev wsJx145de0 : List Cond := u_ws RJx145de TJx145de 0
theorem nmJx145de : ∀ a, a < 0 → ∀ b, b < 0 → a ≠ b → (TJx145de a).2.1 ≠ (TJx145de b).2.1 := by decide +kernel
theorem tyJx145de_ok : ∀ k, k < 0 → parseFieldDescriptor (TJx145de k).2.2.1 = some (tyJx145de k) := by decide +kernel
def RJ6 : String := "java/lang/Integer"
def TJ6 : u_T := fun k => match k with
  | _ => ("", "", "", false)
def tyJ6 : Nat → FieldType := fun k => match k with
  | _ => .int
abbrev wsJ60 : List Cond := u_ws RJ6 TJ6 0
theorem nmJ6 : ∀ a, a < 0 → ∀ b, b < 0 → a ≠ b → (TJ6 a).2.1 ≠ (TJ6 b).2.1 := by decide +kernel
theorem tyJ6_ok : ∀ k, k < 0 → parseFieldDescriptor (TJ6 k).2.2.1 = some (tyJ6 k) := by decide +kernel
abbrev cJ6_bitCount_0f7a4 : ByteArray := prog_11_method_49_code
def yJ6_bitCount_0f7a4 : MethodName := ⟨RJ6, "bitCount", "(I)I"⟩
def RJ0 : String := "java/lang/String"
def TJ0 : u_T := fun k => match k with
  | _ => ("", "", "", false)
def tyJ0 : Nat → FieldType := fun k => match k with
  | _ => .int
abbrev wsJ00 : List Cond := u_ws RJ0 TJ0 0
theorem nmJ0 : ∀ a, a < 0 → ∀ b, b < 0 → a ≠ b → (TJ0 a).2.1 ≠ (TJ0 b).2.1 := by decide +kernel
theorem tyJ0_ok : ∀ k, k < 0 → parseFieldDescriptor (TJ0 k).2.2.1 = some (tyJ0 k) := by decide +kernel
def RJ7 : String := "java/util/Arrays"
def TJ7 : u_T := fun k => match k with
  | _ => ("", "", "", false)
def tyJ7 : Nat → FieldType := fun k => match k with
  | _ => .int
abbrev wsJ70 : List Cond := u_ws RJ7 TJ7 0
theorem nmJ7 : ∀ a, a < 0 → ∀ b, b < 0 → a ≠ b → (TJ7 a).2.1 ≠ (TJ7 b).2.1 := by decide +kernel
theorem tyJ7_ok : ∀ k, k < 0 → parseFieldDescriptor (TJ7 k).2.2.1 = some (tyJ7 k) := by decide +kernel
abbrev cJ7_fill_53178 : ByteArray := prog_15_method_103_code
def yJ7_fill_53178 : MethodName := ⟨RJ7, "fill", "([II)V"⟩
def RL : String := "TrumpvaultLaw"
abbrev cL_mint : ByteArray := method_3_code
def yL_mint : MethodName := ⟨RL, "mint", "(LTrumpvault;II[J)I"⟩
abbrev cL_owner : ByteArray := method_4_code
def yL_owner : MethodName := ⟨RL, "owner", "(LTrumpvault;I[J)I"⟩
abbrev cL_ownerByHistory : ByteArray := method_5_code
def yL_ownerByHistory : MethodName := ⟨RL, "ownerByHistory", "(LTrumpvault;I[J)I"⟩
abbrev cL_holder : ByteArray := method_6_code
def yL_holder : MethodName := ⟨RL, "holder", "(LTrumpvault;I[J)I"⟩
abbrev cL_stateOf : ByteArray := method_7_code
def yL_stateOf : MethodName := ⟨RL, "stateOf", "(LTrumpvault;I[J)I"⟩
abbrev cL_coins : ByteArray := method_8_code
def yL_coins : MethodName := ⟨RL, "coins", "(LTrumpvault;I[J)I"⟩
abbrev cL_sell : ByteArray := method_9_code
def yL_sell : MethodName := ⟨RL, "sell", "(LTrumpvault;II[J)I"⟩
abbrev cL_bid : ByteArray := method_10_code
def yL_bid : MethodName := ⟨RL, "bid", "(LTrumpvault;III[J)I"⟩
abbrev cL_cancelSale : ByteArray := method_11_code
def yL_cancelSale : MethodName := ⟨RL, "cancelSale", "(LTrumpvault;I[J)I"⟩
abbrev cL_cancelBid : ByteArray := method_12_code
def yL_cancelBid : MethodName := ⟨RL, "cancelBid", "(LTrumpvault;II[J)I"⟩
abbrev cL_leastSale : ByteArray := method_13_code
def yL_leastSale : MethodName := ⟨RL, "leastSale", "(LTrumpvault;I[J)I"⟩
abbrev cL_greatestBid : ByteArray := method_14_code
def yL_greatestBid : MethodName := ⟨RL, "greatestBid", "(LTrumpvault;I[J)I"⟩
abbrev cL_swap : ByteArray := method_15_code
def yL_swap : MethodName := ⟨RL, "swap", "(LTrumpvault;II)I"⟩
abbrev cL_agree : ByteArray := method_16_code
def yL_agree : MethodName := ⟨RL, "agree", "(LTrumpvault;I[J)I"⟩
abbrev cL_cancelSwap : ByteArray := method_17_code
def yL_cancelSwap : MethodName := ⟨RL, "cancelSwap", "(LTrumpvault;I)I"⟩
abbrev cL_lend : ByteArray := method_18_code
def yL_lend : MethodName := ⟨RL, "lend", "(LTrumpvault;III[J)I"⟩
abbrev cL_ban : ByteArray := method_19_code
def yL_ban : MethodName := ⟨RL, "ban", "(LTrumpvault;II[J)I"⟩
abbrev cL_lift : ByteArray := method_20_code
def yL_lift : MethodName := ⟨RL, "lift", "(LTrumpvault;I[J)I"⟩
abbrev cL_isBanned : ByteArray := method_21_code
def yL_isBanned : MethodName := ⟨RL, "isBanned", "(LTrumpvault;I[J)I"⟩
abbrev cL_pass : ByteArray := method_22_code
def yL_pass : MethodName := ⟨RL, "pass", "(LTrumpvault;I[J)I"⟩
abbrev cL_toggleDeck : ByteArray := method_23_code
def yL_toggleDeck : MethodName := ⟨RL, "toggleDeck", "(LTrumpvault;II[J)I"⟩
abbrev cL_isRight : ByteArray := method_24_code
def yL_isRight : MethodName := ⟨RL, "isRight", "(LTrumpvault;I[J)I"⟩
abbrev cL_strength : ByteArray := method_25_code
def yL_strength : MethodName := ⟨RL, "strength", "(LTrumpvault;I[J)I"⟩
abbrev cL_play : ByteArray := method_26_code
def yL_play : MethodName := ⟨RL, "play", "(LTrumpvault;II[J)I"⟩
abbrev cL_law : ByteArray := code
def yL_law : MethodName := ⟨RL, "law", "([I)Z"⟩
def wsX0_init : List Cond := .code yX0_init cX0_init 1 none :: ([.methodLink RX0 3 objectInit, .instanceMethod objectInit, .code objectInit ⟨#[0xb1]⟩ 1 none, .classLink RX0 9 "[[I", .arrayClass .int, .fieldLink RX0 11 "Trumpvault$Bids" "prices" "[[I", .fieldLink RX0 16 "Trumpvault$Bids" "numbers" "[[I"] ++ wsX00)
def wsX0_has : List Cond := .code yX0_has cX0_has 3 (some .boolean) :: ([.fieldLink RX0 11 "Trumpvault$Bids" "prices" "[[I"] ++ wsX00)
def wsX0_put : List Cond := .code yX0_put cX0_put 5 none :: ([.fieldLink RX0 11 "Trumpvault$Bids" "prices" "[[I", .fieldLink RX0 16 "Trumpvault$Bids" "numbers" "[[I"] ++ wsX00)
def wsX0_take : List Cond := .code yX0_take cX0_take 4 (some .int) :: ([.fieldLink RX0 11 "Trumpvault$Bids" "prices" "[[I"] ++ wsX00)
def wsX0_isBefore : List Cond := .code yX0_isBefore cX0_isBefore 6 (some .boolean) :: ([.fieldLink RX0 11 "Trumpvault$Bids" "prices" "[[I", .fieldLink RX0 16 "Trumpvault$Bids" "numbers" "[[I"] ++ wsX00)
def wsX0_bestBidder : List Cond := .code yX0_bestBidder cX0_bestBidder 5 (some .int) :: ([.methodLink RX0 19 yX0_has, .instanceMethod yX0_has, .selects RX0 yX0_has yX0_has, .initialized RX0, .code yX0_has cX0_has 3 (some .boolean), .fieldLink RX0 11 "Trumpvault$Bids" "prices" "[[I", .methodLink RX0 23 yX0_isBefore, .instanceMethod yX0_isBefore, .selects RX0 yX0_isBefore yX0_isBefore, .code yX0_isBefore cX0_isBefore 6 (some .boolean), .fieldLink RX0 16 "Trumpvault$Bids" "numbers" "[[I"] ++ wsX00)
def wsX1_init : List Cond := .code yX1_init cX1_init 1 none :: ([.methodLink RX1 3 objectInit, .instanceMethod objectInit, .code objectInit ⟨#[0xb1]⟩ 1 none, .arrayClass .int, .fieldLink RX1 9 "Trumpvault$Cards" "kinds" "[I", .fieldLink RX1 15 "Trumpvault$Cards" "owners" "[I", .fieldLink RX1 18 "Trumpvault$Cards" "states" "[I", .fieldLink RX1 21 "Trumpvault$Cards" "salePrices" "[I", .fieldLink RX1 24 "Trumpvault$Cards" "saleNumbers" "[I", .fieldLink RX1 27 "Trumpvault$Cards" "swapOthers" "[I", .fieldLink RX1 30 "Trumpvault$Cards" "borrowers" "[I", .fieldLink RX1 33 "Trumpvault$Cards" "returnDays" "[I", .fieldLink RX1 36 "Trumpvault$Cards" "count" "I"] ++ wsX10)
def wsX1_has : List Cond := .code yX1_has cX1_has 2 (some .boolean) :: ([.fieldLink RX1 36 "Trumpvault$Cards" "count" "I"] ++ wsX10)
def wsX1_isFull : List Cond := .code yX1_isFull cX1_isFull 1 (some .boolean) :: ([.fieldLink RX1 36 "Trumpvault$Cards" "count" "I"] ++ wsX10)
def wsX1_add : List Cond := .code yX1_add cX1_add 4 (some .int) :: ([.fieldLink RX1 36 "Trumpvault$Cards" "count" "I", .fieldLink RX1 9 "Trumpvault$Cards" "kinds" "[I", .fieldLink RX1 15 "Trumpvault$Cards" "owners" "[I", .fieldLink RX1 18 "Trumpvault$Cards" "states" "[I"] ++ wsX10)
def wsX1_holderOf : List Cond := .code yX1_holderOf cX1_holderOf 2 (some .int) :: ([.fieldLink RX1 18 "Trumpvault$Cards" "states" "[I", .fieldLink RX1 30 "Trumpvault$Cards" "borrowers" "[I", .fieldLink RX1 15 "Trumpvault$Cards" "owners" "[I"] ++ wsX10)
def wsX1_putSale : List Cond := .code yX1_putSale cX1_putSale 4 none :: ([.fieldLink RX1 18 "Trumpvault$Cards" "states" "[I", .fieldLink RX1 21 "Trumpvault$Cards" "salePrices" "[I", .fieldLink RX1 24 "Trumpvault$Cards" "saleNumbers" "[I"] ++ wsX10)
def wsX1_takeSale : List Cond := .code yX1_takeSale cX1_takeSale 2 (some .int) :: ([.fieldLink RX1 18 "Trumpvault$Cards" "states" "[I", .fieldLink RX1 21 "Trumpvault$Cards" "salePrices" "[I"] ++ wsX10)
def wsX1_isOnSale : List Cond := .code yX1_isOnSale cX1_isOnSale 3 (some .boolean) :: ([.fieldLink RX1 18 "Trumpvault$Cards" "states" "[I", .fieldLink RX1 9 "Trumpvault$Cards" "kinds" "[I"] ++ wsX10)
def wsX1_takeSalesOf : List Cond := .code yX1_takeSalesOf cX1_takeSalesOf 4 (some .int) :: ([.fieldLink RX1 36 "Trumpvault$Cards" "count" "I", .methodLink RX1 40 yX1_isOnSale, .instanceMethod yX1_isOnSale, .selects RX1 yX1_isOnSale yX1_isOnSale, .initialized RX1, .code yX1_isOnSale cX1_isOnSale 3 (some .boolean), .fieldLink RX1 18 "Trumpvault$Cards" "states" "[I", .fieldLink RX1 9 "Trumpvault$Cards" "kinds" "[I", .methodLink RX1 44 yX1_takeSale, .instanceMethod yX1_takeSale, .selects RX1 yX1_takeSale yX1_takeSale, .code yX1_takeSale cX1_takeSale 2 (some .int), .fieldLink RX1 21 "Trumpvault$Cards" "salePrices" "[I"] ++ wsX10)
def wsX1_saleIsBefore : List Cond := .code yX1_saleIsBefore cX1_saleIsBefore 3 (some .boolean) :: ([.fieldLink RX1 21 "Trumpvault$Cards" "salePrices" "[I", .fieldLink RX1 24 "Trumpvault$Cards" "saleNumbers" "[I"] ++ wsX10)
def wsX1_bestSale : List Cond := .code yX1_bestSale cX1_bestSale 5 (some .int) :: ([.fieldLink RX1 36 "Trumpvault$Cards" "count" "I", .fieldLink RX1 15 "Trumpvault$Cards" "owners" "[I", .methodLink RX1 40 yX1_isOnSale, .instanceMethod yX1_isOnSale, .selects RX1 yX1_isOnSale yX1_isOnSale, .initialized RX1, .code yX1_isOnSale cX1_isOnSale 3 (some .boolean), .fieldLink RX1 18 "Trumpvault$Cards" "states" "[I", .fieldLink RX1 9 "Trumpvault$Cards" "kinds" "[I", .methodLink RX1 48 yX1_saleIsBefore, .instanceMethod yX1_saleIsBefore, .selects RX1 yX1_saleIsBefore yX1_saleIsBefore, .code yX1_saleIsBefore cX1_saleIsBefore 3 (some .boolean), .fieldLink RX1 21 "Trumpvault$Cards" "salePrices" "[I", .fieldLink RX1 24 "Trumpvault$Cards" "saleNumbers" "[I"] ++ wsX10)
def wsX1_canBeSwapped : List Cond := .code yX1_canBeSwapped cX1_canBeSwapped 3 (some .boolean) :: ([.fieldLink RX1 27 "Trumpvault$Cards" "swapOthers" "[I", .fieldLink RX1 18 "Trumpvault$Cards" "states" "[I", .fieldLink RX1 15 "Trumpvault$Cards" "owners" "[I", .methodLink RX1 51 yX1_has, .instanceMethod yX1_has, .selects RX1 yX1_has yX1_has, .initialized RX1, .code yX1_has cX1_has 2 (some .boolean), .fieldLink RX1 36 "Trumpvault$Cards" "count" "I"] ++ wsX10)
def wsX1_lendTo : List Cond := .code yX1_lendTo cX1_lendTo 4 none :: ([.fieldLink RX1 18 "Trumpvault$Cards" "states" "[I", .fieldLink RX1 30 "Trumpvault$Cards" "borrowers" "[I", .fieldLink RX1 33 "Trumpvault$Cards" "returnDays" "[I"] ++ wsX10)
def wsX1_endLoans : List Cond := .code yX1_endLoans cX1_endLoans 3 none :: ([.fieldLink RX1 36 "Trumpvault$Cards" "count" "I", .fieldLink RX1 18 "Trumpvault$Cards" "states" "[I", .fieldLink RX1 33 "Trumpvault$Cards" "returnDays" "[I"] ++ wsX10)
def wsX2_init : List Cond := .code yX2_init cX2_init 1 none :: ([.methodLink RX2 3 objectInit, .instanceMethod objectInit, .code objectInit ⟨#[0xb1]⟩ 1 none, .arrayClass .int, .fieldLink RX2 9 "Trumpvault$History" "movedCards" "[I", .fieldLink RX2 15 "Trumpvault$History" "newOwners" "[I", .fieldLink RX2 18 "Trumpvault$History" "count" "I"] ++ wsX20)
def wsX2_record : List Cond := .code yX2_record cX2_record 3 none :: ([.fieldLink RX2 18 "Trumpvault$History" "count" "I", .fieldLink RX2 9 "Trumpvault$History" "movedCards" "[I", .fieldLink RX2 15 "Trumpvault$History" "newOwners" "[I"] ++ wsX20)
def wsX2_lastOwner : List Cond := .code yX2_lastOwner cX2_lastOwner 4 (some .int) :: ([.fieldLink RX2 18 "Trumpvault$History" "count" "I", .fieldLink RX2 9 "Trumpvault$History" "movedCards" "[I", .fieldLink RX2 15 "Trumpvault$History" "newOwners" "[I"] ++ wsX20)
def wsJ7_fill_53178 : List Cond := .code yJ7_fill_53178 cJ7_fill_53178 4 none :: ([])
def wsX3_init_r1 : List Cond := [Cond.methodLink RX3 1 objectInit, Cond.instanceMethod objectInit, Cond.code objectInit ⟨#[0xb1]⟩ 1 none, Cond.classLink RX3 7 RX1, Cond.instantiable RX1 9, Cond.initialized RX1, Cond.fieldLink RX3 10 "Trumpvault" "cards" "LTrumpvault$Cards;", Cond.classLink RX3 16 RX0, Cond.instantiable RX0 2, Cond.initialized RX0, Cond.fieldLink RX3 19 "Trumpvault" "bids" "LTrumpvault$Bids;", Cond.classLink RX3 23 RX2, Cond.instantiable RX2 3, Cond.initialized RX2, Cond.fieldLink RX3 26 "Trumpvault" "history" "LTrumpvault$History;", Cond.arrayClass .int, Cond.fieldLink RX3 30 "Trumpvault" "purses" "[I", Cond.fieldLink RX3 40 "Trumpvault" "bannedFrom" "[I", Cond.fieldLink RX3 43 "Trumpvault" "decks" "[I", Cond.fieldLink RX3 46 "Trumpvault" "nextNumber" "I", Cond.fieldLink RX3 50 "Trumpvault" "today" "I", Cond.instanceMethod yX1_init, Cond.code yX1_init cX1_init 1 none, Cond.methodLink RX1 3 objectInit]
def wsX3_init_r2 : List Cond := [Cond.fieldLink RX1 9 "Trumpvault$Cards" "kinds" "[I", Cond.fieldLink RX1 15 "Trumpvault$Cards" "owners" "[I", Cond.fieldLink RX1 18 "Trumpvault$Cards" "states" "[I", Cond.fieldLink RX1 21 "Trumpvault$Cards" "salePrices" "[I", Cond.fieldLink RX1 24 "Trumpvault$Cards" "saleNumbers" "[I", Cond.fieldLink RX1 27 "Trumpvault$Cards" "swapOthers" "[I", Cond.fieldLink RX1 30 "Trumpvault$Cards" "borrowers" "[I", Cond.fieldLink RX1 33 "Trumpvault$Cards" "returnDays" "[I", Cond.fieldLink RX1 36 "Trumpvault$Cards" "count" "I", Cond.instanceMethod yX0_init, Cond.code yX0_init cX0_init 1 none, Cond.methodLink RX0 3 objectInit, Cond.classLink RX0 9 "[[I", Cond.fieldLink RX0 11 "Trumpvault$Bids" "prices" "[[I", Cond.fieldLink RX0 16 "Trumpvault$Bids" "numbers" "[[I", Cond.instanceMethod yX2_init, Cond.code yX2_init cX2_init 1 none, Cond.methodLink RX2 3 objectInit, Cond.fieldLink RX2 9 "Trumpvault$History" "movedCards" "[I", Cond.fieldLink RX2 15 "Trumpvault$History" "newOwners" "[I", Cond.fieldLink RX2 18 "Trumpvault$History" "count" "I", Cond.methodLink RX3 34 yJ7_fill_53178, Cond.static yJ7_fill_53178, Cond.initialized RJ7]
def wsX3_init_r3 : List Cond := [Cond.code yJ7_fill_53178 cJ7_fill_53178 4 none]
def wsX3_init : List Cond := .code yX3_init cX3_init 1 none :: ((wsX3_init_r1 ++ (wsX3_init_r2 ++ wsX3_init_r3)) ++ wsX10 ++ wsX30 ++ wsX00 ++ wsX20)
def wsX3_needPlayer : List Cond := .code yX3_needPlayer cX3_needPlayer 1 none :: ([.classLink RX3 197 "java/lang/IndexOutOfBoundsException", .initialized "java/lang/IndexOutOfBoundsException"] ++ (vx_atS RX3 201 "java/lang/IndexOutOfBoundsException" ["java/lang/RuntimeException", "java/lang/Exception"]).filter goodWord)
def wsX3_needKind : List Cond := .code yX3_needKind cX3_needKind 1 none :: ([.classLink RX3 197 "java/lang/IndexOutOfBoundsException", .initialized "java/lang/IndexOutOfBoundsException"] ++ (vx_atS RX3 201 "java/lang/IndexOutOfBoundsException" ["java/lang/RuntimeException", "java/lang/Exception"]).filter goodWord)
def wsX3_mint_r1 : List Cond := [Cond.classLink RX3 64 "java/lang/IllegalStateException", Cond.initialized "java/lang/IllegalStateException", Cond.fieldLink RX3 10 "Trumpvault" "cards" "LTrumpvault$Cards;", Cond.fieldLink RX3 26 "Trumpvault" "history" "LTrumpvault$History;", Cond.methodLink RX3 53 yX3_needPlayer, Cond.static yX3_needPlayer, Cond.initialized RX3, Cond.code yX3_needPlayer cX3_needPlayer 1 none, Cond.classLink RX3 197 "java/lang/IndexOutOfBoundsException", Cond.initialized "java/lang/IndexOutOfBoundsException", Cond.methodLink RX3 57 yX3_needKind, Cond.static yX3_needKind, Cond.code yX3_needKind cX3_needKind 1 none, Cond.methodLink RX3 60 yX1_isFull, Cond.instanceMethod yX1_isFull, Cond.selects RX1 yX1_isFull yX1_isFull, Cond.initialized RX1, Cond.code yX1_isFull cX1_isFull 1 (some .boolean), Cond.fieldLink RX1 36 "Trumpvault$Cards" "count" "I", Cond.methodLink RX3 71 yX1_add, Cond.instanceMethod yX1_add, Cond.selects RX1 yX1_add yX1_add, Cond.code yX1_add cX1_add 4 (some .int), Cond.fieldLink RX1 9 "Trumpvault$Cards" "kinds" "[I"]
def wsX3_mint_r2 : List Cond := [Cond.fieldLink RX1 15 "Trumpvault$Cards" "owners" "[I", Cond.fieldLink RX1 18 "Trumpvault$Cards" "states" "[I", Cond.methodLink RX3 75 yX2_record, Cond.instanceMethod yX2_record, Cond.selects RX2 yX2_record yX2_record, Cond.initialized RX2, Cond.code yX2_record cX2_record 3 none, Cond.fieldLink RX2 18 "Trumpvault$History" "count" "I", Cond.fieldLink RX2 9 "Trumpvault$History" "movedCards" "[I", Cond.fieldLink RX2 15 "Trumpvault$History" "newOwners" "[I"]
def wsX3_mint : List Cond := .code yX3_mint cX3_mint 4 (some .int) :: ((wsX3_mint_r1 ++ wsX3_mint_r2) ++ wsX30 ++ wsX10 ++ wsX20 ++ (vx_atS RX3 68 "java/lang/IllegalStateException" ["java/lang/RuntimeException", "java/lang/Exception"]).filter goodWord ++ (vx_atS RX3 201 "java/lang/IndexOutOfBoundsException" ["java/lang/RuntimeException", "java/lang/Exception"]).filter goodWord)
def wsX3_needCard : List Cond := .code yX3_needCard cX3_needCard 2 none :: ([.classLink RX3 197 "java/lang/IndexOutOfBoundsException", .initialized "java/lang/IndexOutOfBoundsException", .fieldLink RX3 10 "Trumpvault" "cards" "LTrumpvault$Cards;", .methodLink RX3 204 yX1_has, .instanceMethod yX1_has, .selects RX1 yX1_has yX1_has, .initialized RX1, .code yX1_has cX1_has 2 (some .boolean), .fieldLink RX1 36 "Trumpvault$Cards" "count" "I"] ++ wsX30 ++ wsX10 ++ (vx_atS RX3 201 "java/lang/IndexOutOfBoundsException" ["java/lang/RuntimeException", "java/lang/Exception"]).filter goodWord)
def wsX3_owner : List Cond := .code yX3_owner cX3_owner 2 (some .int) :: ([.fieldLink RX3 10 "Trumpvault" "cards" "LTrumpvault$Cards;", .fieldLink RX3 82 "Trumpvault$Cards" "owners" "[I", .methodLink RX3 79 yX3_needCard, .instanceMethod yX3_needCard, .selects RX3 yX3_needCard yX3_needCard, .initialized RX3, .code yX3_needCard cX3_needCard 2 none, .classLink RX3 197 "java/lang/IndexOutOfBoundsException", .initialized "java/lang/IndexOutOfBoundsException", .methodLink RX3 204 yX1_has, .instanceMethod yX1_has, .selects RX1 yX1_has yX1_has, .initialized RX1, .code yX1_has cX1_has 2 (some .boolean), .fieldLink RX1 36 "Trumpvault$Cards" "count" "I"] ++ wsX30 ++ wsX10 ++ (vx_atS RX3 201 "java/lang/IndexOutOfBoundsException" ["java/lang/RuntimeException", "java/lang/Exception"]).filter goodWord)
def wsX3_ownerByHistory : List Cond := .code yX3_ownerByHistory cX3_ownerByHistory 2 (some .int) :: ([.fieldLink RX3 26 "Trumpvault" "history" "LTrumpvault$History;", .methodLink RX3 79 yX3_needCard, .instanceMethod yX3_needCard, .selects RX3 yX3_needCard yX3_needCard, .initialized RX3, .code yX3_needCard cX3_needCard 2 none, .classLink RX3 197 "java/lang/IndexOutOfBoundsException", .initialized "java/lang/IndexOutOfBoundsException", .fieldLink RX3 10 "Trumpvault" "cards" "LTrumpvault$Cards;", .methodLink RX3 204 yX1_has, .instanceMethod yX1_has, .selects RX1 yX1_has yX1_has, .initialized RX1, .code yX1_has cX1_has 2 (some .boolean), .fieldLink RX1 36 "Trumpvault$Cards" "count" "I", .methodLink RX3 85 yX2_lastOwner, .instanceMethod yX2_lastOwner, .selects RX2 yX2_lastOwner yX2_lastOwner, .initialized RX2, .code yX2_lastOwner cX2_lastOwner 4 (some .int), .fieldLink RX2 18 "Trumpvault$History" "count" "I", .fieldLink RX2 9 "Trumpvault$History" "movedCards" "[I", .fieldLink RX2 15 "Trumpvault$History" "newOwners" "[I"] ++ wsX30 ++ wsX10 ++ wsX20 ++ (vx_atS RX3 201 "java/lang/IndexOutOfBoundsException" ["java/lang/RuntimeException", "java/lang/Exception"]).filter goodWord)
def wsX3_holder : List Cond := .code yX3_holder cX3_holder 2 (some .int) :: ([.fieldLink RX3 10 "Trumpvault" "cards" "LTrumpvault$Cards;", .methodLink RX3 79 yX3_needCard, .instanceMethod yX3_needCard, .selects RX3 yX3_needCard yX3_needCard, .initialized RX3, .code yX3_needCard cX3_needCard 2 none, .classLink RX3 197 "java/lang/IndexOutOfBoundsException", .initialized "java/lang/IndexOutOfBoundsException", .methodLink RX3 204 yX1_has, .instanceMethod yX1_has, .selects RX1 yX1_has yX1_has, .initialized RX1, .code yX1_has cX1_has 2 (some .boolean), .fieldLink RX1 36 "Trumpvault$Cards" "count" "I", .methodLink RX3 89 yX1_holderOf, .instanceMethod yX1_holderOf, .selects RX1 yX1_holderOf yX1_holderOf, .code yX1_holderOf cX1_holderOf 2 (some .int), .fieldLink RX1 18 "Trumpvault$Cards" "states" "[I", .fieldLink RX1 30 "Trumpvault$Cards" "borrowers" "[I", .fieldLink RX1 15 "Trumpvault$Cards" "owners" "[I"] ++ wsX30 ++ wsX10 ++ (vx_atS RX3 201 "java/lang/IndexOutOfBoundsException" ["java/lang/RuntimeException", "java/lang/Exception"]).filter goodWord)
def wsX3_stateOf : List Cond := .code yX3_stateOf cX3_stateOf 2 (some .int) :: ([.fieldLink RX3 10 "Trumpvault" "cards" "LTrumpvault$Cards;", .fieldLink RX3 92 "Trumpvault$Cards" "states" "[I", .methodLink RX3 79 yX3_needCard, .instanceMethod yX3_needCard, .selects RX3 yX3_needCard yX3_needCard, .initialized RX3, .code yX3_needCard cX3_needCard 2 none, .classLink RX3 197 "java/lang/IndexOutOfBoundsException", .initialized "java/lang/IndexOutOfBoundsException", .methodLink RX3 204 yX1_has, .instanceMethod yX1_has, .selects RX1 yX1_has yX1_has, .initialized RX1, .code yX1_has cX1_has 2 (some .boolean), .fieldLink RX1 36 "Trumpvault$Cards" "count" "I"] ++ wsX30 ++ wsX10 ++ (vx_atS RX3 201 "java/lang/IndexOutOfBoundsException" ["java/lang/RuntimeException", "java/lang/Exception"]).filter goodWord)
def wsX3_coins : List Cond := .code yX3_coins cX3_coins 2 (some .int) :: ([.fieldLink RX3 30 "Trumpvault" "purses" "[I", .methodLink RX3 53 yX3_needPlayer, .static yX3_needPlayer, .initialized RX3, .code yX3_needPlayer cX3_needPlayer 1 none, .classLink RX3 197 "java/lang/IndexOutOfBoundsException", .initialized "java/lang/IndexOutOfBoundsException"] ++ wsX30 ++ (vx_atS RX3 201 "java/lang/IndexOutOfBoundsException" ["java/lang/RuntimeException", "java/lang/Exception"]).filter goodWord)
def wsX3_needPrice : List Cond := .code yX3_needPrice cX3_needPrice 1 none :: ([.classLink RX3 150 "java/lang/IllegalArgumentException", .initialized "java/lang/IllegalArgumentException"] ++ (vx_atS RX3 154 "java/lang/IllegalArgumentException" ["java/lang/RuntimeException", "java/lang/Exception"]).filter goodWord)
def wsX3_bannedToday : List Cond := .code yX3_bannedToday cX3_bannedToday 2 (some .boolean) :: ([.fieldLink RX3 40 "Trumpvault" "bannedFrom" "[I", .fieldLink RX3 50 "Trumpvault" "today" "I"] ++ wsX30)
def wsX3_giveTo : List Cond := .code yX3_giveTo cX3_giveTo 3 none :: ([.fieldLink RX3 10 "Trumpvault" "cards" "LTrumpvault$Cards;", .fieldLink RX3 82 "Trumpvault$Cards" "owners" "[I", .fieldLink RX3 92 "Trumpvault$Cards" "states" "[I", .fieldLink RX3 26 "Trumpvault" "history" "LTrumpvault$History;", .methodLink RX3 75 yX2_record, .instanceMethod yX2_record, .selects RX2 yX2_record yX2_record, .initialized RX2, .code yX2_record cX2_record 3 none, .fieldLink RX2 18 "Trumpvault$History" "count" "I", .fieldLink RX2 9 "Trumpvault$History" "movedCards" "[I", .fieldLink RX2 15 "Trumpvault$History" "newOwners" "[I"] ++ wsX30 ++ wsX10 ++ wsX20)
def wsX3_sell_r1 : List Cond := [Cond.classLink RX3 64 "java/lang/IllegalStateException", Cond.initialized "java/lang/IllegalStateException", Cond.fieldLink RX3 10 "Trumpvault" "cards" "LTrumpvault$Cards;", Cond.fieldLink RX3 98 "Trumpvault$Cards" "kinds" "[I", Cond.fieldLink RX3 92 "Trumpvault$Cards" "states" "[I", Cond.fieldLink RX3 19 "Trumpvault" "bids" "LTrumpvault$Bids;", Cond.fieldLink RX3 82 "Trumpvault$Cards" "owners" "[I", Cond.fieldLink RX3 110 "Trumpvault$Bids" "prices" "[[I", Cond.fieldLink RX3 46 "Trumpvault" "nextNumber" "I", Cond.fieldLink RX3 30 "Trumpvault" "purses" "[I", Cond.methodLink RX3 79 yX3_needCard, Cond.instanceMethod yX3_needCard, Cond.selects RX3 yX3_needCard yX3_needCard, Cond.initialized RX3, Cond.code yX3_needCard cX3_needCard 2 none, Cond.classLink RX3 197 "java/lang/IndexOutOfBoundsException", Cond.initialized "java/lang/IndexOutOfBoundsException", Cond.methodLink RX3 204 yX1_has, Cond.instanceMethod yX1_has, Cond.selects RX1 yX1_has yX1_has, Cond.initialized RX1, Cond.code yX1_has cX1_has 2 (some .boolean), Cond.fieldLink RX1 36 "Trumpvault$Cards" "count" "I", Cond.methodLink RX3 95 yX3_needPrice]
def wsX3_sell_r2 : List Cond := [Cond.static yX3_needPrice, Cond.code yX3_needPrice cX3_needPrice 1 none, Cond.classLink RX3 150 "java/lang/IllegalArgumentException", Cond.initialized "java/lang/IllegalArgumentException", Cond.methodLink RX3 101 yX3_bannedToday, Cond.instanceMethod yX3_bannedToday, Cond.selects RX3 yX3_bannedToday yX3_bannedToday, Cond.code yX3_bannedToday cX3_bannedToday 2 (some .boolean), Cond.fieldLink RX3 40 "Trumpvault" "bannedFrom" "[I", Cond.fieldLink RX3 50 "Trumpvault" "today" "I", Cond.methodLink RX3 107 yX0_bestBidder, Cond.instanceMethod yX0_bestBidder, Cond.selects RX0 yX0_bestBidder yX0_bestBidder, Cond.initialized RX0, Cond.code yX0_bestBidder cX0_bestBidder 5 (some .int), Cond.methodLink RX0 19 yX0_has, Cond.instanceMethod yX0_has, Cond.selects RX0 yX0_has yX0_has, Cond.code yX0_has cX0_has 3 (some .boolean), Cond.fieldLink RX0 11 "Trumpvault$Bids" "prices" "[[I", Cond.methodLink RX0 23 yX0_isBefore, Cond.instanceMethod yX0_isBefore, Cond.selects RX0 yX0_isBefore yX0_isBefore, Cond.code yX0_isBefore cX0_isBefore 6 (some .boolean)]
def wsX3_sell_r3 : List Cond := [Cond.fieldLink RX0 16 "Trumpvault$Bids" "numbers" "[[I", Cond.methodLink RX3 114 yX1_putSale, Cond.instanceMethod yX1_putSale, Cond.selects RX1 yX1_putSale yX1_putSale, Cond.code yX1_putSale cX1_putSale 4 none, Cond.fieldLink RX1 18 "Trumpvault$Cards" "states" "[I", Cond.fieldLink RX1 21 "Trumpvault$Cards" "salePrices" "[I", Cond.fieldLink RX1 24 "Trumpvault$Cards" "saleNumbers" "[I", Cond.methodLink RX3 118 yX0_take, Cond.instanceMethod yX0_take, Cond.selects RX0 yX0_take yX0_take, Cond.code yX0_take cX0_take 4 (some .int), Cond.methodLink RX3 121 yX3_giveTo, Cond.instanceMethod yX3_giveTo, Cond.selects RX3 yX3_giveTo yX3_giveTo, Cond.code yX3_giveTo cX3_giveTo 3 none, Cond.fieldLink RX3 26 "Trumpvault" "history" "LTrumpvault$History;", Cond.methodLink RX3 75 yX2_record, Cond.instanceMethod yX2_record, Cond.selects RX2 yX2_record yX2_record, Cond.initialized RX2, Cond.code yX2_record cX2_record 3 none, Cond.fieldLink RX2 18 "Trumpvault$History" "count" "I", Cond.fieldLink RX2 9 "Trumpvault$History" "movedCards" "[I"]
def wsX3_sell_r4 : List Cond := [Cond.fieldLink RX2 15 "Trumpvault$History" "newOwners" "[I"]
def wsX3_sell : List Cond := .code yX3_sell cX3_sell 6 (some .int) :: ((wsX3_sell_r1 ++ (wsX3_sell_r2 ++ (wsX3_sell_r3 ++ wsX3_sell_r4))) ++ wsX30 ++ wsX10 ++ wsX00 ++ wsX20 ++ (vx_atS RX3 68 "java/lang/IllegalStateException" ["java/lang/RuntimeException", "java/lang/Exception"]).filter goodWord ++ (vx_atS RX3 201 "java/lang/IndexOutOfBoundsException" ["java/lang/RuntimeException", "java/lang/Exception"]).filter goodWord ++ (vx_atS RX3 154 "java/lang/IllegalArgumentException" ["java/lang/RuntimeException", "java/lang/Exception"]).filter goodWord)
def wsX3_bid_r1 : List Cond := [Cond.classLink RX3 64 "java/lang/IllegalStateException", Cond.initialized "java/lang/IllegalStateException", Cond.fieldLink RX3 30 "Trumpvault" "purses" "[I", Cond.fieldLink RX3 19 "Trumpvault" "bids" "LTrumpvault$Bids;", Cond.fieldLink RX3 10 "Trumpvault" "cards" "LTrumpvault$Cards;", Cond.fieldLink RX3 133 "Trumpvault$Cards" "salePrices" "[I", Cond.fieldLink RX3 46 "Trumpvault" "nextNumber" "I", Cond.fieldLink RX3 82 "Trumpvault$Cards" "owners" "[I", Cond.methodLink RX3 53 yX3_needPlayer, Cond.static yX3_needPlayer, Cond.initialized RX3, Cond.code yX3_needPlayer cX3_needPlayer 1 none, Cond.classLink RX3 197 "java/lang/IndexOutOfBoundsException", Cond.initialized "java/lang/IndexOutOfBoundsException", Cond.methodLink RX3 57 yX3_needKind, Cond.static yX3_needKind, Cond.code yX3_needKind cX3_needKind 1 none, Cond.methodLink RX3 95 yX3_needPrice, Cond.static yX3_needPrice, Cond.code yX3_needPrice cX3_needPrice 1 none, Cond.classLink RX3 150 "java/lang/IllegalArgumentException", Cond.initialized "java/lang/IllegalArgumentException", Cond.methodLink RX3 124 yX0_has, Cond.instanceMethod yX0_has]
def wsX3_bid_r2 : List Cond := [Cond.selects RX0 yX0_has yX0_has, Cond.initialized RX0, Cond.code yX0_has cX0_has 3 (some .boolean), Cond.fieldLink RX0 11 "Trumpvault$Bids" "prices" "[[I", Cond.methodLink RX3 101 yX3_bannedToday, Cond.instanceMethod yX3_bannedToday, Cond.selects RX3 yX3_bannedToday yX3_bannedToday, Cond.code yX3_bannedToday cX3_bannedToday 2 (some .boolean), Cond.fieldLink RX3 40 "Trumpvault" "bannedFrom" "[I", Cond.fieldLink RX3 50 "Trumpvault" "today" "I", Cond.methodLink RX3 130 yX1_bestSale, Cond.instanceMethod yX1_bestSale, Cond.selects RX1 yX1_bestSale yX1_bestSale, Cond.initialized RX1, Cond.code yX1_bestSale cX1_bestSale 5 (some .int), Cond.fieldLink RX1 36 "Trumpvault$Cards" "count" "I", Cond.fieldLink RX1 15 "Trumpvault$Cards" "owners" "[I", Cond.methodLink RX1 40 yX1_isOnSale, Cond.instanceMethod yX1_isOnSale, Cond.selects RX1 yX1_isOnSale yX1_isOnSale, Cond.code yX1_isOnSale cX1_isOnSale 3 (some .boolean), Cond.fieldLink RX1 18 "Trumpvault$Cards" "states" "[I", Cond.fieldLink RX1 9 "Trumpvault$Cards" "kinds" "[I", Cond.methodLink RX1 48 yX1_saleIsBefore]
def wsX3_bid_r3 : List Cond := [Cond.instanceMethod yX1_saleIsBefore, Cond.selects RX1 yX1_saleIsBefore yX1_saleIsBefore, Cond.code yX1_saleIsBefore cX1_saleIsBefore 3 (some .boolean), Cond.fieldLink RX1 21 "Trumpvault$Cards" "salePrices" "[I", Cond.fieldLink RX1 24 "Trumpvault$Cards" "saleNumbers" "[I", Cond.methodLink RX3 136 yX0_put, Cond.instanceMethod yX0_put, Cond.selects RX0 yX0_put yX0_put, Cond.code yX0_put cX0_put 5 none, Cond.fieldLink RX0 16 "Trumpvault$Bids" "numbers" "[[I", Cond.methodLink RX3 140 yX1_takeSale, Cond.instanceMethod yX1_takeSale, Cond.selects RX1 yX1_takeSale yX1_takeSale, Cond.code yX1_takeSale cX1_takeSale 2 (some .int), Cond.methodLink RX3 121 yX3_giveTo, Cond.instanceMethod yX3_giveTo, Cond.selects RX3 yX3_giveTo yX3_giveTo, Cond.code yX3_giveTo cX3_giveTo 3 none, Cond.fieldLink RX3 92 "Trumpvault$Cards" "states" "[I", Cond.fieldLink RX3 26 "Trumpvault" "history" "LTrumpvault$History;", Cond.methodLink RX3 75 yX2_record, Cond.instanceMethod yX2_record, Cond.selects RX2 yX2_record yX2_record, Cond.initialized RX2]
def wsX3_bid_r4 : List Cond := [Cond.code yX2_record cX2_record 3 none, Cond.fieldLink RX2 18 "Trumpvault$History" "count" "I", Cond.fieldLink RX2 9 "Trumpvault$History" "movedCards" "[I", Cond.fieldLink RX2 15 "Trumpvault$History" "newOwners" "[I"]
def wsX3_bid : List Cond := .code yX3_bid cX3_bid 6 (some .int) :: ((wsX3_bid_r1 ++ (wsX3_bid_r2 ++ (wsX3_bid_r3 ++ wsX3_bid_r4))) ++ wsX30 ++ wsX10 ++ wsX00 ++ wsX20 ++ (vx_atS RX3 68 "java/lang/IllegalStateException" ["java/lang/RuntimeException", "java/lang/Exception"]).filter goodWord ++ (vx_atS RX3 201 "java/lang/IndexOutOfBoundsException" ["java/lang/RuntimeException", "java/lang/Exception"]).filter goodWord ++ (vx_atS RX3 154 "java/lang/IllegalArgumentException" ["java/lang/RuntimeException", "java/lang/Exception"]).filter goodWord)
def wsX3_cancelSale : List Cond := .code yX3_cancelSale cX3_cancelSale 2 (some .int) :: ([.classLink RX3 64 "java/lang/IllegalStateException", .initialized "java/lang/IllegalStateException", .fieldLink RX3 10 "Trumpvault" "cards" "LTrumpvault$Cards;", .fieldLink RX3 92 "Trumpvault$Cards" "states" "[I", .methodLink RX3 79 yX3_needCard, .instanceMethod yX3_needCard, .selects RX3 yX3_needCard yX3_needCard, .initialized RX3, .code yX3_needCard cX3_needCard 2 none, .classLink RX3 197 "java/lang/IndexOutOfBoundsException", .initialized "java/lang/IndexOutOfBoundsException", .methodLink RX3 204 yX1_has, .instanceMethod yX1_has, .selects RX1 yX1_has yX1_has, .initialized RX1, .code yX1_has cX1_has 2 (some .boolean), .fieldLink RX1 36 "Trumpvault$Cards" "count" "I", .methodLink RX3 140 yX1_takeSale, .instanceMethod yX1_takeSale, .selects RX1 yX1_takeSale yX1_takeSale, .code yX1_takeSale cX1_takeSale 2 (some .int), .fieldLink RX1 18 "Trumpvault$Cards" "states" "[I", .fieldLink RX1 21 "Trumpvault$Cards" "salePrices" "[I"] ++ wsX30 ++ wsX10 ++ (vx_atS RX3 68 "java/lang/IllegalStateException" ["java/lang/RuntimeException", "java/lang/Exception"]).filter goodWord ++ (vx_atS RX3 201 "java/lang/IndexOutOfBoundsException" ["java/lang/RuntimeException", "java/lang/Exception"]).filter goodWord)
def wsX3_giveBidBack : List Cond := .code yX3_giveBidBack cX3_giveBidBack 4 (some .int) :: ([.fieldLink RX3 19 "Trumpvault" "bids" "LTrumpvault$Bids;", .fieldLink RX3 30 "Trumpvault" "purses" "[I", .methodLink RX3 118 yX0_take, .instanceMethod yX0_take, .selects RX0 yX0_take yX0_take, .initialized RX0, .code yX0_take cX0_take 4 (some .int), .fieldLink RX0 11 "Trumpvault$Bids" "prices" "[[I"] ++ wsX30 ++ wsX00)
def wsX3_cancelBid_r1 : List Cond := [Cond.classLink RX3 64 "java/lang/IllegalStateException", Cond.initialized "java/lang/IllegalStateException", Cond.fieldLink RX3 19 "Trumpvault" "bids" "LTrumpvault$Bids;", Cond.methodLink RX3 53 yX3_needPlayer, Cond.static yX3_needPlayer, Cond.initialized RX3, Cond.code yX3_needPlayer cX3_needPlayer 1 none, Cond.classLink RX3 197 "java/lang/IndexOutOfBoundsException", Cond.initialized "java/lang/IndexOutOfBoundsException", Cond.methodLink RX3 57 yX3_needKind, Cond.static yX3_needKind, Cond.code yX3_needKind cX3_needKind 1 none, Cond.methodLink RX3 124 yX0_has, Cond.instanceMethod yX0_has, Cond.selects RX0 yX0_has yX0_has, Cond.initialized RX0, Cond.code yX0_has cX0_has 3 (some .boolean), Cond.fieldLink RX0 11 "Trumpvault$Bids" "prices" "[[I", Cond.methodLink RX3 147 yX3_giveBidBack, Cond.instanceMethod yX3_giveBidBack, Cond.selects RX3 yX3_giveBidBack yX3_giveBidBack, Cond.code yX3_giveBidBack cX3_giveBidBack 4 (some .int), Cond.fieldLink RX3 30 "Trumpvault" "purses" "[I", Cond.methodLink RX3 118 yX0_take]
def wsX3_cancelBid_r2 : List Cond := [Cond.instanceMethod yX0_take, Cond.selects RX0 yX0_take yX0_take, Cond.code yX0_take cX0_take 4 (some .int)]
def wsX3_cancelBid : List Cond := .code yX3_cancelBid cX3_cancelBid 3 (some .int) :: ((wsX3_cancelBid_r1 ++ wsX3_cancelBid_r2) ++ wsX30 ++ wsX00 ++ (vx_atS RX3 68 "java/lang/IllegalStateException" ["java/lang/RuntimeException", "java/lang/Exception"]).filter goodWord ++ (vx_atS RX3 201 "java/lang/IndexOutOfBoundsException" ["java/lang/RuntimeException", "java/lang/Exception"]).filter goodWord)
def wsX3_leastSale_r1 : List Cond := [Cond.fieldLink RX3 10 "Trumpvault" "cards" "LTrumpvault$Cards;", Cond.fieldLink RX3 133 "Trumpvault$Cards" "salePrices" "[I", Cond.methodLink RX3 57 yX3_needKind, Cond.static yX3_needKind, Cond.initialized RX3, Cond.code yX3_needKind cX3_needKind 1 none, Cond.classLink RX3 197 "java/lang/IndexOutOfBoundsException", Cond.initialized "java/lang/IndexOutOfBoundsException", Cond.methodLink RX3 130 yX1_bestSale, Cond.instanceMethod yX1_bestSale, Cond.selects RX1 yX1_bestSale yX1_bestSale, Cond.initialized RX1, Cond.code yX1_bestSale cX1_bestSale 5 (some .int), Cond.fieldLink RX1 36 "Trumpvault$Cards" "count" "I", Cond.fieldLink RX1 15 "Trumpvault$Cards" "owners" "[I", Cond.methodLink RX1 40 yX1_isOnSale, Cond.instanceMethod yX1_isOnSale, Cond.selects RX1 yX1_isOnSale yX1_isOnSale, Cond.code yX1_isOnSale cX1_isOnSale 3 (some .boolean), Cond.fieldLink RX1 18 "Trumpvault$Cards" "states" "[I", Cond.fieldLink RX1 9 "Trumpvault$Cards" "kinds" "[I", Cond.methodLink RX1 48 yX1_saleIsBefore, Cond.instanceMethod yX1_saleIsBefore, Cond.selects RX1 yX1_saleIsBefore yX1_saleIsBefore]
def wsX3_leastSale_r2 : List Cond := [Cond.code yX1_saleIsBefore cX1_saleIsBefore 3 (some .boolean), Cond.fieldLink RX1 21 "Trumpvault$Cards" "salePrices" "[I", Cond.fieldLink RX1 24 "Trumpvault$Cards" "saleNumbers" "[I"]
def wsX3_leastSale : List Cond := .code yX3_leastSale cX3_leastSale 3 (some .int) :: ((wsX3_leastSale_r1 ++ wsX3_leastSale_r2) ++ wsX30 ++ wsX10 ++ (vx_atS RX3 201 "java/lang/IndexOutOfBoundsException" ["java/lang/RuntimeException", "java/lang/Exception"]).filter goodWord)
def wsX3_greatestBid : List Cond := .code yX3_greatestBid cX3_greatestBid 3 (some .int) :: ([.fieldLink RX3 19 "Trumpvault" "bids" "LTrumpvault$Bids;", .fieldLink RX3 110 "Trumpvault$Bids" "prices" "[[I", .methodLink RX3 57 yX3_needKind, .static yX3_needKind, .initialized RX3, .code yX3_needKind cX3_needKind 1 none, .classLink RX3 197 "java/lang/IndexOutOfBoundsException", .initialized "java/lang/IndexOutOfBoundsException", .methodLink RX3 107 yX0_bestBidder, .instanceMethod yX0_bestBidder, .selects RX0 yX0_bestBidder yX0_bestBidder, .initialized RX0, .code yX0_bestBidder cX0_bestBidder 5 (some .int), .methodLink RX0 19 yX0_has, .instanceMethod yX0_has, .selects RX0 yX0_has yX0_has, .code yX0_has cX0_has 3 (some .boolean), .fieldLink RX0 11 "Trumpvault$Bids" "prices" "[[I", .methodLink RX0 23 yX0_isBefore, .instanceMethod yX0_isBefore, .selects RX0 yX0_isBefore yX0_isBefore, .code yX0_isBefore cX0_isBefore 6 (some .boolean), .fieldLink RX0 16 "Trumpvault$Bids" "numbers" "[[I"] ++ wsX30 ++ wsX00 ++ (vx_atS RX3 201 "java/lang/IndexOutOfBoundsException" ["java/lang/RuntimeException", "java/lang/Exception"]).filter goodWord)
def wsX3_swap : List Cond := .code yX3_swap cX3_swap 3 none :: ([.classLink RX3 150 "java/lang/IllegalArgumentException", .initialized "java/lang/IllegalArgumentException", .classLink RX3 64 "java/lang/IllegalStateException", .initialized "java/lang/IllegalStateException", .fieldLink RX3 10 "Trumpvault" "cards" "LTrumpvault$Cards;", .fieldLink RX3 82 "Trumpvault$Cards" "owners" "[I", .fieldLink RX3 92 "Trumpvault$Cards" "states" "[I", .fieldLink RX3 157 "Trumpvault$Cards" "swapOthers" "[I", .methodLink RX3 79 yX3_needCard, .instanceMethod yX3_needCard, .selects RX3 yX3_needCard yX3_needCard, .initialized RX3, .code yX3_needCard cX3_needCard 2 none, .classLink RX3 197 "java/lang/IndexOutOfBoundsException", .initialized "java/lang/IndexOutOfBoundsException", .methodLink RX3 204 yX1_has, .instanceMethod yX1_has, .selects RX1 yX1_has yX1_has, .initialized RX1, .code yX1_has cX1_has 2 (some .boolean), .fieldLink RX1 36 "Trumpvault$Cards" "count" "I"] ++ wsX30 ++ wsX10 ++ (vx_atS RX3 154 "java/lang/IllegalArgumentException" ["java/lang/RuntimeException", "java/lang/Exception"]).filter goodWord ++ (vx_atS RX3 68 "java/lang/IllegalStateException" ["java/lang/RuntimeException", "java/lang/Exception"]).filter goodWord ++ (vx_atS RX3 201 "java/lang/IndexOutOfBoundsException" ["java/lang/RuntimeException", "java/lang/Exception"]).filter goodWord)
def wsX3_agree_r1 : List Cond := [Cond.classLink RX3 64 "java/lang/IllegalStateException", Cond.initialized "java/lang/IllegalStateException", Cond.fieldLink RX3 10 "Trumpvault" "cards" "LTrumpvault$Cards;", Cond.fieldLink RX3 157 "Trumpvault$Cards" "swapOthers" "[I", Cond.fieldLink RX3 82 "Trumpvault$Cards" "owners" "[I", Cond.methodLink RX3 79 yX3_needCard, Cond.instanceMethod yX3_needCard, Cond.selects RX3 yX3_needCard yX3_needCard, Cond.initialized RX3, Cond.code yX3_needCard cX3_needCard 2 none, Cond.classLink RX3 197 "java/lang/IndexOutOfBoundsException", Cond.initialized "java/lang/IndexOutOfBoundsException", Cond.methodLink RX3 204 yX1_has, Cond.instanceMethod yX1_has, Cond.selects RX1 yX1_has yX1_has, Cond.initialized RX1, Cond.code yX1_has cX1_has 2 (some .boolean), Cond.fieldLink RX1 36 "Trumpvault$Cards" "count" "I", Cond.methodLink RX3 160 yX1_canBeSwapped, Cond.instanceMethod yX1_canBeSwapped, Cond.selects RX1 yX1_canBeSwapped yX1_canBeSwapped, Cond.code yX1_canBeSwapped cX1_canBeSwapped 3 (some .boolean), Cond.fieldLink RX1 27 "Trumpvault$Cards" "swapOthers" "[I", Cond.fieldLink RX1 18 "Trumpvault$Cards" "states" "[I"]
def wsX3_agree_r2 : List Cond := [Cond.fieldLink RX1 15 "Trumpvault$Cards" "owners" "[I", Cond.methodLink RX1 51 yX1_has, Cond.methodLink RX3 121 yX3_giveTo, Cond.instanceMethod yX3_giveTo, Cond.selects RX3 yX3_giveTo yX3_giveTo, Cond.code yX3_giveTo cX3_giveTo 3 none, Cond.fieldLink RX3 92 "Trumpvault$Cards" "states" "[I", Cond.fieldLink RX3 26 "Trumpvault" "history" "LTrumpvault$History;", Cond.methodLink RX3 75 yX2_record, Cond.instanceMethod yX2_record, Cond.selects RX2 yX2_record yX2_record, Cond.initialized RX2, Cond.code yX2_record cX2_record 3 none, Cond.fieldLink RX2 18 "Trumpvault$History" "count" "I", Cond.fieldLink RX2 9 "Trumpvault$History" "movedCards" "[I", Cond.fieldLink RX2 15 "Trumpvault$History" "newOwners" "[I"]
def wsX3_agree : List Cond := .code yX3_agree cX3_agree 4 (some .int) :: ((wsX3_agree_r1 ++ wsX3_agree_r2) ++ wsX30 ++ wsX10 ++ wsX20 ++ (vx_atS RX3 68 "java/lang/IllegalStateException" ["java/lang/RuntimeException", "java/lang/Exception"]).filter goodWord ++ (vx_atS RX3 201 "java/lang/IndexOutOfBoundsException" ["java/lang/RuntimeException", "java/lang/Exception"]).filter goodWord)
def wsX3_cancelSwap : List Cond := .code yX3_cancelSwap cX3_cancelSwap 2 none :: ([.classLink RX3 64 "java/lang/IllegalStateException", .initialized "java/lang/IllegalStateException", .fieldLink RX3 10 "Trumpvault" "cards" "LTrumpvault$Cards;", .fieldLink RX3 92 "Trumpvault$Cards" "states" "[I", .methodLink RX3 79 yX3_needCard, .instanceMethod yX3_needCard, .selects RX3 yX3_needCard yX3_needCard, .initialized RX3, .code yX3_needCard cX3_needCard 2 none, .classLink RX3 197 "java/lang/IndexOutOfBoundsException", .initialized "java/lang/IndexOutOfBoundsException", .methodLink RX3 204 yX1_has, .instanceMethod yX1_has, .selects RX1 yX1_has yX1_has, .initialized RX1, .code yX1_has cX1_has 2 (some .boolean), .fieldLink RX1 36 "Trumpvault$Cards" "count" "I"] ++ wsX30 ++ wsX10 ++ (vx_atS RX3 68 "java/lang/IllegalStateException" ["java/lang/RuntimeException", "java/lang/Exception"]).filter goodWord ++ (vx_atS RX3 201 "java/lang/IndexOutOfBoundsException" ["java/lang/RuntimeException", "java/lang/Exception"]).filter goodWord)
def wsX3_lend_r1 : List Cond := [Cond.classLink RX3 150 "java/lang/IllegalArgumentException", Cond.initialized "java/lang/IllegalArgumentException", Cond.classLink RX3 64 "java/lang/IllegalStateException", Cond.initialized "java/lang/IllegalStateException", Cond.fieldLink RX3 10 "Trumpvault" "cards" "LTrumpvault$Cards;", Cond.fieldLink RX3 82 "Trumpvault$Cards" "owners" "[I", Cond.fieldLink RX3 92 "Trumpvault$Cards" "states" "[I", Cond.fieldLink RX3 50 "Trumpvault" "today" "I", Cond.methodLink RX3 79 yX3_needCard, Cond.instanceMethod yX3_needCard, Cond.selects RX3 yX3_needCard yX3_needCard, Cond.initialized RX3, Cond.code yX3_needCard cX3_needCard 2 none, Cond.classLink RX3 197 "java/lang/IndexOutOfBoundsException", Cond.initialized "java/lang/IndexOutOfBoundsException", Cond.methodLink RX3 204 yX1_has, Cond.instanceMethod yX1_has, Cond.selects RX1 yX1_has yX1_has, Cond.initialized RX1, Cond.code yX1_has cX1_has 2 (some .boolean), Cond.fieldLink RX1 36 "Trumpvault$Cards" "count" "I", Cond.methodLink RX3 53 yX3_needPlayer, Cond.static yX3_needPlayer, Cond.code yX3_needPlayer cX3_needPlayer 1 none]
def wsX3_lend_r2 : List Cond := [Cond.methodLink RX3 169 yX1_lendTo, Cond.instanceMethod yX1_lendTo, Cond.selects RX1 yX1_lendTo yX1_lendTo, Cond.code yX1_lendTo cX1_lendTo 4 none, Cond.fieldLink RX1 18 "Trumpvault$Cards" "states" "[I", Cond.fieldLink RX1 30 "Trumpvault$Cards" "borrowers" "[I", Cond.fieldLink RX1 33 "Trumpvault$Cards" "returnDays" "[I"]
def wsX3_lend : List Cond := .code yX3_lend cX3_lend 5 (some .int) :: ((wsX3_lend_r1 ++ wsX3_lend_r2) ++ wsX30 ++ wsX10 ++ (vx_atS RX3 154 "java/lang/IllegalArgumentException" ["java/lang/RuntimeException", "java/lang/Exception"]).filter goodWord ++ (vx_atS RX3 68 "java/lang/IllegalStateException" ["java/lang/RuntimeException", "java/lang/Exception"]).filter goodWord ++ (vx_atS RX3 201 "java/lang/IndexOutOfBoundsException" ["java/lang/RuntimeException", "java/lang/Exception"]).filter goodWord)
def wsX3_clearMarket_r1 : List Cond := [Cond.fieldLink RX3 10 "Trumpvault" "cards" "LTrumpvault$Cards;", Cond.fieldLink RX3 19 "Trumpvault" "bids" "LTrumpvault$Bids;", Cond.methodLink RX3 210 yX1_takeSalesOf, Cond.instanceMethod yX1_takeSalesOf, Cond.selects RX1 yX1_takeSalesOf yX1_takeSalesOf, Cond.initialized RX1, Cond.code yX1_takeSalesOf cX1_takeSalesOf 4 (some .int), Cond.fieldLink RX1 36 "Trumpvault$Cards" "count" "I", Cond.methodLink RX1 40 yX1_isOnSale, Cond.instanceMethod yX1_isOnSale, Cond.selects RX1 yX1_isOnSale yX1_isOnSale, Cond.code yX1_isOnSale cX1_isOnSale 3 (some .boolean), Cond.fieldLink RX1 18 "Trumpvault$Cards" "states" "[I", Cond.fieldLink RX1 9 "Trumpvault$Cards" "kinds" "[I", Cond.methodLink RX1 44 yX1_takeSale, Cond.instanceMethod yX1_takeSale, Cond.selects RX1 yX1_takeSale yX1_takeSale, Cond.code yX1_takeSale cX1_takeSale 2 (some .int), Cond.fieldLink RX1 21 "Trumpvault$Cards" "salePrices" "[I", Cond.methodLink RX3 124 yX0_has, Cond.instanceMethod yX0_has, Cond.selects RX0 yX0_has yX0_has, Cond.initialized RX0, Cond.code yX0_has cX0_has 3 (some .boolean)]
def wsX3_clearMarket_r2 : List Cond := [Cond.fieldLink RX0 11 "Trumpvault$Bids" "prices" "[[I", Cond.methodLink RX3 147 yX3_giveBidBack, Cond.instanceMethod yX3_giveBidBack, Cond.selects RX3 yX3_giveBidBack yX3_giveBidBack, Cond.initialized RX3, Cond.code yX3_giveBidBack cX3_giveBidBack 4 (some .int), Cond.fieldLink RX3 30 "Trumpvault" "purses" "[I", Cond.methodLink RX3 118 yX0_take, Cond.instanceMethod yX0_take, Cond.selects RX0 yX0_take yX0_take, Cond.code yX0_take cX0_take 4 (some .int)]
def wsX3_clearMarket : List Cond := .code yX3_clearMarket cX3_clearMarket 4 (some .int) :: ((wsX3_clearMarket_r1 ++ wsX3_clearMarket_r2) ++ wsX30 ++ wsX10 ++ wsX00)
def wsX3_ban_r1 : List Cond := [Cond.classLink RX3 150 "java/lang/IllegalArgumentException", Cond.initialized "java/lang/IllegalArgumentException", Cond.fieldLink RX3 50 "Trumpvault" "today" "I", Cond.fieldLink RX3 40 "Trumpvault" "bannedFrom" "[I", Cond.methodLink RX3 57 yX3_needKind, Cond.static yX3_needKind, Cond.initialized RX3, Cond.code yX3_needKind cX3_needKind 1 none, Cond.classLink RX3 197 "java/lang/IndexOutOfBoundsException", Cond.initialized "java/lang/IndexOutOfBoundsException", Cond.methodLink RX3 101 yX3_bannedToday, Cond.instanceMethod yX3_bannedToday, Cond.selects RX3 yX3_bannedToday yX3_bannedToday, Cond.code yX3_bannedToday cX3_bannedToday 2 (some .boolean), Cond.methodLink RX3 174 yX3_clearMarket, Cond.instanceMethod yX3_clearMarket, Cond.selects RX3 yX3_clearMarket yX3_clearMarket, Cond.code yX3_clearMarket cX3_clearMarket 4 (some .int), Cond.fieldLink RX3 10 "Trumpvault" "cards" "LTrumpvault$Cards;", Cond.fieldLink RX3 19 "Trumpvault" "bids" "LTrumpvault$Bids;", Cond.methodLink RX3 210 yX1_takeSalesOf, Cond.instanceMethod yX1_takeSalesOf, Cond.selects RX1 yX1_takeSalesOf yX1_takeSalesOf, Cond.initialized RX1]
def wsX3_ban_r2 : List Cond := [Cond.code yX1_takeSalesOf cX1_takeSalesOf 4 (some .int), Cond.fieldLink RX1 36 "Trumpvault$Cards" "count" "I", Cond.methodLink RX1 40 yX1_isOnSale, Cond.instanceMethod yX1_isOnSale, Cond.selects RX1 yX1_isOnSale yX1_isOnSale, Cond.code yX1_isOnSale cX1_isOnSale 3 (some .boolean), Cond.fieldLink RX1 18 "Trumpvault$Cards" "states" "[I", Cond.fieldLink RX1 9 "Trumpvault$Cards" "kinds" "[I", Cond.methodLink RX1 44 yX1_takeSale, Cond.instanceMethod yX1_takeSale, Cond.selects RX1 yX1_takeSale yX1_takeSale, Cond.code yX1_takeSale cX1_takeSale 2 (some .int), Cond.fieldLink RX1 21 "Trumpvault$Cards" "salePrices" "[I", Cond.methodLink RX3 124 yX0_has, Cond.instanceMethod yX0_has, Cond.selects RX0 yX0_has yX0_has, Cond.initialized RX0, Cond.code yX0_has cX0_has 3 (some .boolean), Cond.fieldLink RX0 11 "Trumpvault$Bids" "prices" "[[I", Cond.methodLink RX3 147 yX3_giveBidBack, Cond.instanceMethod yX3_giveBidBack, Cond.selects RX3 yX3_giveBidBack yX3_giveBidBack, Cond.code yX3_giveBidBack cX3_giveBidBack 4 (some .int), Cond.fieldLink RX3 30 "Trumpvault" "purses" "[I"]
def wsX3_ban_r3 : List Cond := [Cond.methodLink RX3 118 yX0_take, Cond.instanceMethod yX0_take, Cond.selects RX0 yX0_take yX0_take, Cond.code yX0_take cX0_take 4 (some .int)]
def wsX3_ban : List Cond := .code yX3_ban cX3_ban 3 (some .int) :: ((wsX3_ban_r1 ++ (wsX3_ban_r2 ++ wsX3_ban_r3)) ++ wsX30 ++ wsX10 ++ wsX00 ++ (vx_atS RX3 154 "java/lang/IllegalArgumentException" ["java/lang/RuntimeException", "java/lang/Exception"]).filter goodWord ++ (vx_atS RX3 201 "java/lang/IndexOutOfBoundsException" ["java/lang/RuntimeException", "java/lang/Exception"]).filter goodWord)
def wsX3_lift : List Cond := .code yX3_lift cX3_lift 3 (some .boolean) :: ([.fieldLink RX3 40 "Trumpvault" "bannedFrom" "[I", .methodLink RX3 57 yX3_needKind, .static yX3_needKind, .initialized RX3, .code yX3_needKind cX3_needKind 1 none, .classLink RX3 197 "java/lang/IndexOutOfBoundsException", .initialized "java/lang/IndexOutOfBoundsException"] ++ wsX30 ++ (vx_atS RX3 201 "java/lang/IndexOutOfBoundsException" ["java/lang/RuntimeException", "java/lang/Exception"]).filter goodWord)
def wsX3_isBanned : List Cond := .code yX3_isBanned cX3_isBanned 2 (some .boolean) :: ([.methodLink RX3 57 yX3_needKind, .static yX3_needKind, .initialized RX3, .code yX3_needKind cX3_needKind 1 none, .classLink RX3 197 "java/lang/IndexOutOfBoundsException", .initialized "java/lang/IndexOutOfBoundsException", .methodLink RX3 101 yX3_bannedToday, .instanceMethod yX3_bannedToday, .selects RX3 yX3_bannedToday yX3_bannedToday, .code yX3_bannedToday cX3_bannedToday 2 (some .boolean), .fieldLink RX3 40 "Trumpvault" "bannedFrom" "[I", .fieldLink RX3 50 "Trumpvault" "today" "I"] ++ wsX30 ++ (vx_atS RX3 201 "java/lang/IndexOutOfBoundsException" ["java/lang/RuntimeException", "java/lang/Exception"]).filter goodWord)
def wsX3_pass_r1 : List Cond := [Cond.classLink RX3 150 "java/lang/IllegalArgumentException", Cond.initialized "java/lang/IllegalArgumentException", Cond.fieldLink RX3 50 "Trumpvault" "today" "I", Cond.fieldLink RX3 10 "Trumpvault" "cards" "LTrumpvault$Cards;", Cond.methodLink RX3 179 yX1_endLoans, Cond.instanceMethod yX1_endLoans, Cond.selects RX1 yX1_endLoans yX1_endLoans, Cond.initialized RX1, Cond.code yX1_endLoans cX1_endLoans 3 none, Cond.fieldLink RX1 36 "Trumpvault$Cards" "count" "I", Cond.fieldLink RX1 18 "Trumpvault$Cards" "states" "[I", Cond.fieldLink RX1 33 "Trumpvault$Cards" "returnDays" "[I", Cond.methodLink RX3 101 yX3_bannedToday, Cond.instanceMethod yX3_bannedToday, Cond.selects RX3 yX3_bannedToday yX3_bannedToday, Cond.initialized RX3, Cond.code yX3_bannedToday cX3_bannedToday 2 (some .boolean), Cond.fieldLink RX3 40 "Trumpvault" "bannedFrom" "[I", Cond.methodLink RX3 174 yX3_clearMarket, Cond.instanceMethod yX3_clearMarket, Cond.selects RX3 yX3_clearMarket yX3_clearMarket, Cond.code yX3_clearMarket cX3_clearMarket 4 (some .int), Cond.fieldLink RX3 19 "Trumpvault" "bids" "LTrumpvault$Bids;", Cond.methodLink RX3 210 yX1_takeSalesOf]
def wsX3_pass_r2 : List Cond := [Cond.instanceMethod yX1_takeSalesOf, Cond.selects RX1 yX1_takeSalesOf yX1_takeSalesOf, Cond.code yX1_takeSalesOf cX1_takeSalesOf 4 (some .int), Cond.methodLink RX1 40 yX1_isOnSale, Cond.instanceMethod yX1_isOnSale, Cond.selects RX1 yX1_isOnSale yX1_isOnSale, Cond.code yX1_isOnSale cX1_isOnSale 3 (some .boolean), Cond.fieldLink RX1 9 "Trumpvault$Cards" "kinds" "[I", Cond.methodLink RX1 44 yX1_takeSale, Cond.instanceMethod yX1_takeSale, Cond.selects RX1 yX1_takeSale yX1_takeSale, Cond.code yX1_takeSale cX1_takeSale 2 (some .int), Cond.fieldLink RX1 21 "Trumpvault$Cards" "salePrices" "[I", Cond.methodLink RX3 124 yX0_has, Cond.instanceMethod yX0_has, Cond.selects RX0 yX0_has yX0_has, Cond.initialized RX0, Cond.code yX0_has cX0_has 3 (some .boolean), Cond.fieldLink RX0 11 "Trumpvault$Bids" "prices" "[[I", Cond.methodLink RX3 147 yX3_giveBidBack, Cond.instanceMethod yX3_giveBidBack, Cond.selects RX3 yX3_giveBidBack yX3_giveBidBack, Cond.code yX3_giveBidBack cX3_giveBidBack 4 (some .int), Cond.fieldLink RX3 30 "Trumpvault" "purses" "[I"]
def wsX3_pass_r3 : List Cond := [Cond.methodLink RX3 118 yX0_take, Cond.instanceMethod yX0_take, Cond.selects RX0 yX0_take yX0_take, Cond.code yX0_take cX0_take 4 (some .int)]
def wsX3_pass : List Cond := .code yX3_pass cX3_pass 3 (some .int) :: ((wsX3_pass_r1 ++ (wsX3_pass_r2 ++ wsX3_pass_r3)) ++ wsX30 ++ wsX10 ++ wsX00 ++ (vx_atS RX3 154 "java/lang/IllegalArgumentException" ["java/lang/RuntimeException", "java/lang/Exception"]).filter goodWord)
def wsJ6_bitCount_0f7a4 : List Cond := .code yJ6_bitCount_0f7a4 cJ6_bitCount_0f7a4 1 (some .int) :: ([.constant RJ6 265 (1431655765), .constant RJ6 266 (858993459), .constant RJ6 267 (252645135)])
def wsX3_toggleDeck_r1 : List Cond := [Cond.fieldLink RX3 43 "Trumpvault" "decks" "[I", Cond.methodLink RX3 53 yX3_needPlayer, Cond.static yX3_needPlayer, Cond.initialized RX3, Cond.code yX3_needPlayer cX3_needPlayer 1 none, Cond.classLink RX3 197 "java/lang/IndexOutOfBoundsException", Cond.initialized "java/lang/IndexOutOfBoundsException", Cond.methodLink RX3 79 yX3_needCard, Cond.instanceMethod yX3_needCard, Cond.selects RX3 yX3_needCard yX3_needCard, Cond.code yX3_needCard cX3_needCard 2 none, Cond.fieldLink RX3 10 "Trumpvault" "cards" "LTrumpvault$Cards;", Cond.methodLink RX3 204 yX1_has, Cond.instanceMethod yX1_has, Cond.selects RX1 yX1_has yX1_has, Cond.initialized RX1, Cond.code yX1_has cX1_has 2 (some .boolean), Cond.fieldLink RX1 36 "Trumpvault$Cards" "count" "I", Cond.methodLink RX3 182 yJ6_bitCount_0f7a4, Cond.static yJ6_bitCount_0f7a4, Cond.initialized RJ6, Cond.code yJ6_bitCount_0f7a4 cJ6_bitCount_0f7a4 1 (some .int), Cond.constant RJ6 265 (1431655765), Cond.constant RJ6 266 (858993459)]
def wsX3_toggleDeck_r2 : List Cond := [Cond.constant RJ6 267 (252645135)]
def wsX3_toggleDeck : List Cond := .code yX3_toggleDeck cX3_toggleDeck 3 (some .int) :: ((wsX3_toggleDeck_r1 ++ wsX3_toggleDeck_r2) ++ wsX30 ++ wsX10 ++ (vx_atS RX3 201 "java/lang/IndexOutOfBoundsException" ["java/lang/RuntimeException", "java/lang/Exception"]).filter goodWord)
def wsX3_inDeck : List Cond := .code yX3_inDeck cX3_inDeck 3 (some .boolean) :: ([.fieldLink RX3 43 "Trumpvault" "decks" "[I"] ++ wsX30)
def wsX3_isPlayable : List Cond := .code yX3_isPlayable cX3_isPlayable 4 (some .boolean) :: ([.fieldLink RX3 10 "Trumpvault" "cards" "LTrumpvault$Cards;", .fieldLink RX3 92 "Trumpvault$Cards" "states" "[I", .fieldLink RX3 98 "Trumpvault$Cards" "kinds" "[I", .methodLink RX3 89 yX1_holderOf, .instanceMethod yX1_holderOf, .selects RX1 yX1_holderOf yX1_holderOf, .initialized RX1, .code yX1_holderOf cX1_holderOf 2 (some .int), .fieldLink RX1 18 "Trumpvault$Cards" "states" "[I", .fieldLink RX1 30 "Trumpvault$Cards" "borrowers" "[I", .fieldLink RX1 15 "Trumpvault$Cards" "owners" "[I", .methodLink RX3 101 yX3_bannedToday, .instanceMethod yX3_bannedToday, .selects RX3 yX3_bannedToday yX3_bannedToday, .initialized RX3, .code yX3_bannedToday cX3_bannedToday 2 (some .boolean), .fieldLink RX3 40 "Trumpvault" "bannedFrom" "[I", .fieldLink RX3 50 "Trumpvault" "today" "I"] ++ wsX30 ++ wsX10)
def wsX3_deckIsRight_r1 : List Cond := [Cond.fieldLink RX3 43 "Trumpvault" "decks" "[I", Cond.fieldLink RX3 10 "Trumpvault" "cards" "LTrumpvault$Cards;", Cond.fieldLink RX3 213 "Trumpvault$Cards" "count" "I", Cond.methodLink RX3 182 yJ6_bitCount_0f7a4, Cond.static yJ6_bitCount_0f7a4, Cond.initialized RJ6, Cond.code yJ6_bitCount_0f7a4 cJ6_bitCount_0f7a4 1 (some .int), Cond.constant RJ6 265 (1431655765), Cond.constant RJ6 266 (858993459), Cond.constant RJ6 267 (252645135), Cond.methodLink RX3 216 yX3_inDeck, Cond.instanceMethod yX3_inDeck, Cond.selects RX3 yX3_inDeck yX3_inDeck, Cond.initialized RX3, Cond.code yX3_inDeck cX3_inDeck 3 (some .boolean), Cond.methodLink RX3 219 yX3_isPlayable, Cond.instanceMethod yX3_isPlayable, Cond.selects RX3 yX3_isPlayable yX3_isPlayable, Cond.code yX3_isPlayable cX3_isPlayable 4 (some .boolean), Cond.fieldLink RX3 92 "Trumpvault$Cards" "states" "[I", Cond.fieldLink RX3 98 "Trumpvault$Cards" "kinds" "[I", Cond.methodLink RX3 89 yX1_holderOf, Cond.instanceMethod yX1_holderOf, Cond.selects RX1 yX1_holderOf yX1_holderOf]
def wsX3_deckIsRight_r2 : List Cond := [Cond.initialized RX1, Cond.code yX1_holderOf cX1_holderOf 2 (some .int), Cond.fieldLink RX1 18 "Trumpvault$Cards" "states" "[I", Cond.fieldLink RX1 30 "Trumpvault$Cards" "borrowers" "[I", Cond.fieldLink RX1 15 "Trumpvault$Cards" "owners" "[I", Cond.methodLink RX3 101 yX3_bannedToday, Cond.instanceMethod yX3_bannedToday, Cond.selects RX3 yX3_bannedToday yX3_bannedToday, Cond.code yX3_bannedToday cX3_bannedToday 2 (some .boolean), Cond.fieldLink RX3 40 "Trumpvault" "bannedFrom" "[I", Cond.fieldLink RX3 50 "Trumpvault" "today" "I"]
def wsX3_deckIsRight : List Cond := .code yX3_deckIsRight cX3_deckIsRight 4 (some .boolean) :: ((wsX3_deckIsRight_r1 ++ wsX3_deckIsRight_r2) ++ wsX30 ++ wsX10)
def wsX3_isRight_r1 : List Cond := [Cond.methodLink RX3 53 yX3_needPlayer, Cond.static yX3_needPlayer, Cond.initialized RX3, Cond.code yX3_needPlayer cX3_needPlayer 1 none, Cond.classLink RX3 197 "java/lang/IndexOutOfBoundsException", Cond.initialized "java/lang/IndexOutOfBoundsException", Cond.methodLink RX3 187 yX3_deckIsRight, Cond.instanceMethod yX3_deckIsRight, Cond.selects RX3 yX3_deckIsRight yX3_deckIsRight, Cond.code yX3_deckIsRight cX3_deckIsRight 4 (some .boolean), Cond.fieldLink RX3 43 "Trumpvault" "decks" "[I", Cond.fieldLink RX3 10 "Trumpvault" "cards" "LTrumpvault$Cards;", Cond.fieldLink RX3 213 "Trumpvault$Cards" "count" "I", Cond.methodLink RX3 182 yJ6_bitCount_0f7a4, Cond.static yJ6_bitCount_0f7a4, Cond.initialized RJ6, Cond.code yJ6_bitCount_0f7a4 cJ6_bitCount_0f7a4 1 (some .int), Cond.constant RJ6 265 (1431655765), Cond.constant RJ6 266 (858993459), Cond.constant RJ6 267 (252645135), Cond.methodLink RX3 216 yX3_inDeck, Cond.instanceMethod yX3_inDeck, Cond.selects RX3 yX3_inDeck yX3_inDeck, Cond.code yX3_inDeck cX3_inDeck 3 (some .boolean)]
def wsX3_isRight_r2 : List Cond := [Cond.methodLink RX3 219 yX3_isPlayable, Cond.instanceMethod yX3_isPlayable, Cond.selects RX3 yX3_isPlayable yX3_isPlayable, Cond.code yX3_isPlayable cX3_isPlayable 4 (some .boolean), Cond.fieldLink RX3 92 "Trumpvault$Cards" "states" "[I", Cond.fieldLink RX3 98 "Trumpvault$Cards" "kinds" "[I", Cond.methodLink RX3 89 yX1_holderOf, Cond.instanceMethod yX1_holderOf, Cond.selects RX1 yX1_holderOf yX1_holderOf, Cond.initialized RX1, Cond.code yX1_holderOf cX1_holderOf 2 (some .int), Cond.fieldLink RX1 18 "Trumpvault$Cards" "states" "[I", Cond.fieldLink RX1 30 "Trumpvault$Cards" "borrowers" "[I", Cond.fieldLink RX1 15 "Trumpvault$Cards" "owners" "[I", Cond.methodLink RX3 101 yX3_bannedToday, Cond.instanceMethod yX3_bannedToday, Cond.selects RX3 yX3_bannedToday yX3_bannedToday, Cond.code yX3_bannedToday cX3_bannedToday 2 (some .boolean), Cond.fieldLink RX3 40 "Trumpvault" "bannedFrom" "[I", Cond.fieldLink RX3 50 "Trumpvault" "today" "I"]
def wsX3_isRight : List Cond := .code yX3_isRight cX3_isRight 2 (some .boolean) :: ((wsX3_isRight_r1 ++ wsX3_isRight_r2) ++ wsX30 ++ wsX10 ++ (vx_atS RX3 201 "java/lang/IndexOutOfBoundsException" ["java/lang/RuntimeException", "java/lang/Exception"]).filter goodWord)
def wsX3_deckStrength : List Cond := .code yX3_deckStrength cX3_deckStrength 4 (some .int) :: ([.fieldLink RX3 10 "Trumpvault" "cards" "LTrumpvault$Cards;", .fieldLink RX3 213 "Trumpvault$Cards" "count" "I", .fieldLink RX3 98 "Trumpvault$Cards" "kinds" "[I", .methodLink RX3 216 yX3_inDeck, .instanceMethod yX3_inDeck, .selects RX3 yX3_inDeck yX3_inDeck, .initialized RX3, .code yX3_inDeck cX3_inDeck 3 (some .boolean), .fieldLink RX3 43 "Trumpvault" "decks" "[I"] ++ wsX30 ++ wsX10)
def wsX3_strength : List Cond := .code yX3_strength cX3_strength 2 (some .int) :: ([.methodLink RX3 53 yX3_needPlayer, .static yX3_needPlayer, .initialized RX3, .code yX3_needPlayer cX3_needPlayer 1 none, .classLink RX3 197 "java/lang/IndexOutOfBoundsException", .initialized "java/lang/IndexOutOfBoundsException", .methodLink RX3 190 yX3_deckStrength, .instanceMethod yX3_deckStrength, .selects RX3 yX3_deckStrength yX3_deckStrength, .code yX3_deckStrength cX3_deckStrength 4 (some .int), .fieldLink RX3 10 "Trumpvault" "cards" "LTrumpvault$Cards;", .fieldLink RX3 213 "Trumpvault$Cards" "count" "I", .fieldLink RX3 98 "Trumpvault$Cards" "kinds" "[I", .methodLink RX3 216 yX3_inDeck, .instanceMethod yX3_inDeck, .selects RX3 yX3_inDeck yX3_inDeck, .code yX3_inDeck cX3_inDeck 3 (some .boolean), .fieldLink RX3 43 "Trumpvault" "decks" "[I"] ++ wsX30 ++ wsX10 ++ (vx_atS RX3 201 "java/lang/IndexOutOfBoundsException" ["java/lang/RuntimeException", "java/lang/Exception"]).filter goodWord)
def wsX3_play_r1 : List Cond := [Cond.classLink RX3 150 "java/lang/IllegalArgumentException", Cond.initialized "java/lang/IllegalArgumentException", Cond.classLink RX3 64 "java/lang/IllegalStateException", Cond.initialized "java/lang/IllegalStateException", Cond.fieldLink RX3 30 "Trumpvault" "purses" "[I", Cond.methodLink RX3 53 yX3_needPlayer, Cond.static yX3_needPlayer, Cond.initialized RX3, Cond.code yX3_needPlayer cX3_needPlayer 1 none, Cond.classLink RX3 197 "java/lang/IndexOutOfBoundsException", Cond.initialized "java/lang/IndexOutOfBoundsException", Cond.methodLink RX3 187 yX3_deckIsRight, Cond.instanceMethod yX3_deckIsRight, Cond.selects RX3 yX3_deckIsRight yX3_deckIsRight, Cond.code yX3_deckIsRight cX3_deckIsRight 4 (some .boolean), Cond.fieldLink RX3 43 "Trumpvault" "decks" "[I", Cond.fieldLink RX3 10 "Trumpvault" "cards" "LTrumpvault$Cards;", Cond.fieldLink RX3 213 "Trumpvault$Cards" "count" "I", Cond.methodLink RX3 182 yJ6_bitCount_0f7a4, Cond.static yJ6_bitCount_0f7a4, Cond.initialized RJ6, Cond.code yJ6_bitCount_0f7a4 cJ6_bitCount_0f7a4 1 (some .int), Cond.constant RJ6 265 (1431655765), Cond.constant RJ6 266 (858993459)]
def wsX3_play_r2 : List Cond := [Cond.constant RJ6 267 (252645135), Cond.methodLink RX3 216 yX3_inDeck, Cond.instanceMethod yX3_inDeck, Cond.selects RX3 yX3_inDeck yX3_inDeck, Cond.code yX3_inDeck cX3_inDeck 3 (some .boolean), Cond.methodLink RX3 219 yX3_isPlayable, Cond.instanceMethod yX3_isPlayable, Cond.selects RX3 yX3_isPlayable yX3_isPlayable, Cond.code yX3_isPlayable cX3_isPlayable 4 (some .boolean), Cond.fieldLink RX3 92 "Trumpvault$Cards" "states" "[I", Cond.fieldLink RX3 98 "Trumpvault$Cards" "kinds" "[I", Cond.methodLink RX3 89 yX1_holderOf, Cond.instanceMethod yX1_holderOf, Cond.selects RX1 yX1_holderOf yX1_holderOf, Cond.initialized RX1, Cond.code yX1_holderOf cX1_holderOf 2 (some .int), Cond.fieldLink RX1 18 "Trumpvault$Cards" "states" "[I", Cond.fieldLink RX1 30 "Trumpvault$Cards" "borrowers" "[I", Cond.fieldLink RX1 15 "Trumpvault$Cards" "owners" "[I", Cond.methodLink RX3 101 yX3_bannedToday, Cond.instanceMethod yX3_bannedToday, Cond.selects RX3 yX3_bannedToday yX3_bannedToday, Cond.code yX3_bannedToday cX3_bannedToday 2 (some .boolean), Cond.fieldLink RX3 40 "Trumpvault" "bannedFrom" "[I"]
def wsX3_play_r3 : List Cond := [Cond.fieldLink RX3 50 "Trumpvault" "today" "I", Cond.methodLink RX3 190 yX3_deckStrength, Cond.instanceMethod yX3_deckStrength, Cond.selects RX3 yX3_deckStrength yX3_deckStrength, Cond.code yX3_deckStrength cX3_deckStrength 4 (some .int)]
def wsX3_play : List Cond := .code yX3_play cX3_play 4 (some .int) :: ((wsX3_play_r1 ++ (wsX3_play_r2 ++ wsX3_play_r3)) ++ wsX30 ++ wsX10 ++ (vx_atS RX3 154 "java/lang/IllegalArgumentException" ["java/lang/RuntimeException", "java/lang/Exception"]).filter goodWord ++ (vx_atS RX3 68 "java/lang/IllegalStateException" ["java/lang/RuntimeException", "java/lang/Exception"]).filter goodWord ++ (vx_atS RX3 201 "java/lang/IndexOutOfBoundsException" ["java/lang/RuntimeException", "java/lang/Exception"]).filter goodWord)
def wsX4_init : List Cond := .code yX4_init cX4_init 2 none :: ([.methodLink RX4 1 objectInit, .instanceMethod objectInit, .code objectInit ⟨#[0xb1]⟩ 1 none, .arrayClass .int, .fieldLink RX4 7 "TrumpvaultModel" "coins" "[I", .fieldLink RX4 13 "TrumpvaultModel" "kindOf" "[I", .fieldLink RX4 16 "TrumpvaultModel" "owner" "[I", .fieldLink RX4 19 "TrumpvaultModel" "state" "[I", .fieldLink RX4 22 "TrumpvaultModel" "price" "[I", .fieldLink RX4 25 "TrumpvaultModel" "number" "[I", .fieldLink RX4 28 "TrumpvaultModel" "swapFor" "[I", .fieldLink RX4 31 "TrumpvaultModel" "holder" "[I", .fieldLink RX4 34 "TrumpvaultModel" "back" "[I", .fieldLink RX4 37 "TrumpvaultModel" "bidPrice" "[I", .fieldLink RX4 40 "TrumpvaultModel" "bidNumber" "[I", .fieldLink RX4 43 "TrumpvaultModel" "banDay" "[I", .fieldLink RX4 46 "TrumpvaultModel" "deck" "[I", .constant RX4 49 (1000000)] ++ wsX40)
def wsX4_thrown : List Cond := .code yX4_thrown cX4_thrown 1 (some .int) :: ([.fieldLink RX4 50 "TrumpvaultModel" "thrown" "I"] ++ wsX40)
def wsX4_in : List Cond := .code yX4_in cX4_in 3 (some .boolean) :: ([])
def wsX4_asked : List Cond := .code yX4_asked cX4_asked 2 (some .boolean) :: ([.fieldLink RX4 50 "TrumpvaultModel" "thrown" "I"] ++ wsX40)
def wsX4_asked_ : List Cond := .code yX4_asked_ cX4_asked_ 3 (some .boolean) :: ([.fieldLink RX4 50 "TrumpvaultModel" "thrown" "I"] ++ wsX40)
def wsX4_asked__ : List Cond := .code yX4_asked__ cX4_asked__ 4 (some .boolean) :: ([.fieldLink RX4 50 "TrumpvaultModel" "thrown" "I"] ++ wsX40)
def wsX4_isPlayer : List Cond := .code yX4_isPlayer cX4_isPlayer 1 (some .boolean) :: ([.methodLink RX4 54 yX4_in, .static yX4_in, .initialized RX4, .code yX4_in cX4_in 3 (some .boolean)])
def wsX4_isKind : List Cond := .code yX4_isKind cX4_isKind 1 (some .boolean) :: ([.methodLink RX4 54 yX4_in, .static yX4_in, .initialized RX4, .code yX4_in cX4_in 3 (some .boolean)])
def wsX4_isCard : List Cond := .code yX4_isCard cX4_isCard 2 (some .boolean) :: ([.fieldLink RX4 58 "TrumpvaultModel" "cards" "I", .methodLink RX4 54 yX4_in, .static yX4_in, .initialized RX4, .code yX4_in cX4_in 3 (some .boolean)] ++ wsX40)
def wsX4_banned : List Cond := .code yX4_banned cX4_banned 2 (some .boolean) :: ([.fieldLink RX4 43 "TrumpvaultModel" "banDay" "[I", .fieldLink RX4 61 "TrumpvaultModel" "today" "I"] ++ wsX40)
def wsX4_mint : List Cond := .code yX4_mint cX4_mint 3 (some .int) :: ([.fieldLink RX4 58 "TrumpvaultModel" "cards" "I", .fieldLink RX4 13 "TrumpvaultModel" "kindOf" "[I", .fieldLink RX4 16 "TrumpvaultModel" "owner" "[I", .fieldLink RX4 19 "TrumpvaultModel" "state" "[I", .methodLink RX4 64 yX4_isPlayer, .static yX4_isPlayer, .initialized RX4, .code yX4_isPlayer cX4_isPlayer 1 (some .boolean), .methodLink RX4 54 yX4_in, .static yX4_in, .code yX4_in cX4_in 3 (some .boolean), .methodLink RX4 68 yX4_isKind, .static yX4_isKind, .code yX4_isKind cX4_isKind 1 (some .boolean), .methodLink RX4 71 yX4_asked_, .instanceMethod yX4_asked_, .selects RX4 yX4_asked_ yX4_asked_, .code yX4_asked_ cX4_asked_ 3 (some .boolean), .fieldLink RX4 50 "TrumpvaultModel" "thrown" "I"] ++ wsX40)
def wsX4_owner : List Cond := .code yX4_owner cX4_owner 2 (some .int) :: ([.fieldLink RX4 16 "TrumpvaultModel" "owner" "[I", .methodLink RX4 75 yX4_isCard, .instanceMethod yX4_isCard, .selects RX4 yX4_isCard yX4_isCard, .initialized RX4, .code yX4_isCard cX4_isCard 2 (some .boolean), .fieldLink RX4 58 "TrumpvaultModel" "cards" "I", .methodLink RX4 54 yX4_in, .static yX4_in, .code yX4_in cX4_in 3 (some .boolean), .methodLink RX4 78 yX4_asked, .instanceMethod yX4_asked, .selects RX4 yX4_asked yX4_asked, .code yX4_asked cX4_asked 2 (some .boolean), .fieldLink RX4 50 "TrumpvaultModel" "thrown" "I"] ++ wsX40)
def wsX4_ownerByHistory : List Cond := .code yX4_ownerByHistory cX4_ownerByHistory 2 (some .int) :: ([.methodLink RX4 81 yX4_owner, .instanceMethod yX4_owner, .selects RX4 yX4_owner yX4_owner, .initialized RX4, .code yX4_owner cX4_owner 2 (some .int), .fieldLink RX4 16 "TrumpvaultModel" "owner" "[I", .methodLink RX4 75 yX4_isCard, .instanceMethod yX4_isCard, .selects RX4 yX4_isCard yX4_isCard, .code yX4_isCard cX4_isCard 2 (some .boolean), .fieldLink RX4 58 "TrumpvaultModel" "cards" "I", .methodLink RX4 54 yX4_in, .static yX4_in, .code yX4_in cX4_in 3 (some .boolean), .methodLink RX4 78 yX4_asked, .instanceMethod yX4_asked, .selects RX4 yX4_asked yX4_asked, .code yX4_asked cX4_asked 2 (some .boolean), .fieldLink RX4 50 "TrumpvaultModel" "thrown" "I"] ++ wsX40)
def wsX4_holds : List Cond := .code yX4_holds cX4_holds 2 (some .int) :: ([.fieldLink RX4 19 "TrumpvaultModel" "state" "[I", .fieldLink RX4 31 "TrumpvaultModel" "holder" "[I", .fieldLink RX4 16 "TrumpvaultModel" "owner" "[I"] ++ wsX40)
def wsX4_holder : List Cond := .code yX4_holder cX4_holder 2 (some .int) :: ([.methodLink RX4 75 yX4_isCard, .instanceMethod yX4_isCard, .selects RX4 yX4_isCard yX4_isCard, .initialized RX4, .code yX4_isCard cX4_isCard 2 (some .boolean), .fieldLink RX4 58 "TrumpvaultModel" "cards" "I", .methodLink RX4 54 yX4_in, .static yX4_in, .code yX4_in cX4_in 3 (some .boolean), .methodLink RX4 78 yX4_asked, .instanceMethod yX4_asked, .selects RX4 yX4_asked yX4_asked, .code yX4_asked cX4_asked 2 (some .boolean), .fieldLink RX4 50 "TrumpvaultModel" "thrown" "I", .methodLink RX4 84 yX4_holds, .instanceMethod yX4_holds, .selects RX4 yX4_holds yX4_holds, .code yX4_holds cX4_holds 2 (some .int), .fieldLink RX4 19 "TrumpvaultModel" "state" "[I", .fieldLink RX4 31 "TrumpvaultModel" "holder" "[I", .fieldLink RX4 16 "TrumpvaultModel" "owner" "[I"] ++ wsX40)
def wsX4_stateOf : List Cond := .code yX4_stateOf cX4_stateOf 2 (some .int) :: ([.fieldLink RX4 19 "TrumpvaultModel" "state" "[I", .methodLink RX4 75 yX4_isCard, .instanceMethod yX4_isCard, .selects RX4 yX4_isCard yX4_isCard, .initialized RX4, .code yX4_isCard cX4_isCard 2 (some .boolean), .fieldLink RX4 58 "TrumpvaultModel" "cards" "I", .methodLink RX4 54 yX4_in, .static yX4_in, .code yX4_in cX4_in 3 (some .boolean), .methodLink RX4 78 yX4_asked, .instanceMethod yX4_asked, .selects RX4 yX4_asked yX4_asked, .code yX4_asked cX4_asked 2 (some .boolean), .fieldLink RX4 50 "TrumpvaultModel" "thrown" "I"] ++ wsX40)
def wsX4_coins : List Cond := .code yX4_coins cX4_coins 2 (some .int) :: ([.fieldLink RX4 7 "TrumpvaultModel" "coins" "[I", .methodLink RX4 64 yX4_isPlayer, .static yX4_isPlayer, .initialized RX4, .code yX4_isPlayer cX4_isPlayer 1 (some .boolean), .methodLink RX4 54 yX4_in, .static yX4_in, .code yX4_in cX4_in 3 (some .boolean), .methodLink RX4 78 yX4_asked, .instanceMethod yX4_asked, .selects RX4 yX4_asked yX4_asked, .code yX4_asked cX4_asked 2 (some .boolean), .fieldLink RX4 50 "TrumpvaultModel" "thrown" "I"] ++ wsX40)
def wsX4_bidder : List Cond := .code yX4_bidder cX4_bidder 7 (some .int) :: ([.fieldLink RX4 37 "TrumpvaultModel" "bidPrice" "[I", .fieldLink RX4 40 "TrumpvaultModel" "bidNumber" "[I"] ++ wsX40)
def wsX4_offer : List Cond := .code yX4_offer cX4_offer 6 (some .int) :: ([.fieldLink RX4 58 "TrumpvaultModel" "cards" "I", .fieldLink RX4 19 "TrumpvaultModel" "state" "[I", .fieldLink RX4 13 "TrumpvaultModel" "kindOf" "[I", .fieldLink RX4 16 "TrumpvaultModel" "owner" "[I", .fieldLink RX4 22 "TrumpvaultModel" "price" "[I", .fieldLink RX4 25 "TrumpvaultModel" "number" "[I"] ++ wsX40)
def wsX4_sell_r1 : List Cond := [Cond.fieldLink RX4 19 "TrumpvaultModel" "state" "[I", Cond.fieldLink RX4 13 "TrumpvaultModel" "kindOf" "[I", Cond.fieldLink RX4 93 "TrumpvaultModel" "made" "I", Cond.fieldLink RX4 16 "TrumpvaultModel" "owner" "[I", Cond.fieldLink RX4 37 "TrumpvaultModel" "bidPrice" "[I", Cond.fieldLink RX4 7 "TrumpvaultModel" "coins" "[I", Cond.fieldLink RX4 22 "TrumpvaultModel" "price" "[I", Cond.fieldLink RX4 25 "TrumpvaultModel" "number" "[I", Cond.methodLink RX4 75 yX4_isCard, Cond.instanceMethod yX4_isCard, Cond.selects RX4 yX4_isCard yX4_isCard, Cond.initialized RX4, Cond.code yX4_isCard cX4_isCard 2 (some .boolean), Cond.fieldLink RX4 58 "TrumpvaultModel" "cards" "I", Cond.methodLink RX4 54 yX4_in, Cond.static yX4_in, Cond.code yX4_in cX4_in 3 (some .boolean), Cond.methodLink RX4 87 yX4_banned, Cond.instanceMethod yX4_banned, Cond.selects RX4 yX4_banned yX4_banned, Cond.code yX4_banned cX4_banned 2 (some .boolean), Cond.fieldLink RX4 43 "TrumpvaultModel" "banDay" "[I", Cond.fieldLink RX4 61 "TrumpvaultModel" "today" "I", Cond.methodLink RX4 90 yX4_asked__]
def wsX4_sell_r2 : List Cond := [Cond.instanceMethod yX4_asked__, Cond.selects RX4 yX4_asked__ yX4_asked__, Cond.code yX4_asked__ cX4_asked__ 4 (some .boolean), Cond.fieldLink RX4 50 "TrumpvaultModel" "thrown" "I", Cond.methodLink RX4 96 yX4_bidder, Cond.instanceMethod yX4_bidder, Cond.selects RX4 yX4_bidder yX4_bidder, Cond.code yX4_bidder cX4_bidder 7 (some .int), Cond.fieldLink RX4 40 "TrumpvaultModel" "bidNumber" "[I"]
def wsX4_sell : List Cond := .code yX4_sell cX4_sell 7 (some .int) :: ((wsX4_sell_r1 ++ wsX4_sell_r2) ++ wsX40)
def wsX4_bid_r1 : List Cond := [Cond.fieldLink RX4 7 "TrumpvaultModel" "coins" "[I", Cond.fieldLink RX4 37 "TrumpvaultModel" "bidPrice" "[I", Cond.fieldLink RX4 93 "TrumpvaultModel" "made" "I", Cond.fieldLink RX4 22 "TrumpvaultModel" "price" "[I", Cond.fieldLink RX4 16 "TrumpvaultModel" "owner" "[I", Cond.fieldLink RX4 19 "TrumpvaultModel" "state" "[I", Cond.fieldLink RX4 40 "TrumpvaultModel" "bidNumber" "[I", Cond.methodLink RX4 64 yX4_isPlayer, Cond.static yX4_isPlayer, Cond.initialized RX4, Cond.code yX4_isPlayer cX4_isPlayer 1 (some .boolean), Cond.methodLink RX4 54 yX4_in, Cond.static yX4_in, Cond.code yX4_in cX4_in 3 (some .boolean), Cond.methodLink RX4 68 yX4_isKind, Cond.static yX4_isKind, Cond.code yX4_isKind cX4_isKind 1 (some .boolean), Cond.methodLink RX4 87 yX4_banned, Cond.instanceMethod yX4_banned, Cond.selects RX4 yX4_banned yX4_banned, Cond.code yX4_banned cX4_banned 2 (some .boolean), Cond.fieldLink RX4 43 "TrumpvaultModel" "banDay" "[I", Cond.fieldLink RX4 61 "TrumpvaultModel" "today" "I", Cond.methodLink RX4 90 yX4_asked__]
def wsX4_bid_r2 : List Cond := [Cond.instanceMethod yX4_asked__, Cond.selects RX4 yX4_asked__ yX4_asked__, Cond.code yX4_asked__ cX4_asked__ 4 (some .boolean), Cond.fieldLink RX4 50 "TrumpvaultModel" "thrown" "I", Cond.methodLink RX4 100 yX4_offer, Cond.instanceMethod yX4_offer, Cond.selects RX4 yX4_offer yX4_offer, Cond.code yX4_offer cX4_offer 6 (some .int), Cond.fieldLink RX4 58 "TrumpvaultModel" "cards" "I", Cond.fieldLink RX4 13 "TrumpvaultModel" "kindOf" "[I", Cond.fieldLink RX4 25 "TrumpvaultModel" "number" "[I"]
def wsX4_bid : List Cond := .code yX4_bid cX4_bid 6 (some .int) :: ((wsX4_bid_r1 ++ wsX4_bid_r2) ++ wsX40)
def wsX4_cancelSale : List Cond := .code yX4_cancelSale cX4_cancelSale 3 (some .int) :: ([.fieldLink RX4 19 "TrumpvaultModel" "state" "[I", .fieldLink RX4 22 "TrumpvaultModel" "price" "[I", .methodLink RX4 75 yX4_isCard, .instanceMethod yX4_isCard, .selects RX4 yX4_isCard yX4_isCard, .initialized RX4, .code yX4_isCard cX4_isCard 2 (some .boolean), .fieldLink RX4 58 "TrumpvaultModel" "cards" "I", .methodLink RX4 54 yX4_in, .static yX4_in, .code yX4_in cX4_in 3 (some .boolean), .methodLink RX4 71 yX4_asked_, .instanceMethod yX4_asked_, .selects RX4 yX4_asked_ yX4_asked_, .code yX4_asked_ cX4_asked_ 3 (some .boolean), .fieldLink RX4 50 "TrumpvaultModel" "thrown" "I"] ++ wsX40)
def wsX4_cancelBid : List Cond := .code yX4_cancelBid cX4_cancelBid 5 (some .int) :: ([.fieldLink RX4 37 "TrumpvaultModel" "bidPrice" "[I", .fieldLink RX4 7 "TrumpvaultModel" "coins" "[I", .methodLink RX4 64 yX4_isPlayer, .static yX4_isPlayer, .initialized RX4, .code yX4_isPlayer cX4_isPlayer 1 (some .boolean), .methodLink RX4 54 yX4_in, .static yX4_in, .code yX4_in cX4_in 3 (some .boolean), .methodLink RX4 68 yX4_isKind, .static yX4_isKind, .code yX4_isKind cX4_isKind 1 (some .boolean), .methodLink RX4 71 yX4_asked_, .instanceMethod yX4_asked_, .selects RX4 yX4_asked_ yX4_asked_, .code yX4_asked_ cX4_asked_ 3 (some .boolean), .fieldLink RX4 50 "TrumpvaultModel" "thrown" "I"] ++ wsX40)
def wsX4_leastSale : List Cond := .code yX4_leastSale cX4_leastSale 3 (some .int) :: ([.fieldLink RX4 22 "TrumpvaultModel" "price" "[I", .methodLink RX4 68 yX4_isKind, .static yX4_isKind, .initialized RX4, .code yX4_isKind cX4_isKind 1 (some .boolean), .methodLink RX4 54 yX4_in, .static yX4_in, .code yX4_in cX4_in 3 (some .boolean), .methodLink RX4 78 yX4_asked, .instanceMethod yX4_asked, .selects RX4 yX4_asked yX4_asked, .code yX4_asked cX4_asked 2 (some .boolean), .fieldLink RX4 50 "TrumpvaultModel" "thrown" "I", .methodLink RX4 100 yX4_offer, .instanceMethod yX4_offer, .selects RX4 yX4_offer yX4_offer, .code yX4_offer cX4_offer 6 (some .int), .fieldLink RX4 58 "TrumpvaultModel" "cards" "I", .fieldLink RX4 19 "TrumpvaultModel" "state" "[I", .fieldLink RX4 13 "TrumpvaultModel" "kindOf" "[I", .fieldLink RX4 16 "TrumpvaultModel" "owner" "[I", .fieldLink RX4 25 "TrumpvaultModel" "number" "[I"] ++ wsX40)
def wsX4_greatestBid : List Cond := .code yX4_greatestBid cX4_greatestBid 3 (some .int) :: ([.fieldLink RX4 37 "TrumpvaultModel" "bidPrice" "[I", .methodLink RX4 68 yX4_isKind, .static yX4_isKind, .initialized RX4, .code yX4_isKind cX4_isKind 1 (some .boolean), .methodLink RX4 54 yX4_in, .static yX4_in, .code yX4_in cX4_in 3 (some .boolean), .methodLink RX4 78 yX4_asked, .instanceMethod yX4_asked, .selects RX4 yX4_asked yX4_asked, .code yX4_asked cX4_asked 2 (some .boolean), .fieldLink RX4 50 "TrumpvaultModel" "thrown" "I", .methodLink RX4 96 yX4_bidder, .instanceMethod yX4_bidder, .selects RX4 yX4_bidder yX4_bidder, .code yX4_bidder cX4_bidder 7 (some .int), .fieldLink RX4 40 "TrumpvaultModel" "bidNumber" "[I"] ++ wsX40)
def wsX4_swap : List Cond := .code yX4_swap cX4_swap 4 none :: ([.fieldLink RX4 16 "TrumpvaultModel" "owner" "[I", .fieldLink RX4 19 "TrumpvaultModel" "state" "[I", .fieldLink RX4 28 "TrumpvaultModel" "swapFor" "[I", .methodLink RX4 75 yX4_isCard, .instanceMethod yX4_isCard, .selects RX4 yX4_isCard yX4_isCard, .initialized RX4, .code yX4_isCard cX4_isCard 2 (some .boolean), .fieldLink RX4 58 "TrumpvaultModel" "cards" "I", .methodLink RX4 54 yX4_in, .static yX4_in, .code yX4_in cX4_in 3 (some .boolean), .methodLink RX4 90 yX4_asked__, .instanceMethod yX4_asked__, .selects RX4 yX4_asked__ yX4_asked__, .code yX4_asked__ cX4_asked__ 4 (some .boolean), .fieldLink RX4 50 "TrumpvaultModel" "thrown" "I"] ++ wsX40)
def wsX4_agree : List Cond := .code yX4_agree cX4_agree 6 (some .int) :: ([.fieldLink RX4 19 "TrumpvaultModel" "state" "[I", .fieldLink RX4 28 "TrumpvaultModel" "swapFor" "[I", .fieldLink RX4 16 "TrumpvaultModel" "owner" "[I", .methodLink RX4 75 yX4_isCard, .instanceMethod yX4_isCard, .selects RX4 yX4_isCard yX4_isCard, .initialized RX4, .code yX4_isCard cX4_isCard 2 (some .boolean), .fieldLink RX4 58 "TrumpvaultModel" "cards" "I", .methodLink RX4 54 yX4_in, .static yX4_in, .code yX4_in cX4_in 3 (some .boolean), .methodLink RX4 71 yX4_asked_, .instanceMethod yX4_asked_, .selects RX4 yX4_asked_ yX4_asked_, .code yX4_asked_ cX4_asked_ 3 (some .boolean), .fieldLink RX4 50 "TrumpvaultModel" "thrown" "I"] ++ wsX40)
def wsX4_cancelSwap : List Cond := .code yX4_cancelSwap cX4_cancelSwap 3 none :: ([.fieldLink RX4 19 "TrumpvaultModel" "state" "[I", .methodLink RX4 75 yX4_isCard, .instanceMethod yX4_isCard, .selects RX4 yX4_isCard yX4_isCard, .initialized RX4, .code yX4_isCard cX4_isCard 2 (some .boolean), .fieldLink RX4 58 "TrumpvaultModel" "cards" "I", .methodLink RX4 54 yX4_in, .static yX4_in, .code yX4_in cX4_in 3 (some .boolean), .methodLink RX4 71 yX4_asked_, .instanceMethod yX4_asked_, .selects RX4 yX4_asked_ yX4_asked_, .code yX4_asked_ cX4_asked_ 3 (some .boolean), .fieldLink RX4 50 "TrumpvaultModel" "thrown" "I"] ++ wsX40)
def wsX4_lend : List Cond := .code yX4_lend cX4_lend 5 (some .int) :: ([.fieldLink RX4 16 "TrumpvaultModel" "owner" "[I", .fieldLink RX4 19 "TrumpvaultModel" "state" "[I", .fieldLink RX4 31 "TrumpvaultModel" "holder" "[I", .fieldLink RX4 34 "TrumpvaultModel" "back" "[I", .fieldLink RX4 61 "TrumpvaultModel" "today" "I", .methodLink RX4 75 yX4_isCard, .instanceMethod yX4_isCard, .selects RX4 yX4_isCard yX4_isCard, .initialized RX4, .code yX4_isCard cX4_isCard 2 (some .boolean), .fieldLink RX4 58 "TrumpvaultModel" "cards" "I", .methodLink RX4 54 yX4_in, .static yX4_in, .code yX4_in cX4_in 3 (some .boolean), .methodLink RX4 64 yX4_isPlayer, .static yX4_isPlayer, .code yX4_isPlayer cX4_isPlayer 1 (some .boolean), .methodLink RX4 90 yX4_asked__, .instanceMethod yX4_asked__, .selects RX4 yX4_asked__ yX4_asked__, .code yX4_asked__ cX4_asked__ 4 (some .boolean), .fieldLink RX4 50 "TrumpvaultModel" "thrown" "I"] ++ wsX40)
def wsX4_clears : List Cond := .code yX4_clears cX4_clears 5 (some .int) :: ([.fieldLink RX4 58 "TrumpvaultModel" "cards" "I", .fieldLink RX4 19 "TrumpvaultModel" "state" "[I", .fieldLink RX4 13 "TrumpvaultModel" "kindOf" "[I", .fieldLink RX4 37 "TrumpvaultModel" "bidPrice" "[I", .fieldLink RX4 7 "TrumpvaultModel" "coins" "[I"] ++ wsX40)
def wsX4_ban_r1 : List Cond := [Cond.fieldLink RX4 61 "TrumpvaultModel" "today" "I", Cond.fieldLink RX4 43 "TrumpvaultModel" "banDay" "[I", Cond.methodLink RX4 68 yX4_isKind, Cond.static yX4_isKind, Cond.initialized RX4, Cond.code yX4_isKind cX4_isKind 1 (some .boolean), Cond.methodLink RX4 54 yX4_in, Cond.static yX4_in, Cond.code yX4_in cX4_in 3 (some .boolean), Cond.methodLink RX4 71 yX4_asked_, Cond.instanceMethod yX4_asked_, Cond.selects RX4 yX4_asked_ yX4_asked_, Cond.code yX4_asked_ cX4_asked_ 3 (some .boolean), Cond.fieldLink RX4 50 "TrumpvaultModel" "thrown" "I", Cond.methodLink RX4 87 yX4_banned, Cond.instanceMethod yX4_banned, Cond.selects RX4 yX4_banned yX4_banned, Cond.code yX4_banned cX4_banned 2 (some .boolean), Cond.methodLink RX4 103 yX4_clears, Cond.instanceMethod yX4_clears, Cond.selects RX4 yX4_clears yX4_clears, Cond.code yX4_clears cX4_clears 5 (some .int), Cond.fieldLink RX4 58 "TrumpvaultModel" "cards" "I", Cond.fieldLink RX4 19 "TrumpvaultModel" "state" "[I"]
def wsX4_ban_r2 : List Cond := [Cond.fieldLink RX4 13 "TrumpvaultModel" "kindOf" "[I", Cond.fieldLink RX4 37 "TrumpvaultModel" "bidPrice" "[I", Cond.fieldLink RX4 7 "TrumpvaultModel" "coins" "[I"]
def wsX4_ban : List Cond := .code yX4_ban cX4_ban 3 (some .int) :: ((wsX4_ban_r1 ++ wsX4_ban_r2) ++ wsX40)
def wsX4_lift : List Cond := .code yX4_lift cX4_lift 3 (some .boolean) :: ([.fieldLink RX4 43 "TrumpvaultModel" "banDay" "[I", .constant RX4 49 (1000000), .methodLink RX4 68 yX4_isKind, .static yX4_isKind, .initialized RX4, .code yX4_isKind cX4_isKind 1 (some .boolean), .methodLink RX4 54 yX4_in, .static yX4_in, .code yX4_in cX4_in 3 (some .boolean), .methodLink RX4 78 yX4_asked, .instanceMethod yX4_asked, .selects RX4 yX4_asked yX4_asked, .code yX4_asked cX4_asked 2 (some .boolean), .fieldLink RX4 50 "TrumpvaultModel" "thrown" "I"] ++ wsX40)
def wsX4_isBanned : List Cond := .code yX4_isBanned cX4_isBanned 2 (some .boolean) :: ([.methodLink RX4 68 yX4_isKind, .static yX4_isKind, .initialized RX4, .code yX4_isKind cX4_isKind 1 (some .boolean), .methodLink RX4 54 yX4_in, .static yX4_in, .code yX4_in cX4_in 3 (some .boolean), .methodLink RX4 78 yX4_asked, .instanceMethod yX4_asked, .selects RX4 yX4_asked yX4_asked, .code yX4_asked cX4_asked 2 (some .boolean), .fieldLink RX4 50 "TrumpvaultModel" "thrown" "I", .methodLink RX4 87 yX4_banned, .instanceMethod yX4_banned, .selects RX4 yX4_banned yX4_banned, .code yX4_banned cX4_banned 2 (some .boolean), .fieldLink RX4 43 "TrumpvaultModel" "banDay" "[I", .fieldLink RX4 61 "TrumpvaultModel" "today" "I"] ++ wsX40)
def wsX4_pass_r1 : List Cond := [Cond.fieldLink RX4 61 "TrumpvaultModel" "today" "I", Cond.fieldLink RX4 58 "TrumpvaultModel" "cards" "I", Cond.fieldLink RX4 19 "TrumpvaultModel" "state" "[I", Cond.fieldLink RX4 34 "TrumpvaultModel" "back" "[I", Cond.methodLink RX4 54 yX4_in, Cond.static yX4_in, Cond.initialized RX4, Cond.code yX4_in cX4_in 3 (some .boolean), Cond.methodLink RX4 78 yX4_asked, Cond.instanceMethod yX4_asked, Cond.selects RX4 yX4_asked yX4_asked, Cond.code yX4_asked cX4_asked 2 (some .boolean), Cond.fieldLink RX4 50 "TrumpvaultModel" "thrown" "I", Cond.methodLink RX4 87 yX4_banned, Cond.instanceMethod yX4_banned, Cond.selects RX4 yX4_banned yX4_banned, Cond.code yX4_banned cX4_banned 2 (some .boolean), Cond.fieldLink RX4 43 "TrumpvaultModel" "banDay" "[I", Cond.methodLink RX4 103 yX4_clears, Cond.instanceMethod yX4_clears, Cond.selects RX4 yX4_clears yX4_clears, Cond.code yX4_clears cX4_clears 5 (some .int), Cond.fieldLink RX4 13 "TrumpvaultModel" "kindOf" "[I", Cond.fieldLink RX4 37 "TrumpvaultModel" "bidPrice" "[I"]
def wsX4_pass_r2 : List Cond := [Cond.fieldLink RX4 7 "TrumpvaultModel" "coins" "[I"]
def wsX4_pass : List Cond := .code yX4_pass cX4_pass 3 (some .int) :: ((wsX4_pass_r1 ++ wsX4_pass_r2) ++ wsX40)
def wsX4_size : List Cond := .code yX4_size cX4_size 4 (some .int) :: ([.fieldLink RX4 58 "TrumpvaultModel" "cards" "I", .fieldLink RX4 46 "TrumpvaultModel" "deck" "[I"] ++ wsX40)
def wsX4_toggleDeck : List Cond := .code yX4_toggleDeck cX4_toggleDeck 3 (some .int) :: ([.fieldLink RX4 46 "TrumpvaultModel" "deck" "[I", .methodLink RX4 64 yX4_isPlayer, .static yX4_isPlayer, .initialized RX4, .code yX4_isPlayer cX4_isPlayer 1 (some .boolean), .methodLink RX4 54 yX4_in, .static yX4_in, .code yX4_in cX4_in 3 (some .boolean), .methodLink RX4 75 yX4_isCard, .instanceMethod yX4_isCard, .selects RX4 yX4_isCard yX4_isCard, .code yX4_isCard cX4_isCard 2 (some .boolean), .fieldLink RX4 58 "TrumpvaultModel" "cards" "I", .methodLink RX4 78 yX4_asked, .instanceMethod yX4_asked, .selects RX4 yX4_asked yX4_asked, .code yX4_asked cX4_asked 2 (some .boolean), .fieldLink RX4 50 "TrumpvaultModel" "thrown" "I", .methodLink RX4 106 yX4_size, .instanceMethod yX4_size, .selects RX4 yX4_size yX4_size, .code yX4_size cX4_size 4 (some .int)] ++ wsX40)
def wsX4_right : List Cond := .code yX4_right cX4_right 5 (some .boolean) :: ([.fieldLink RX4 58 "TrumpvaultModel" "cards" "I", .fieldLink RX4 46 "TrumpvaultModel" "deck" "[I", .fieldLink RX4 19 "TrumpvaultModel" "state" "[I", .fieldLink RX4 13 "TrumpvaultModel" "kindOf" "[I", .methodLink RX4 106 yX4_size, .instanceMethod yX4_size, .selects RX4 yX4_size yX4_size, .initialized RX4, .code yX4_size cX4_size 4 (some .int), .methodLink RX4 54 yX4_in, .static yX4_in, .code yX4_in cX4_in 3 (some .boolean), .methodLink RX4 84 yX4_holds, .instanceMethod yX4_holds, .selects RX4 yX4_holds yX4_holds, .code yX4_holds cX4_holds 2 (some .int), .fieldLink RX4 31 "TrumpvaultModel" "holder" "[I", .fieldLink RX4 16 "TrumpvaultModel" "owner" "[I", .methodLink RX4 87 yX4_banned, .instanceMethod yX4_banned, .selects RX4 yX4_banned yX4_banned, .code yX4_banned cX4_banned 2 (some .boolean), .fieldLink RX4 43 "TrumpvaultModel" "banDay" "[I", .fieldLink RX4 61 "TrumpvaultModel" "today" "I"] ++ wsX40)
def wsX4_strengthOf : List Cond := .code yX4_strengthOf cX4_strengthOf 4 (some .int) :: ([.fieldLink RX4 58 "TrumpvaultModel" "cards" "I", .fieldLink RX4 46 "TrumpvaultModel" "deck" "[I", .fieldLink RX4 13 "TrumpvaultModel" "kindOf" "[I"] ++ wsX40)
def wsX4_isRight_r1 : List Cond := [Cond.methodLink RX4 64 yX4_isPlayer, Cond.static yX4_isPlayer, Cond.initialized RX4, Cond.code yX4_isPlayer cX4_isPlayer 1 (some .boolean), Cond.methodLink RX4 54 yX4_in, Cond.static yX4_in, Cond.code yX4_in cX4_in 3 (some .boolean), Cond.methodLink RX4 78 yX4_asked, Cond.instanceMethod yX4_asked, Cond.selects RX4 yX4_asked yX4_asked, Cond.code yX4_asked cX4_asked 2 (some .boolean), Cond.fieldLink RX4 50 "TrumpvaultModel" "thrown" "I", Cond.methodLink RX4 109 yX4_right, Cond.instanceMethod yX4_right, Cond.selects RX4 yX4_right yX4_right, Cond.code yX4_right cX4_right 5 (some .boolean), Cond.fieldLink RX4 58 "TrumpvaultModel" "cards" "I", Cond.fieldLink RX4 46 "TrumpvaultModel" "deck" "[I", Cond.fieldLink RX4 19 "TrumpvaultModel" "state" "[I", Cond.fieldLink RX4 13 "TrumpvaultModel" "kindOf" "[I", Cond.methodLink RX4 106 yX4_size, Cond.instanceMethod yX4_size, Cond.selects RX4 yX4_size yX4_size, Cond.code yX4_size cX4_size 4 (some .int)]
def wsX4_isRight_r2 : List Cond := [Cond.methodLink RX4 84 yX4_holds, Cond.instanceMethod yX4_holds, Cond.selects RX4 yX4_holds yX4_holds, Cond.code yX4_holds cX4_holds 2 (some .int), Cond.fieldLink RX4 31 "TrumpvaultModel" "holder" "[I", Cond.fieldLink RX4 16 "TrumpvaultModel" "owner" "[I", Cond.methodLink RX4 87 yX4_banned, Cond.instanceMethod yX4_banned, Cond.selects RX4 yX4_banned yX4_banned, Cond.code yX4_banned cX4_banned 2 (some .boolean), Cond.fieldLink RX4 43 "TrumpvaultModel" "banDay" "[I", Cond.fieldLink RX4 61 "TrumpvaultModel" "today" "I"]
def wsX4_isRight : List Cond := .code yX4_isRight cX4_isRight 2 (some .boolean) :: ((wsX4_isRight_r1 ++ wsX4_isRight_r2) ++ wsX40)
def wsX4_strength : List Cond := .code yX4_strength cX4_strength 2 (some .int) :: ([.methodLink RX4 64 yX4_isPlayer, .static yX4_isPlayer, .initialized RX4, .code yX4_isPlayer cX4_isPlayer 1 (some .boolean), .methodLink RX4 54 yX4_in, .static yX4_in, .code yX4_in cX4_in 3 (some .boolean), .methodLink RX4 78 yX4_asked, .instanceMethod yX4_asked, .selects RX4 yX4_asked yX4_asked, .code yX4_asked cX4_asked 2 (some .boolean), .fieldLink RX4 50 "TrumpvaultModel" "thrown" "I", .methodLink RX4 112 yX4_strengthOf, .instanceMethod yX4_strengthOf, .selects RX4 yX4_strengthOf yX4_strengthOf, .code yX4_strengthOf cX4_strengthOf 4 (some .int), .fieldLink RX4 58 "TrumpvaultModel" "cards" "I", .fieldLink RX4 46 "TrumpvaultModel" "deck" "[I", .fieldLink RX4 13 "TrumpvaultModel" "kindOf" "[I"] ++ wsX40)
def wsX4_play_r1 : List Cond := [Cond.fieldLink RX4 7 "TrumpvaultModel" "coins" "[I", Cond.methodLink RX4 64 yX4_isPlayer, Cond.static yX4_isPlayer, Cond.initialized RX4, Cond.code yX4_isPlayer cX4_isPlayer 1 (some .boolean), Cond.methodLink RX4 54 yX4_in, Cond.static yX4_in, Cond.code yX4_in cX4_in 3 (some .boolean), Cond.methodLink RX4 109 yX4_right, Cond.instanceMethod yX4_right, Cond.selects RX4 yX4_right yX4_right, Cond.code yX4_right cX4_right 5 (some .boolean), Cond.fieldLink RX4 58 "TrumpvaultModel" "cards" "I", Cond.fieldLink RX4 46 "TrumpvaultModel" "deck" "[I", Cond.fieldLink RX4 19 "TrumpvaultModel" "state" "[I", Cond.fieldLink RX4 13 "TrumpvaultModel" "kindOf" "[I", Cond.methodLink RX4 106 yX4_size, Cond.instanceMethod yX4_size, Cond.selects RX4 yX4_size yX4_size, Cond.code yX4_size cX4_size 4 (some .int), Cond.methodLink RX4 84 yX4_holds, Cond.instanceMethod yX4_holds, Cond.selects RX4 yX4_holds yX4_holds, Cond.code yX4_holds cX4_holds 2 (some .int)]
def wsX4_play_r2 : List Cond := [Cond.fieldLink RX4 31 "TrumpvaultModel" "holder" "[I", Cond.fieldLink RX4 16 "TrumpvaultModel" "owner" "[I", Cond.methodLink RX4 87 yX4_banned, Cond.instanceMethod yX4_banned, Cond.selects RX4 yX4_banned yX4_banned, Cond.code yX4_banned cX4_banned 2 (some .boolean), Cond.fieldLink RX4 43 "TrumpvaultModel" "banDay" "[I", Cond.fieldLink RX4 61 "TrumpvaultModel" "today" "I", Cond.methodLink RX4 90 yX4_asked__, Cond.instanceMethod yX4_asked__, Cond.selects RX4 yX4_asked__ yX4_asked__, Cond.code yX4_asked__ cX4_asked__ 4 (some .boolean), Cond.fieldLink RX4 50 "TrumpvaultModel" "thrown" "I", Cond.methodLink RX4 112 yX4_strengthOf, Cond.instanceMethod yX4_strengthOf, Cond.selects RX4 yX4_strengthOf yX4_strengthOf, Cond.code yX4_strengthOf cX4_strengthOf 4 (some .int)]
def wsX4_play : List Cond := .code yX4_play cX4_play 5 (some .int) :: ((wsX4_play_r1 ++ wsX4_play_r2) ++ wsX40)
def wsL_mint_r1 : List Cond := [Cond.classLink RL 13 "java/lang/IndexOutOfBoundsException", Cond.classLink RL 15 "java/lang/IllegalStateException", Cond.methodLink RL 7 yX3_mint, Cond.instanceMethod yX3_mint, Cond.selects RX3 yX3_mint yX3_mint, Cond.initialized RX3, Cond.code yX3_mint cX3_mint 4 (some .int), Cond.classLink RX3 64 "java/lang/IllegalStateException", Cond.initialized "java/lang/IllegalStateException", Cond.fieldLink RX3 10 "Trumpvault" "cards" "LTrumpvault$Cards;", Cond.fieldLink RX3 26 "Trumpvault" "history" "LTrumpvault$History;", Cond.methodLink RX3 53 yX3_needPlayer, Cond.static yX3_needPlayer, Cond.code yX3_needPlayer cX3_needPlayer 1 none, Cond.classLink RX3 197 "java/lang/IndexOutOfBoundsException", Cond.initialized "java/lang/IndexOutOfBoundsException", Cond.methodLink RX3 57 yX3_needKind, Cond.static yX3_needKind, Cond.code yX3_needKind cX3_needKind 1 none, Cond.methodLink RX3 60 yX1_isFull, Cond.instanceMethod yX1_isFull, Cond.selects RX1 yX1_isFull yX1_isFull, Cond.initialized RX1, Cond.code yX1_isFull cX1_isFull 1 (some .boolean)]
def wsL_mint_r2 : List Cond := [Cond.fieldLink RX1 36 "Trumpvault$Cards" "count" "I", Cond.methodLink RX3 71 yX1_add, Cond.instanceMethod yX1_add, Cond.selects RX1 yX1_add yX1_add, Cond.code yX1_add cX1_add 4 (some .int), Cond.fieldLink RX1 9 "Trumpvault$Cards" "kinds" "[I", Cond.fieldLink RX1 15 "Trumpvault$Cards" "owners" "[I", Cond.fieldLink RX1 18 "Trumpvault$Cards" "states" "[I", Cond.methodLink RX3 75 yX2_record, Cond.instanceMethod yX2_record, Cond.selects RX2 yX2_record yX2_record, Cond.initialized RX2, Cond.code yX2_record cX2_record 3 none, Cond.fieldLink RX2 18 "Trumpvault$History" "count" "I", Cond.fieldLink RX2 9 "Trumpvault$History" "movedCards" "[I", Cond.fieldLink RX2 15 "Trumpvault$History" "newOwners" "[I"]
def wsL_mint : List Cond := .codeWith yL_mint cL_mint 5 (some .int) [(0, 10, 13, 13), (0, 10, 17, 15)] :: ((wsL_mint_r1 ++ wsL_mint_r2) ++ wsX30 ++ wsX10 ++ wsX20 ++ (vx_atS RX3 68 "java/lang/IllegalStateException" ["java/lang/RuntimeException", "java/lang/Exception"]).filter goodWord ++ (vx_atS RX3 201 "java/lang/IndexOutOfBoundsException" ["java/lang/RuntimeException", "java/lang/Exception"]).filter goodWord)
def wsL_owner : List Cond := .codeWith yL_owner cL_owner 4 (some .int) [(0, 9, 12, 13)] :: ([.classLink RL 13 "java/lang/IndexOutOfBoundsException", .methodLink RL 17 yX3_owner, .instanceMethod yX3_owner, .selects RX3 yX3_owner yX3_owner, .initialized RX3, .code yX3_owner cX3_owner 2 (some .int), .fieldLink RX3 10 "Trumpvault" "cards" "LTrumpvault$Cards;", .fieldLink RX3 82 "Trumpvault$Cards" "owners" "[I", .methodLink RX3 79 yX3_needCard, .instanceMethod yX3_needCard, .selects RX3 yX3_needCard yX3_needCard, .code yX3_needCard cX3_needCard 2 none, .classLink RX3 197 "java/lang/IndexOutOfBoundsException", .initialized "java/lang/IndexOutOfBoundsException", .methodLink RX3 204 yX1_has, .instanceMethod yX1_has, .selects RX1 yX1_has yX1_has, .initialized RX1, .code yX1_has cX1_has 2 (some .boolean), .fieldLink RX1 36 "Trumpvault$Cards" "count" "I"] ++ wsX30 ++ wsX10 ++ (vx_atS RX3 201 "java/lang/IndexOutOfBoundsException" ["java/lang/RuntimeException", "java/lang/Exception"]).filter goodWord)
def wsL_ownerByHistory_r1 : List Cond := [Cond.classLink RL 13 "java/lang/IndexOutOfBoundsException", Cond.methodLink RL 21 yX3_ownerByHistory, Cond.instanceMethod yX3_ownerByHistory, Cond.selects RX3 yX3_ownerByHistory yX3_ownerByHistory, Cond.initialized RX3, Cond.code yX3_ownerByHistory cX3_ownerByHistory 2 (some .int), Cond.fieldLink RX3 26 "Trumpvault" "history" "LTrumpvault$History;", Cond.methodLink RX3 79 yX3_needCard, Cond.instanceMethod yX3_needCard, Cond.selects RX3 yX3_needCard yX3_needCard, Cond.code yX3_needCard cX3_needCard 2 none, Cond.classLink RX3 197 "java/lang/IndexOutOfBoundsException", Cond.initialized "java/lang/IndexOutOfBoundsException", Cond.fieldLink RX3 10 "Trumpvault" "cards" "LTrumpvault$Cards;", Cond.methodLink RX3 204 yX1_has, Cond.instanceMethod yX1_has, Cond.selects RX1 yX1_has yX1_has, Cond.initialized RX1, Cond.code yX1_has cX1_has 2 (some .boolean), Cond.fieldLink RX1 36 "Trumpvault$Cards" "count" "I", Cond.methodLink RX3 85 yX2_lastOwner, Cond.instanceMethod yX2_lastOwner, Cond.selects RX2 yX2_lastOwner yX2_lastOwner, Cond.initialized RX2]
def wsL_ownerByHistory_r2 : List Cond := [Cond.code yX2_lastOwner cX2_lastOwner 4 (some .int), Cond.fieldLink RX2 18 "Trumpvault$History" "count" "I", Cond.fieldLink RX2 9 "Trumpvault$History" "movedCards" "[I", Cond.fieldLink RX2 15 "Trumpvault$History" "newOwners" "[I"]
def wsL_ownerByHistory : List Cond := .codeWith yL_ownerByHistory cL_ownerByHistory 4 (some .int) [(0, 9, 12, 13)] :: ((wsL_ownerByHistory_r1 ++ wsL_ownerByHistory_r2) ++ wsX30 ++ wsX10 ++ wsX20 ++ (vx_atS RX3 201 "java/lang/IndexOutOfBoundsException" ["java/lang/RuntimeException", "java/lang/Exception"]).filter goodWord)
def wsL_holder_r1 : List Cond := [Cond.classLink RL 13 "java/lang/IndexOutOfBoundsException", Cond.methodLink RL 24 yX3_holder, Cond.instanceMethod yX3_holder, Cond.selects RX3 yX3_holder yX3_holder, Cond.initialized RX3, Cond.code yX3_holder cX3_holder 2 (some .int), Cond.fieldLink RX3 10 "Trumpvault" "cards" "LTrumpvault$Cards;", Cond.methodLink RX3 79 yX3_needCard, Cond.instanceMethod yX3_needCard, Cond.selects RX3 yX3_needCard yX3_needCard, Cond.code yX3_needCard cX3_needCard 2 none, Cond.classLink RX3 197 "java/lang/IndexOutOfBoundsException", Cond.initialized "java/lang/IndexOutOfBoundsException", Cond.methodLink RX3 204 yX1_has, Cond.instanceMethod yX1_has, Cond.selects RX1 yX1_has yX1_has, Cond.initialized RX1, Cond.code yX1_has cX1_has 2 (some .boolean), Cond.fieldLink RX1 36 "Trumpvault$Cards" "count" "I", Cond.methodLink RX3 89 yX1_holderOf, Cond.instanceMethod yX1_holderOf, Cond.selects RX1 yX1_holderOf yX1_holderOf, Cond.code yX1_holderOf cX1_holderOf 2 (some .int), Cond.fieldLink RX1 18 "Trumpvault$Cards" "states" "[I"]
def wsL_holder_r2 : List Cond := [Cond.fieldLink RX1 30 "Trumpvault$Cards" "borrowers" "[I", Cond.fieldLink RX1 15 "Trumpvault$Cards" "owners" "[I"]
def wsL_holder : List Cond := .codeWith yL_holder cL_holder 4 (some .int) [(0, 9, 12, 13)] :: ((wsL_holder_r1 ++ wsL_holder_r2) ++ wsX30 ++ wsX10 ++ (vx_atS RX3 201 "java/lang/IndexOutOfBoundsException" ["java/lang/RuntimeException", "java/lang/Exception"]).filter goodWord)
def wsL_stateOf : List Cond := .codeWith yL_stateOf cL_stateOf 4 (some .int) [(0, 9, 12, 13)] :: ([.classLink RL 13 "java/lang/IndexOutOfBoundsException", .methodLink RL 27 yX3_stateOf, .instanceMethod yX3_stateOf, .selects RX3 yX3_stateOf yX3_stateOf, .initialized RX3, .code yX3_stateOf cX3_stateOf 2 (some .int), .fieldLink RX3 10 "Trumpvault" "cards" "LTrumpvault$Cards;", .fieldLink RX3 92 "Trumpvault$Cards" "states" "[I", .methodLink RX3 79 yX3_needCard, .instanceMethod yX3_needCard, .selects RX3 yX3_needCard yX3_needCard, .code yX3_needCard cX3_needCard 2 none, .classLink RX3 197 "java/lang/IndexOutOfBoundsException", .initialized "java/lang/IndexOutOfBoundsException", .methodLink RX3 204 yX1_has, .instanceMethod yX1_has, .selects RX1 yX1_has yX1_has, .initialized RX1, .code yX1_has cX1_has 2 (some .boolean), .fieldLink RX1 36 "Trumpvault$Cards" "count" "I"] ++ wsX30 ++ wsX10 ++ (vx_atS RX3 201 "java/lang/IndexOutOfBoundsException" ["java/lang/RuntimeException", "java/lang/Exception"]).filter goodWord)
def wsL_coins : List Cond := .codeWith yL_coins cL_coins 4 (some .int) [(0, 9, 12, 13)] :: ([.classLink RL 13 "java/lang/IndexOutOfBoundsException", .methodLink RL 30 yX3_coins, .instanceMethod yX3_coins, .selects RX3 yX3_coins yX3_coins, .initialized RX3, .code yX3_coins cX3_coins 2 (some .int), .fieldLink RX3 30 "Trumpvault" "purses" "[I", .methodLink RX3 53 yX3_needPlayer, .static yX3_needPlayer, .code yX3_needPlayer cX3_needPlayer 1 none, .classLink RX3 197 "java/lang/IndexOutOfBoundsException", .initialized "java/lang/IndexOutOfBoundsException"] ++ wsX30 ++ (vx_atS RX3 201 "java/lang/IndexOutOfBoundsException" ["java/lang/RuntimeException", "java/lang/Exception"]).filter goodWord)
def wsL_sell_r1 : List Cond := [Cond.classLink RL 13 "java/lang/IndexOutOfBoundsException", Cond.classLink RL 36 "java/lang/IllegalArgumentException", Cond.classLink RL 15 "java/lang/IllegalStateException", Cond.methodLink RL 33 yX3_sell, Cond.instanceMethod yX3_sell, Cond.selects RX3 yX3_sell yX3_sell, Cond.initialized RX3, Cond.code yX3_sell cX3_sell 6 (some .int), Cond.classLink RX3 64 "java/lang/IllegalStateException", Cond.initialized "java/lang/IllegalStateException", Cond.fieldLink RX3 10 "Trumpvault" "cards" "LTrumpvault$Cards;", Cond.fieldLink RX3 98 "Trumpvault$Cards" "kinds" "[I", Cond.fieldLink RX3 92 "Trumpvault$Cards" "states" "[I", Cond.fieldLink RX3 19 "Trumpvault" "bids" "LTrumpvault$Bids;", Cond.fieldLink RX3 82 "Trumpvault$Cards" "owners" "[I", Cond.fieldLink RX3 110 "Trumpvault$Bids" "prices" "[[I", Cond.fieldLink RX3 46 "Trumpvault" "nextNumber" "I", Cond.fieldLink RX3 30 "Trumpvault" "purses" "[I", Cond.methodLink RX3 79 yX3_needCard, Cond.instanceMethod yX3_needCard, Cond.selects RX3 yX3_needCard yX3_needCard, Cond.code yX3_needCard cX3_needCard 2 none, Cond.classLink RX3 197 "java/lang/IndexOutOfBoundsException", Cond.initialized "java/lang/IndexOutOfBoundsException"]
def wsL_sell_r2 : List Cond := [Cond.methodLink RX3 204 yX1_has, Cond.instanceMethod yX1_has, Cond.selects RX1 yX1_has yX1_has, Cond.initialized RX1, Cond.code yX1_has cX1_has 2 (some .boolean), Cond.fieldLink RX1 36 "Trumpvault$Cards" "count" "I", Cond.methodLink RX3 95 yX3_needPrice, Cond.static yX3_needPrice, Cond.code yX3_needPrice cX3_needPrice 1 none, Cond.classLink RX3 150 "java/lang/IllegalArgumentException", Cond.initialized "java/lang/IllegalArgumentException", Cond.methodLink RX3 101 yX3_bannedToday, Cond.instanceMethod yX3_bannedToday, Cond.selects RX3 yX3_bannedToday yX3_bannedToday, Cond.code yX3_bannedToday cX3_bannedToday 2 (some .boolean), Cond.fieldLink RX3 40 "Trumpvault" "bannedFrom" "[I", Cond.fieldLink RX3 50 "Trumpvault" "today" "I", Cond.methodLink RX3 107 yX0_bestBidder, Cond.instanceMethod yX0_bestBidder, Cond.selects RX0 yX0_bestBidder yX0_bestBidder, Cond.initialized RX0, Cond.code yX0_bestBidder cX0_bestBidder 5 (some .int), Cond.methodLink RX0 19 yX0_has, Cond.instanceMethod yX0_has]
def wsL_sell_r3 : List Cond := [Cond.selects RX0 yX0_has yX0_has, Cond.code yX0_has cX0_has 3 (some .boolean), Cond.fieldLink RX0 11 "Trumpvault$Bids" "prices" "[[I", Cond.methodLink RX0 23 yX0_isBefore, Cond.instanceMethod yX0_isBefore, Cond.selects RX0 yX0_isBefore yX0_isBefore, Cond.code yX0_isBefore cX0_isBefore 6 (some .boolean), Cond.fieldLink RX0 16 "Trumpvault$Bids" "numbers" "[[I", Cond.methodLink RX3 114 yX1_putSale, Cond.instanceMethod yX1_putSale, Cond.selects RX1 yX1_putSale yX1_putSale, Cond.code yX1_putSale cX1_putSale 4 none, Cond.fieldLink RX1 18 "Trumpvault$Cards" "states" "[I", Cond.fieldLink RX1 21 "Trumpvault$Cards" "salePrices" "[I", Cond.fieldLink RX1 24 "Trumpvault$Cards" "saleNumbers" "[I", Cond.methodLink RX3 118 yX0_take, Cond.instanceMethod yX0_take, Cond.selects RX0 yX0_take yX0_take, Cond.code yX0_take cX0_take 4 (some .int), Cond.methodLink RX3 121 yX3_giveTo, Cond.instanceMethod yX3_giveTo, Cond.selects RX3 yX3_giveTo yX3_giveTo, Cond.code yX3_giveTo cX3_giveTo 3 none, Cond.fieldLink RX3 26 "Trumpvault" "history" "LTrumpvault$History;"]
def wsL_sell_r4 : List Cond := [Cond.methodLink RX3 75 yX2_record, Cond.instanceMethod yX2_record, Cond.selects RX2 yX2_record yX2_record, Cond.initialized RX2, Cond.code yX2_record cX2_record 3 none, Cond.fieldLink RX2 18 "Trumpvault$History" "count" "I", Cond.fieldLink RX2 9 "Trumpvault$History" "movedCards" "[I", Cond.fieldLink RX2 15 "Trumpvault$History" "newOwners" "[I"]
def wsL_sell : List Cond := .codeWith yL_sell cL_sell 5 (some .int) [(0, 10, 13, 13), (0, 10, 17, 36), (0, 10, 21, 15)] :: ((wsL_sell_r1 ++ (wsL_sell_r2 ++ (wsL_sell_r3 ++ wsL_sell_r4))) ++ wsX30 ++ wsX10 ++ wsX00 ++ wsX20 ++ (vx_atS RX3 68 "java/lang/IllegalStateException" ["java/lang/RuntimeException", "java/lang/Exception"]).filter goodWord ++ (vx_atS RX3 201 "java/lang/IndexOutOfBoundsException" ["java/lang/RuntimeException", "java/lang/Exception"]).filter goodWord ++ (vx_atS RX3 154 "java/lang/IllegalArgumentException" ["java/lang/RuntimeException", "java/lang/Exception"]).filter goodWord)
def wsL_bid_r1 : List Cond := [Cond.classLink RL 13 "java/lang/IndexOutOfBoundsException", Cond.classLink RL 36 "java/lang/IllegalArgumentException", Cond.classLink RL 15 "java/lang/IllegalStateException", Cond.methodLink RL 38 yX3_bid, Cond.instanceMethod yX3_bid, Cond.selects RX3 yX3_bid yX3_bid, Cond.initialized RX3, Cond.code yX3_bid cX3_bid 6 (some .int), Cond.classLink RX3 64 "java/lang/IllegalStateException", Cond.initialized "java/lang/IllegalStateException", Cond.fieldLink RX3 30 "Trumpvault" "purses" "[I", Cond.fieldLink RX3 19 "Trumpvault" "bids" "LTrumpvault$Bids;", Cond.fieldLink RX3 10 "Trumpvault" "cards" "LTrumpvault$Cards;", Cond.fieldLink RX3 133 "Trumpvault$Cards" "salePrices" "[I", Cond.fieldLink RX3 46 "Trumpvault" "nextNumber" "I", Cond.fieldLink RX3 82 "Trumpvault$Cards" "owners" "[I", Cond.methodLink RX3 53 yX3_needPlayer, Cond.static yX3_needPlayer, Cond.code yX3_needPlayer cX3_needPlayer 1 none, Cond.classLink RX3 197 "java/lang/IndexOutOfBoundsException", Cond.initialized "java/lang/IndexOutOfBoundsException", Cond.methodLink RX3 57 yX3_needKind, Cond.static yX3_needKind, Cond.code yX3_needKind cX3_needKind 1 none]
def wsL_bid_r2 : List Cond := [Cond.methodLink RX3 95 yX3_needPrice, Cond.static yX3_needPrice, Cond.code yX3_needPrice cX3_needPrice 1 none, Cond.classLink RX3 150 "java/lang/IllegalArgumentException", Cond.initialized "java/lang/IllegalArgumentException", Cond.methodLink RX3 124 yX0_has, Cond.instanceMethod yX0_has, Cond.selects RX0 yX0_has yX0_has, Cond.initialized RX0, Cond.code yX0_has cX0_has 3 (some .boolean), Cond.fieldLink RX0 11 "Trumpvault$Bids" "prices" "[[I", Cond.methodLink RX3 101 yX3_bannedToday, Cond.instanceMethod yX3_bannedToday, Cond.selects RX3 yX3_bannedToday yX3_bannedToday, Cond.code yX3_bannedToday cX3_bannedToday 2 (some .boolean), Cond.fieldLink RX3 40 "Trumpvault" "bannedFrom" "[I", Cond.fieldLink RX3 50 "Trumpvault" "today" "I", Cond.methodLink RX3 130 yX1_bestSale, Cond.instanceMethod yX1_bestSale, Cond.selects RX1 yX1_bestSale yX1_bestSale, Cond.initialized RX1, Cond.code yX1_bestSale cX1_bestSale 5 (some .int), Cond.fieldLink RX1 36 "Trumpvault$Cards" "count" "I", Cond.fieldLink RX1 15 "Trumpvault$Cards" "owners" "[I"]
def wsL_bid_r3 : List Cond := [Cond.methodLink RX1 40 yX1_isOnSale, Cond.instanceMethod yX1_isOnSale, Cond.selects RX1 yX1_isOnSale yX1_isOnSale, Cond.code yX1_isOnSale cX1_isOnSale 3 (some .boolean), Cond.fieldLink RX1 18 "Trumpvault$Cards" "states" "[I", Cond.fieldLink RX1 9 "Trumpvault$Cards" "kinds" "[I", Cond.methodLink RX1 48 yX1_saleIsBefore, Cond.instanceMethod yX1_saleIsBefore, Cond.selects RX1 yX1_saleIsBefore yX1_saleIsBefore, Cond.code yX1_saleIsBefore cX1_saleIsBefore 3 (some .boolean), Cond.fieldLink RX1 21 "Trumpvault$Cards" "salePrices" "[I", Cond.fieldLink RX1 24 "Trumpvault$Cards" "saleNumbers" "[I", Cond.methodLink RX3 136 yX0_put, Cond.instanceMethod yX0_put, Cond.selects RX0 yX0_put yX0_put, Cond.code yX0_put cX0_put 5 none, Cond.fieldLink RX0 16 "Trumpvault$Bids" "numbers" "[[I", Cond.methodLink RX3 140 yX1_takeSale, Cond.instanceMethod yX1_takeSale, Cond.selects RX1 yX1_takeSale yX1_takeSale, Cond.code yX1_takeSale cX1_takeSale 2 (some .int), Cond.methodLink RX3 121 yX3_giveTo, Cond.instanceMethod yX3_giveTo, Cond.selects RX3 yX3_giveTo yX3_giveTo]
def wsL_bid_r4 : List Cond := [Cond.code yX3_giveTo cX3_giveTo 3 none, Cond.fieldLink RX3 92 "Trumpvault$Cards" "states" "[I", Cond.fieldLink RX3 26 "Trumpvault" "history" "LTrumpvault$History;", Cond.methodLink RX3 75 yX2_record, Cond.instanceMethod yX2_record, Cond.selects RX2 yX2_record yX2_record, Cond.initialized RX2, Cond.code yX2_record cX2_record 3 none, Cond.fieldLink RX2 18 "Trumpvault$History" "count" "I", Cond.fieldLink RX2 9 "Trumpvault$History" "movedCards" "[I", Cond.fieldLink RX2 15 "Trumpvault$History" "newOwners" "[I"]
def wsL_bid : List Cond := .codeWith yL_bid cL_bid 6 (some .int) [(0, 12, 15, 13), (0, 12, 19, 36), (0, 12, 23, 15)] :: ((wsL_bid_r1 ++ (wsL_bid_r2 ++ (wsL_bid_r3 ++ wsL_bid_r4))) ++ wsX30 ++ wsX10 ++ wsX00 ++ wsX20 ++ (vx_atS RX3 68 "java/lang/IllegalStateException" ["java/lang/RuntimeException", "java/lang/Exception"]).filter goodWord ++ (vx_atS RX3 201 "java/lang/IndexOutOfBoundsException" ["java/lang/RuntimeException", "java/lang/Exception"]).filter goodWord ++ (vx_atS RX3 154 "java/lang/IllegalArgumentException" ["java/lang/RuntimeException", "java/lang/Exception"]).filter goodWord)
def wsL_cancelSale_r1 : List Cond := [Cond.classLink RL 13 "java/lang/IndexOutOfBoundsException", Cond.classLink RL 15 "java/lang/IllegalStateException", Cond.methodLink RL 42 yX3_cancelSale, Cond.instanceMethod yX3_cancelSale, Cond.selects RX3 yX3_cancelSale yX3_cancelSale, Cond.initialized RX3, Cond.code yX3_cancelSale cX3_cancelSale 2 (some .int), Cond.classLink RX3 64 "java/lang/IllegalStateException", Cond.initialized "java/lang/IllegalStateException", Cond.fieldLink RX3 10 "Trumpvault" "cards" "LTrumpvault$Cards;", Cond.fieldLink RX3 92 "Trumpvault$Cards" "states" "[I", Cond.methodLink RX3 79 yX3_needCard, Cond.instanceMethod yX3_needCard, Cond.selects RX3 yX3_needCard yX3_needCard, Cond.code yX3_needCard cX3_needCard 2 none, Cond.classLink RX3 197 "java/lang/IndexOutOfBoundsException", Cond.initialized "java/lang/IndexOutOfBoundsException", Cond.methodLink RX3 204 yX1_has, Cond.instanceMethod yX1_has, Cond.selects RX1 yX1_has yX1_has, Cond.initialized RX1, Cond.code yX1_has cX1_has 2 (some .boolean), Cond.fieldLink RX1 36 "Trumpvault$Cards" "count" "I", Cond.methodLink RX3 140 yX1_takeSale]
def wsL_cancelSale_r2 : List Cond := [Cond.instanceMethod yX1_takeSale, Cond.selects RX1 yX1_takeSale yX1_takeSale, Cond.code yX1_takeSale cX1_takeSale 2 (some .int), Cond.fieldLink RX1 18 "Trumpvault$Cards" "states" "[I", Cond.fieldLink RX1 21 "Trumpvault$Cards" "salePrices" "[I"]
def wsL_cancelSale : List Cond := .codeWith yL_cancelSale cL_cancelSale 4 (some .int) [(0, 9, 12, 13), (0, 9, 15, 15)] :: ((wsL_cancelSale_r1 ++ wsL_cancelSale_r2) ++ wsX30 ++ wsX10 ++ (vx_atS RX3 68 "java/lang/IllegalStateException" ["java/lang/RuntimeException", "java/lang/Exception"]).filter goodWord ++ (vx_atS RX3 201 "java/lang/IndexOutOfBoundsException" ["java/lang/RuntimeException", "java/lang/Exception"]).filter goodWord)
def wsL_cancelBid_r1 : List Cond := [Cond.classLink RL 13 "java/lang/IndexOutOfBoundsException", Cond.classLink RL 15 "java/lang/IllegalStateException", Cond.methodLink RL 45 yX3_cancelBid, Cond.instanceMethod yX3_cancelBid, Cond.selects RX3 yX3_cancelBid yX3_cancelBid, Cond.initialized RX3, Cond.code yX3_cancelBid cX3_cancelBid 3 (some .int), Cond.classLink RX3 64 "java/lang/IllegalStateException", Cond.initialized "java/lang/IllegalStateException", Cond.fieldLink RX3 19 "Trumpvault" "bids" "LTrumpvault$Bids;", Cond.methodLink RX3 53 yX3_needPlayer, Cond.static yX3_needPlayer, Cond.code yX3_needPlayer cX3_needPlayer 1 none, Cond.classLink RX3 197 "java/lang/IndexOutOfBoundsException", Cond.initialized "java/lang/IndexOutOfBoundsException", Cond.methodLink RX3 57 yX3_needKind, Cond.static yX3_needKind, Cond.code yX3_needKind cX3_needKind 1 none, Cond.methodLink RX3 124 yX0_has, Cond.instanceMethod yX0_has, Cond.selects RX0 yX0_has yX0_has, Cond.initialized RX0, Cond.code yX0_has cX0_has 3 (some .boolean), Cond.fieldLink RX0 11 "Trumpvault$Bids" "prices" "[[I"]
def wsL_cancelBid_r2 : List Cond := [Cond.methodLink RX3 147 yX3_giveBidBack, Cond.instanceMethod yX3_giveBidBack, Cond.selects RX3 yX3_giveBidBack yX3_giveBidBack, Cond.code yX3_giveBidBack cX3_giveBidBack 4 (some .int), Cond.fieldLink RX3 30 "Trumpvault" "purses" "[I", Cond.methodLink RX3 118 yX0_take, Cond.instanceMethod yX0_take, Cond.selects RX0 yX0_take yX0_take, Cond.code yX0_take cX0_take 4 (some .int)]
def wsL_cancelBid : List Cond := .codeWith yL_cancelBid cL_cancelBid 5 (some .int) [(0, 10, 13, 13), (0, 10, 17, 15)] :: ((wsL_cancelBid_r1 ++ wsL_cancelBid_r2) ++ wsX30 ++ wsX00 ++ (vx_atS RX3 68 "java/lang/IllegalStateException" ["java/lang/RuntimeException", "java/lang/Exception"]).filter goodWord ++ (vx_atS RX3 201 "java/lang/IndexOutOfBoundsException" ["java/lang/RuntimeException", "java/lang/Exception"]).filter goodWord)
def wsL_leastSale_r1 : List Cond := [Cond.classLink RL 13 "java/lang/IndexOutOfBoundsException", Cond.methodLink RL 48 yX3_leastSale, Cond.instanceMethod yX3_leastSale, Cond.selects RX3 yX3_leastSale yX3_leastSale, Cond.initialized RX3, Cond.code yX3_leastSale cX3_leastSale 3 (some .int), Cond.fieldLink RX3 10 "Trumpvault" "cards" "LTrumpvault$Cards;", Cond.fieldLink RX3 133 "Trumpvault$Cards" "salePrices" "[I", Cond.methodLink RX3 57 yX3_needKind, Cond.static yX3_needKind, Cond.code yX3_needKind cX3_needKind 1 none, Cond.classLink RX3 197 "java/lang/IndexOutOfBoundsException", Cond.initialized "java/lang/IndexOutOfBoundsException", Cond.methodLink RX3 130 yX1_bestSale, Cond.instanceMethod yX1_bestSale, Cond.selects RX1 yX1_bestSale yX1_bestSale, Cond.initialized RX1, Cond.code yX1_bestSale cX1_bestSale 5 (some .int), Cond.fieldLink RX1 36 "Trumpvault$Cards" "count" "I", Cond.fieldLink RX1 15 "Trumpvault$Cards" "owners" "[I", Cond.methodLink RX1 40 yX1_isOnSale, Cond.instanceMethod yX1_isOnSale, Cond.selects RX1 yX1_isOnSale yX1_isOnSale, Cond.code yX1_isOnSale cX1_isOnSale 3 (some .boolean)]
def wsL_leastSale_r2 : List Cond := [Cond.fieldLink RX1 18 "Trumpvault$Cards" "states" "[I", Cond.fieldLink RX1 9 "Trumpvault$Cards" "kinds" "[I", Cond.methodLink RX1 48 yX1_saleIsBefore, Cond.instanceMethod yX1_saleIsBefore, Cond.selects RX1 yX1_saleIsBefore yX1_saleIsBefore, Cond.code yX1_saleIsBefore cX1_saleIsBefore 3 (some .boolean), Cond.fieldLink RX1 21 "Trumpvault$Cards" "salePrices" "[I", Cond.fieldLink RX1 24 "Trumpvault$Cards" "saleNumbers" "[I"]
def wsL_leastSale : List Cond := .codeWith yL_leastSale cL_leastSale 4 (some .int) [(0, 9, 12, 13)] :: ((wsL_leastSale_r1 ++ wsL_leastSale_r2) ++ wsX30 ++ wsX10 ++ (vx_atS RX3 201 "java/lang/IndexOutOfBoundsException" ["java/lang/RuntimeException", "java/lang/Exception"]).filter goodWord)
def wsL_greatestBid_r1 : List Cond := [Cond.classLink RL 13 "java/lang/IndexOutOfBoundsException", Cond.methodLink RL 51 yX3_greatestBid, Cond.instanceMethod yX3_greatestBid, Cond.selects RX3 yX3_greatestBid yX3_greatestBid, Cond.initialized RX3, Cond.code yX3_greatestBid cX3_greatestBid 3 (some .int), Cond.fieldLink RX3 19 "Trumpvault" "bids" "LTrumpvault$Bids;", Cond.fieldLink RX3 110 "Trumpvault$Bids" "prices" "[[I", Cond.methodLink RX3 57 yX3_needKind, Cond.static yX3_needKind, Cond.code yX3_needKind cX3_needKind 1 none, Cond.classLink RX3 197 "java/lang/IndexOutOfBoundsException", Cond.initialized "java/lang/IndexOutOfBoundsException", Cond.methodLink RX3 107 yX0_bestBidder, Cond.instanceMethod yX0_bestBidder, Cond.selects RX0 yX0_bestBidder yX0_bestBidder, Cond.initialized RX0, Cond.code yX0_bestBidder cX0_bestBidder 5 (some .int), Cond.methodLink RX0 19 yX0_has, Cond.instanceMethod yX0_has, Cond.selects RX0 yX0_has yX0_has, Cond.code yX0_has cX0_has 3 (some .boolean), Cond.fieldLink RX0 11 "Trumpvault$Bids" "prices" "[[I", Cond.methodLink RX0 23 yX0_isBefore]
def wsL_greatestBid_r2 : List Cond := [Cond.instanceMethod yX0_isBefore, Cond.selects RX0 yX0_isBefore yX0_isBefore, Cond.code yX0_isBefore cX0_isBefore 6 (some .boolean), Cond.fieldLink RX0 16 "Trumpvault$Bids" "numbers" "[[I"]
def wsL_greatestBid : List Cond := .codeWith yL_greatestBid cL_greatestBid 4 (some .int) [(0, 9, 12, 13)] :: ((wsL_greatestBid_r1 ++ wsL_greatestBid_r2) ++ wsX30 ++ wsX00 ++ (vx_atS RX3 201 "java/lang/IndexOutOfBoundsException" ["java/lang/RuntimeException", "java/lang/Exception"]).filter goodWord)
def wsL_swap_r1 : List Cond := [Cond.classLink RL 13 "java/lang/IndexOutOfBoundsException", Cond.classLink RL 36 "java/lang/IllegalArgumentException", Cond.classLink RL 15 "java/lang/IllegalStateException", Cond.methodLink RL 54 yX3_swap, Cond.instanceMethod yX3_swap, Cond.selects RX3 yX3_swap yX3_swap, Cond.initialized RX3, Cond.code yX3_swap cX3_swap 3 none, Cond.classLink RX3 150 "java/lang/IllegalArgumentException", Cond.initialized "java/lang/IllegalArgumentException", Cond.classLink RX3 64 "java/lang/IllegalStateException", Cond.initialized "java/lang/IllegalStateException", Cond.fieldLink RX3 10 "Trumpvault" "cards" "LTrumpvault$Cards;", Cond.fieldLink RX3 82 "Trumpvault$Cards" "owners" "[I", Cond.fieldLink RX3 92 "Trumpvault$Cards" "states" "[I", Cond.fieldLink RX3 157 "Trumpvault$Cards" "swapOthers" "[I", Cond.methodLink RX3 79 yX3_needCard, Cond.instanceMethod yX3_needCard, Cond.selects RX3 yX3_needCard yX3_needCard, Cond.code yX3_needCard cX3_needCard 2 none, Cond.classLink RX3 197 "java/lang/IndexOutOfBoundsException", Cond.initialized "java/lang/IndexOutOfBoundsException", Cond.methodLink RX3 204 yX1_has, Cond.instanceMethod yX1_has]
def wsL_swap_r2 : List Cond := [Cond.selects RX1 yX1_has yX1_has, Cond.initialized RX1, Cond.code yX1_has cX1_has 2 (some .boolean), Cond.fieldLink RX1 36 "Trumpvault$Cards" "count" "I"]
def wsL_swap : List Cond := .codeWith yL_swap cL_swap 4 (some .int) [(0, 6, 9, 13), (0, 6, 12, 36), (0, 6, 15, 15)] :: ((wsL_swap_r1 ++ wsL_swap_r2) ++ wsX30 ++ wsX10 ++ (vx_atS RX3 154 "java/lang/IllegalArgumentException" ["java/lang/RuntimeException", "java/lang/Exception"]).filter goodWord ++ (vx_atS RX3 68 "java/lang/IllegalStateException" ["java/lang/RuntimeException", "java/lang/Exception"]).filter goodWord ++ (vx_atS RX3 201 "java/lang/IndexOutOfBoundsException" ["java/lang/RuntimeException", "java/lang/Exception"]).filter goodWord)
def wsL_agree_r1 : List Cond := [Cond.classLink RL 13 "java/lang/IndexOutOfBoundsException", Cond.classLink RL 15 "java/lang/IllegalStateException", Cond.methodLink RL 58 yX3_agree, Cond.instanceMethod yX3_agree, Cond.selects RX3 yX3_agree yX3_agree, Cond.initialized RX3, Cond.code yX3_agree cX3_agree 4 (some .int), Cond.classLink RX3 64 "java/lang/IllegalStateException", Cond.initialized "java/lang/IllegalStateException", Cond.fieldLink RX3 10 "Trumpvault" "cards" "LTrumpvault$Cards;", Cond.fieldLink RX3 157 "Trumpvault$Cards" "swapOthers" "[I", Cond.fieldLink RX3 82 "Trumpvault$Cards" "owners" "[I", Cond.methodLink RX3 79 yX3_needCard, Cond.instanceMethod yX3_needCard, Cond.selects RX3 yX3_needCard yX3_needCard, Cond.code yX3_needCard cX3_needCard 2 none, Cond.classLink RX3 197 "java/lang/IndexOutOfBoundsException", Cond.initialized "java/lang/IndexOutOfBoundsException", Cond.methodLink RX3 204 yX1_has, Cond.instanceMethod yX1_has, Cond.selects RX1 yX1_has yX1_has, Cond.initialized RX1, Cond.code yX1_has cX1_has 2 (some .boolean), Cond.fieldLink RX1 36 "Trumpvault$Cards" "count" "I"]
def wsL_agree_r2 : List Cond := [Cond.methodLink RX3 160 yX1_canBeSwapped, Cond.instanceMethod yX1_canBeSwapped, Cond.selects RX1 yX1_canBeSwapped yX1_canBeSwapped, Cond.code yX1_canBeSwapped cX1_canBeSwapped 3 (some .boolean), Cond.fieldLink RX1 27 "Trumpvault$Cards" "swapOthers" "[I", Cond.fieldLink RX1 18 "Trumpvault$Cards" "states" "[I", Cond.fieldLink RX1 15 "Trumpvault$Cards" "owners" "[I", Cond.methodLink RX1 51 yX1_has, Cond.methodLink RX3 121 yX3_giveTo, Cond.instanceMethod yX3_giveTo, Cond.selects RX3 yX3_giveTo yX3_giveTo, Cond.code yX3_giveTo cX3_giveTo 3 none, Cond.fieldLink RX3 92 "Trumpvault$Cards" "states" "[I", Cond.fieldLink RX3 26 "Trumpvault" "history" "LTrumpvault$History;", Cond.methodLink RX3 75 yX2_record, Cond.instanceMethod yX2_record, Cond.selects RX2 yX2_record yX2_record, Cond.initialized RX2, Cond.code yX2_record cX2_record 3 none, Cond.fieldLink RX2 18 "Trumpvault$History" "count" "I", Cond.fieldLink RX2 9 "Trumpvault$History" "movedCards" "[I", Cond.fieldLink RX2 15 "Trumpvault$History" "newOwners" "[I"]
def wsL_agree : List Cond := .codeWith yL_agree cL_agree 4 (some .int) [(0, 9, 12, 13), (0, 9, 15, 15)] :: ((wsL_agree_r1 ++ wsL_agree_r2) ++ wsX30 ++ wsX10 ++ wsX20 ++ (vx_atS RX3 68 "java/lang/IllegalStateException" ["java/lang/RuntimeException", "java/lang/Exception"]).filter goodWord ++ (vx_atS RX3 201 "java/lang/IndexOutOfBoundsException" ["java/lang/RuntimeException", "java/lang/Exception"]).filter goodWord)
def wsL_cancelSwap : List Cond := .codeWith yL_cancelSwap cL_cancelSwap 3 (some .int) [(0, 5, 8, 13), (0, 5, 11, 15)] :: ([.classLink RL 13 "java/lang/IndexOutOfBoundsException", .classLink RL 15 "java/lang/IllegalStateException", .methodLink RL 61 yX3_cancelSwap, .instanceMethod yX3_cancelSwap, .selects RX3 yX3_cancelSwap yX3_cancelSwap, .initialized RX3, .code yX3_cancelSwap cX3_cancelSwap 2 none, .classLink RX3 64 "java/lang/IllegalStateException", .initialized "java/lang/IllegalStateException", .fieldLink RX3 10 "Trumpvault" "cards" "LTrumpvault$Cards;", .fieldLink RX3 92 "Trumpvault$Cards" "states" "[I", .methodLink RX3 79 yX3_needCard, .instanceMethod yX3_needCard, .selects RX3 yX3_needCard yX3_needCard, .code yX3_needCard cX3_needCard 2 none, .classLink RX3 197 "java/lang/IndexOutOfBoundsException", .initialized "java/lang/IndexOutOfBoundsException", .methodLink RX3 204 yX1_has, .instanceMethod yX1_has, .selects RX1 yX1_has yX1_has, .initialized RX1, .code yX1_has cX1_has 2 (some .boolean), .fieldLink RX1 36 "Trumpvault$Cards" "count" "I"] ++ wsX30 ++ wsX10 ++ (vx_atS RX3 68 "java/lang/IllegalStateException" ["java/lang/RuntimeException", "java/lang/Exception"]).filter goodWord ++ (vx_atS RX3 201 "java/lang/IndexOutOfBoundsException" ["java/lang/RuntimeException", "java/lang/Exception"]).filter goodWord)
def wsL_lend_r1 : List Cond := [Cond.classLink RL 13 "java/lang/IndexOutOfBoundsException", Cond.classLink RL 36 "java/lang/IllegalArgumentException", Cond.classLink RL 15 "java/lang/IllegalStateException", Cond.methodLink RL 65 yX3_lend, Cond.instanceMethod yX3_lend, Cond.selects RX3 yX3_lend yX3_lend, Cond.initialized RX3, Cond.code yX3_lend cX3_lend 5 (some .int), Cond.classLink RX3 150 "java/lang/IllegalArgumentException", Cond.initialized "java/lang/IllegalArgumentException", Cond.classLink RX3 64 "java/lang/IllegalStateException", Cond.initialized "java/lang/IllegalStateException", Cond.fieldLink RX3 10 "Trumpvault" "cards" "LTrumpvault$Cards;", Cond.fieldLink RX3 82 "Trumpvault$Cards" "owners" "[I", Cond.fieldLink RX3 92 "Trumpvault$Cards" "states" "[I", Cond.fieldLink RX3 50 "Trumpvault" "today" "I", Cond.methodLink RX3 79 yX3_needCard, Cond.instanceMethod yX3_needCard, Cond.selects RX3 yX3_needCard yX3_needCard, Cond.code yX3_needCard cX3_needCard 2 none, Cond.classLink RX3 197 "java/lang/IndexOutOfBoundsException", Cond.initialized "java/lang/IndexOutOfBoundsException", Cond.methodLink RX3 204 yX1_has, Cond.instanceMethod yX1_has]
def wsL_lend_r2 : List Cond := [Cond.selects RX1 yX1_has yX1_has, Cond.initialized RX1, Cond.code yX1_has cX1_has 2 (some .boolean), Cond.fieldLink RX1 36 "Trumpvault$Cards" "count" "I", Cond.methodLink RX3 53 yX3_needPlayer, Cond.static yX3_needPlayer, Cond.code yX3_needPlayer cX3_needPlayer 1 none, Cond.methodLink RX3 169 yX1_lendTo, Cond.instanceMethod yX1_lendTo, Cond.selects RX1 yX1_lendTo yX1_lendTo, Cond.code yX1_lendTo cX1_lendTo 4 none, Cond.fieldLink RX1 18 "Trumpvault$Cards" "states" "[I", Cond.fieldLink RX1 30 "Trumpvault$Cards" "borrowers" "[I", Cond.fieldLink RX1 33 "Trumpvault$Cards" "returnDays" "[I"]
def wsL_lend : List Cond := .codeWith yL_lend cL_lend 6 (some .int) [(0, 12, 15, 13), (0, 12, 19, 36), (0, 12, 23, 15)] :: ((wsL_lend_r1 ++ wsL_lend_r2) ++ wsX30 ++ wsX10 ++ (vx_atS RX3 154 "java/lang/IllegalArgumentException" ["java/lang/RuntimeException", "java/lang/Exception"]).filter goodWord ++ (vx_atS RX3 68 "java/lang/IllegalStateException" ["java/lang/RuntimeException", "java/lang/Exception"]).filter goodWord ++ (vx_atS RX3 201 "java/lang/IndexOutOfBoundsException" ["java/lang/RuntimeException", "java/lang/Exception"]).filter goodWord)
def wsL_ban_r1 : List Cond := [Cond.classLink RL 13 "java/lang/IndexOutOfBoundsException", Cond.classLink RL 36 "java/lang/IllegalArgumentException", Cond.methodLink RL 68 yX3_ban, Cond.instanceMethod yX3_ban, Cond.selects RX3 yX3_ban yX3_ban, Cond.initialized RX3, Cond.code yX3_ban cX3_ban 3 (some .int), Cond.classLink RX3 150 "java/lang/IllegalArgumentException", Cond.initialized "java/lang/IllegalArgumentException", Cond.fieldLink RX3 50 "Trumpvault" "today" "I", Cond.fieldLink RX3 40 "Trumpvault" "bannedFrom" "[I", Cond.methodLink RX3 57 yX3_needKind, Cond.static yX3_needKind, Cond.code yX3_needKind cX3_needKind 1 none, Cond.classLink RX3 197 "java/lang/IndexOutOfBoundsException", Cond.initialized "java/lang/IndexOutOfBoundsException", Cond.methodLink RX3 101 yX3_bannedToday, Cond.instanceMethod yX3_bannedToday, Cond.selects RX3 yX3_bannedToday yX3_bannedToday, Cond.code yX3_bannedToday cX3_bannedToday 2 (some .boolean), Cond.methodLink RX3 174 yX3_clearMarket, Cond.instanceMethod yX3_clearMarket, Cond.selects RX3 yX3_clearMarket yX3_clearMarket, Cond.code yX3_clearMarket cX3_clearMarket 4 (some .int)]
def wsL_ban_r2 : List Cond := [Cond.fieldLink RX3 10 "Trumpvault" "cards" "LTrumpvault$Cards;", Cond.fieldLink RX3 19 "Trumpvault" "bids" "LTrumpvault$Bids;", Cond.methodLink RX3 210 yX1_takeSalesOf, Cond.instanceMethod yX1_takeSalesOf, Cond.selects RX1 yX1_takeSalesOf yX1_takeSalesOf, Cond.initialized RX1, Cond.code yX1_takeSalesOf cX1_takeSalesOf 4 (some .int), Cond.fieldLink RX1 36 "Trumpvault$Cards" "count" "I", Cond.methodLink RX1 40 yX1_isOnSale, Cond.instanceMethod yX1_isOnSale, Cond.selects RX1 yX1_isOnSale yX1_isOnSale, Cond.code yX1_isOnSale cX1_isOnSale 3 (some .boolean), Cond.fieldLink RX1 18 "Trumpvault$Cards" "states" "[I", Cond.fieldLink RX1 9 "Trumpvault$Cards" "kinds" "[I", Cond.methodLink RX1 44 yX1_takeSale, Cond.instanceMethod yX1_takeSale, Cond.selects RX1 yX1_takeSale yX1_takeSale, Cond.code yX1_takeSale cX1_takeSale 2 (some .int), Cond.fieldLink RX1 21 "Trumpvault$Cards" "salePrices" "[I", Cond.methodLink RX3 124 yX0_has, Cond.instanceMethod yX0_has, Cond.selects RX0 yX0_has yX0_has, Cond.initialized RX0, Cond.code yX0_has cX0_has 3 (some .boolean)]
def wsL_ban_r3 : List Cond := [Cond.fieldLink RX0 11 "Trumpvault$Bids" "prices" "[[I", Cond.methodLink RX3 147 yX3_giveBidBack, Cond.instanceMethod yX3_giveBidBack, Cond.selects RX3 yX3_giveBidBack yX3_giveBidBack, Cond.code yX3_giveBidBack cX3_giveBidBack 4 (some .int), Cond.fieldLink RX3 30 "Trumpvault" "purses" "[I", Cond.methodLink RX3 118 yX0_take, Cond.instanceMethod yX0_take, Cond.selects RX0 yX0_take yX0_take, Cond.code yX0_take cX0_take 4 (some .int)]
def wsL_ban : List Cond := .codeWith yL_ban cL_ban 5 (some .int) [(0, 10, 13, 13), (0, 10, 17, 36)] :: ((wsL_ban_r1 ++ (wsL_ban_r2 ++ wsL_ban_r3)) ++ wsX30 ++ wsX10 ++ wsX00 ++ (vx_atS RX3 154 "java/lang/IllegalArgumentException" ["java/lang/RuntimeException", "java/lang/Exception"]).filter goodWord ++ (vx_atS RX3 201 "java/lang/IndexOutOfBoundsException" ["java/lang/RuntimeException", "java/lang/Exception"]).filter goodWord)
def wsL_lift : List Cond := .codeWith yL_lift cL_lift 4 (some .int) [(0, 16, 19, 13)] :: ([.classLink RL 13 "java/lang/IndexOutOfBoundsException", .methodLink RL 71 yX3_lift, .instanceMethod yX3_lift, .selects RX3 yX3_lift yX3_lift, .initialized RX3, .code yX3_lift cX3_lift 3 (some .boolean), .fieldLink RX3 40 "Trumpvault" "bannedFrom" "[I", .methodLink RX3 57 yX3_needKind, .static yX3_needKind, .code yX3_needKind cX3_needKind 1 none, .classLink RX3 197 "java/lang/IndexOutOfBoundsException", .initialized "java/lang/IndexOutOfBoundsException"] ++ wsX30 ++ (vx_atS RX3 201 "java/lang/IndexOutOfBoundsException" ["java/lang/RuntimeException", "java/lang/Exception"]).filter goodWord)
def wsL_isBanned : List Cond := .codeWith yL_isBanned cL_isBanned 4 (some .int) [(0, 16, 19, 13)] :: ([.classLink RL 13 "java/lang/IndexOutOfBoundsException", .methodLink RL 75 yX3_isBanned, .instanceMethod yX3_isBanned, .selects RX3 yX3_isBanned yX3_isBanned, .initialized RX3, .code yX3_isBanned cX3_isBanned 2 (some .boolean), .methodLink RX3 57 yX3_needKind, .static yX3_needKind, .code yX3_needKind cX3_needKind 1 none, .classLink RX3 197 "java/lang/IndexOutOfBoundsException", .initialized "java/lang/IndexOutOfBoundsException", .methodLink RX3 101 yX3_bannedToday, .instanceMethod yX3_bannedToday, .selects RX3 yX3_bannedToday yX3_bannedToday, .code yX3_bannedToday cX3_bannedToday 2 (some .boolean), .fieldLink RX3 40 "Trumpvault" "bannedFrom" "[I", .fieldLink RX3 50 "Trumpvault" "today" "I"] ++ wsX30 ++ (vx_atS RX3 201 "java/lang/IndexOutOfBoundsException" ["java/lang/RuntimeException", "java/lang/Exception"]).filter goodWord)
def wsL_pass_r1 : List Cond := [Cond.classLink RL 36 "java/lang/IllegalArgumentException", Cond.methodLink RL 78 yX3_pass, Cond.instanceMethod yX3_pass, Cond.selects RX3 yX3_pass yX3_pass, Cond.initialized RX3, Cond.code yX3_pass cX3_pass 3 (some .int), Cond.classLink RX3 150 "java/lang/IllegalArgumentException", Cond.initialized "java/lang/IllegalArgumentException", Cond.fieldLink RX3 50 "Trumpvault" "today" "I", Cond.fieldLink RX3 10 "Trumpvault" "cards" "LTrumpvault$Cards;", Cond.methodLink RX3 179 yX1_endLoans, Cond.instanceMethod yX1_endLoans, Cond.selects RX1 yX1_endLoans yX1_endLoans, Cond.initialized RX1, Cond.code yX1_endLoans cX1_endLoans 3 none, Cond.fieldLink RX1 36 "Trumpvault$Cards" "count" "I", Cond.fieldLink RX1 18 "Trumpvault$Cards" "states" "[I", Cond.fieldLink RX1 33 "Trumpvault$Cards" "returnDays" "[I", Cond.methodLink RX3 101 yX3_bannedToday, Cond.instanceMethod yX3_bannedToday, Cond.selects RX3 yX3_bannedToday yX3_bannedToday, Cond.code yX3_bannedToday cX3_bannedToday 2 (some .boolean), Cond.fieldLink RX3 40 "Trumpvault" "bannedFrom" "[I", Cond.methodLink RX3 174 yX3_clearMarket]
def wsL_pass_r2 : List Cond := [Cond.instanceMethod yX3_clearMarket, Cond.selects RX3 yX3_clearMarket yX3_clearMarket, Cond.code yX3_clearMarket cX3_clearMarket 4 (some .int), Cond.fieldLink RX3 19 "Trumpvault" "bids" "LTrumpvault$Bids;", Cond.methodLink RX3 210 yX1_takeSalesOf, Cond.instanceMethod yX1_takeSalesOf, Cond.selects RX1 yX1_takeSalesOf yX1_takeSalesOf, Cond.code yX1_takeSalesOf cX1_takeSalesOf 4 (some .int), Cond.methodLink RX1 40 yX1_isOnSale, Cond.instanceMethod yX1_isOnSale, Cond.selects RX1 yX1_isOnSale yX1_isOnSale, Cond.code yX1_isOnSale cX1_isOnSale 3 (some .boolean), Cond.fieldLink RX1 9 "Trumpvault$Cards" "kinds" "[I", Cond.methodLink RX1 44 yX1_takeSale, Cond.instanceMethod yX1_takeSale, Cond.selects RX1 yX1_takeSale yX1_takeSale, Cond.code yX1_takeSale cX1_takeSale 2 (some .int), Cond.fieldLink RX1 21 "Trumpvault$Cards" "salePrices" "[I", Cond.methodLink RX3 124 yX0_has, Cond.instanceMethod yX0_has, Cond.selects RX0 yX0_has yX0_has, Cond.initialized RX0, Cond.code yX0_has cX0_has 3 (some .boolean), Cond.fieldLink RX0 11 "Trumpvault$Bids" "prices" "[[I"]
def wsL_pass_r3 : List Cond := [Cond.methodLink RX3 147 yX3_giveBidBack, Cond.instanceMethod yX3_giveBidBack, Cond.selects RX3 yX3_giveBidBack yX3_giveBidBack, Cond.code yX3_giveBidBack cX3_giveBidBack 4 (some .int), Cond.fieldLink RX3 30 "Trumpvault" "purses" "[I", Cond.methodLink RX3 118 yX0_take, Cond.instanceMethod yX0_take, Cond.selects RX0 yX0_take yX0_take, Cond.code yX0_take cX0_take 4 (some .int)]
def wsL_pass : List Cond := .codeWith yL_pass cL_pass 4 (some .int) [(0, 9, 12, 36)] :: ((wsL_pass_r1 ++ (wsL_pass_r2 ++ wsL_pass_r3)) ++ wsX30 ++ wsX10 ++ wsX00 ++ (vx_atS RX3 154 "java/lang/IllegalArgumentException" ["java/lang/RuntimeException", "java/lang/Exception"]).filter goodWord)
def wsL_toggleDeck_r1 : List Cond := [Cond.classLink RL 13 "java/lang/IndexOutOfBoundsException", Cond.methodLink RL 81 yX3_toggleDeck, Cond.instanceMethod yX3_toggleDeck, Cond.selects RX3 yX3_toggleDeck yX3_toggleDeck, Cond.initialized RX3, Cond.code yX3_toggleDeck cX3_toggleDeck 3 (some .int), Cond.fieldLink RX3 43 "Trumpvault" "decks" "[I", Cond.methodLink RX3 53 yX3_needPlayer, Cond.static yX3_needPlayer, Cond.code yX3_needPlayer cX3_needPlayer 1 none, Cond.classLink RX3 197 "java/lang/IndexOutOfBoundsException", Cond.initialized "java/lang/IndexOutOfBoundsException", Cond.methodLink RX3 79 yX3_needCard, Cond.instanceMethod yX3_needCard, Cond.selects RX3 yX3_needCard yX3_needCard, Cond.code yX3_needCard cX3_needCard 2 none, Cond.fieldLink RX3 10 "Trumpvault" "cards" "LTrumpvault$Cards;", Cond.methodLink RX3 204 yX1_has, Cond.instanceMethod yX1_has, Cond.selects RX1 yX1_has yX1_has, Cond.initialized RX1, Cond.code yX1_has cX1_has 2 (some .boolean), Cond.fieldLink RX1 36 "Trumpvault$Cards" "count" "I", Cond.methodLink RX3 182 yJ6_bitCount_0f7a4]
def wsL_toggleDeck_r2 : List Cond := [Cond.static yJ6_bitCount_0f7a4, Cond.initialized RJ6, Cond.code yJ6_bitCount_0f7a4 cJ6_bitCount_0f7a4 1 (some .int), Cond.constant RJ6 265 (1431655765), Cond.constant RJ6 266 (858993459), Cond.constant RJ6 267 (252645135)]
def wsL_toggleDeck : List Cond := .codeWith yL_toggleDeck cL_toggleDeck 5 (some .int) [(0, 10, 13, 13)] :: ((wsL_toggleDeck_r1 ++ wsL_toggleDeck_r2) ++ wsX30 ++ wsX10 ++ (vx_atS RX3 201 "java/lang/IndexOutOfBoundsException" ["java/lang/RuntimeException", "java/lang/Exception"]).filter goodWord)
def wsL_isRight_r1 : List Cond := [Cond.classLink RL 13 "java/lang/IndexOutOfBoundsException", Cond.methodLink RL 84 yX3_isRight, Cond.instanceMethod yX3_isRight, Cond.selects RX3 yX3_isRight yX3_isRight, Cond.initialized RX3, Cond.code yX3_isRight cX3_isRight 2 (some .boolean), Cond.methodLink RX3 53 yX3_needPlayer, Cond.static yX3_needPlayer, Cond.code yX3_needPlayer cX3_needPlayer 1 none, Cond.classLink RX3 197 "java/lang/IndexOutOfBoundsException", Cond.initialized "java/lang/IndexOutOfBoundsException", Cond.methodLink RX3 187 yX3_deckIsRight, Cond.instanceMethod yX3_deckIsRight, Cond.selects RX3 yX3_deckIsRight yX3_deckIsRight, Cond.code yX3_deckIsRight cX3_deckIsRight 4 (some .boolean), Cond.fieldLink RX3 43 "Trumpvault" "decks" "[I", Cond.fieldLink RX3 10 "Trumpvault" "cards" "LTrumpvault$Cards;", Cond.fieldLink RX3 213 "Trumpvault$Cards" "count" "I", Cond.methodLink RX3 182 yJ6_bitCount_0f7a4, Cond.static yJ6_bitCount_0f7a4, Cond.initialized RJ6, Cond.code yJ6_bitCount_0f7a4 cJ6_bitCount_0f7a4 1 (some .int), Cond.constant RJ6 265 (1431655765), Cond.constant RJ6 266 (858993459)]
def wsL_isRight_r2 : List Cond := [Cond.constant RJ6 267 (252645135), Cond.methodLink RX3 216 yX3_inDeck, Cond.instanceMethod yX3_inDeck, Cond.selects RX3 yX3_inDeck yX3_inDeck, Cond.code yX3_inDeck cX3_inDeck 3 (some .boolean), Cond.methodLink RX3 219 yX3_isPlayable, Cond.instanceMethod yX3_isPlayable, Cond.selects RX3 yX3_isPlayable yX3_isPlayable, Cond.code yX3_isPlayable cX3_isPlayable 4 (some .boolean), Cond.fieldLink RX3 92 "Trumpvault$Cards" "states" "[I", Cond.fieldLink RX3 98 "Trumpvault$Cards" "kinds" "[I", Cond.methodLink RX3 89 yX1_holderOf, Cond.instanceMethod yX1_holderOf, Cond.selects RX1 yX1_holderOf yX1_holderOf, Cond.initialized RX1, Cond.code yX1_holderOf cX1_holderOf 2 (some .int), Cond.fieldLink RX1 18 "Trumpvault$Cards" "states" "[I", Cond.fieldLink RX1 30 "Trumpvault$Cards" "borrowers" "[I", Cond.fieldLink RX1 15 "Trumpvault$Cards" "owners" "[I", Cond.methodLink RX3 101 yX3_bannedToday, Cond.instanceMethod yX3_bannedToday, Cond.selects RX3 yX3_bannedToday yX3_bannedToday, Cond.code yX3_bannedToday cX3_bannedToday 2 (some .boolean), Cond.fieldLink RX3 40 "Trumpvault" "bannedFrom" "[I"]
def wsL_isRight_r3 : List Cond := [Cond.fieldLink RX3 50 "Trumpvault" "today" "I"]
def wsL_isRight : List Cond := .codeWith yL_isRight cL_isRight 4 (some .int) [(0, 16, 19, 13)] :: ((wsL_isRight_r1 ++ (wsL_isRight_r2 ++ wsL_isRight_r3)) ++ wsX30 ++ wsX10 ++ (vx_atS RX3 201 "java/lang/IndexOutOfBoundsException" ["java/lang/RuntimeException", "java/lang/Exception"]).filter goodWord)
def wsL_strength : List Cond := .codeWith yL_strength cL_strength 4 (some .int) [(0, 9, 12, 13)] :: ([.classLink RL 13 "java/lang/IndexOutOfBoundsException", .methodLink RL 87 yX3_strength, .instanceMethod yX3_strength, .selects RX3 yX3_strength yX3_strength, .initialized RX3, .code yX3_strength cX3_strength 2 (some .int), .methodLink RX3 53 yX3_needPlayer, .static yX3_needPlayer, .code yX3_needPlayer cX3_needPlayer 1 none, .classLink RX3 197 "java/lang/IndexOutOfBoundsException", .initialized "java/lang/IndexOutOfBoundsException", .methodLink RX3 190 yX3_deckStrength, .instanceMethod yX3_deckStrength, .selects RX3 yX3_deckStrength yX3_deckStrength, .code yX3_deckStrength cX3_deckStrength 4 (some .int), .fieldLink RX3 10 "Trumpvault" "cards" "LTrumpvault$Cards;", .fieldLink RX3 213 "Trumpvault$Cards" "count" "I", .fieldLink RX3 98 "Trumpvault$Cards" "kinds" "[I", .methodLink RX3 216 yX3_inDeck, .instanceMethod yX3_inDeck, .selects RX3 yX3_inDeck yX3_inDeck, .code yX3_inDeck cX3_inDeck 3 (some .boolean), .fieldLink RX3 43 "Trumpvault" "decks" "[I"] ++ wsX30 ++ wsX10 ++ (vx_atS RX3 201 "java/lang/IndexOutOfBoundsException" ["java/lang/RuntimeException", "java/lang/Exception"]).filter goodWord)
def wsL_play_r1 : List Cond := [Cond.classLink RL 13 "java/lang/IndexOutOfBoundsException", Cond.classLink RL 36 "java/lang/IllegalArgumentException", Cond.classLink RL 15 "java/lang/IllegalStateException", Cond.methodLink RL 90 yX3_play, Cond.instanceMethod yX3_play, Cond.selects RX3 yX3_play yX3_play, Cond.initialized RX3, Cond.code yX3_play cX3_play 4 (some .int), Cond.classLink RX3 150 "java/lang/IllegalArgumentException", Cond.initialized "java/lang/IllegalArgumentException", Cond.classLink RX3 64 "java/lang/IllegalStateException", Cond.initialized "java/lang/IllegalStateException", Cond.fieldLink RX3 30 "Trumpvault" "purses" "[I", Cond.methodLink RX3 53 yX3_needPlayer, Cond.static yX3_needPlayer, Cond.code yX3_needPlayer cX3_needPlayer 1 none, Cond.classLink RX3 197 "java/lang/IndexOutOfBoundsException", Cond.initialized "java/lang/IndexOutOfBoundsException", Cond.methodLink RX3 187 yX3_deckIsRight, Cond.instanceMethod yX3_deckIsRight, Cond.selects RX3 yX3_deckIsRight yX3_deckIsRight, Cond.code yX3_deckIsRight cX3_deckIsRight 4 (some .boolean), Cond.fieldLink RX3 43 "Trumpvault" "decks" "[I", Cond.fieldLink RX3 10 "Trumpvault" "cards" "LTrumpvault$Cards;"]
def wsL_play_r2 : List Cond := [Cond.fieldLink RX3 213 "Trumpvault$Cards" "count" "I", Cond.methodLink RX3 182 yJ6_bitCount_0f7a4, Cond.static yJ6_bitCount_0f7a4, Cond.initialized RJ6, Cond.code yJ6_bitCount_0f7a4 cJ6_bitCount_0f7a4 1 (some .int), Cond.constant RJ6 265 (1431655765), Cond.constant RJ6 266 (858993459), Cond.constant RJ6 267 (252645135), Cond.methodLink RX3 216 yX3_inDeck, Cond.instanceMethod yX3_inDeck, Cond.selects RX3 yX3_inDeck yX3_inDeck, Cond.code yX3_inDeck cX3_inDeck 3 (some .boolean), Cond.methodLink RX3 219 yX3_isPlayable, Cond.instanceMethod yX3_isPlayable, Cond.selects RX3 yX3_isPlayable yX3_isPlayable, Cond.code yX3_isPlayable cX3_isPlayable 4 (some .boolean), Cond.fieldLink RX3 92 "Trumpvault$Cards" "states" "[I", Cond.fieldLink RX3 98 "Trumpvault$Cards" "kinds" "[I", Cond.methodLink RX3 89 yX1_holderOf, Cond.instanceMethod yX1_holderOf, Cond.selects RX1 yX1_holderOf yX1_holderOf, Cond.initialized RX1, Cond.code yX1_holderOf cX1_holderOf 2 (some .int), Cond.fieldLink RX1 18 "Trumpvault$Cards" "states" "[I"]
def wsL_play_r3 : List Cond := [Cond.fieldLink RX1 30 "Trumpvault$Cards" "borrowers" "[I", Cond.fieldLink RX1 15 "Trumpvault$Cards" "owners" "[I", Cond.methodLink RX3 101 yX3_bannedToday, Cond.instanceMethod yX3_bannedToday, Cond.selects RX3 yX3_bannedToday yX3_bannedToday, Cond.code yX3_bannedToday cX3_bannedToday 2 (some .boolean), Cond.fieldLink RX3 40 "Trumpvault" "bannedFrom" "[I", Cond.fieldLink RX3 50 "Trumpvault" "today" "I", Cond.methodLink RX3 190 yX3_deckStrength, Cond.instanceMethod yX3_deckStrength, Cond.selects RX3 yX3_deckStrength yX3_deckStrength, Cond.code yX3_deckStrength cX3_deckStrength 4 (some .int)]
def wsL_play : List Cond := .codeWith yL_play cL_play 5 (some .int) [(0, 10, 13, 13), (0, 10, 17, 36), (0, 10, 21, 15)] :: ((wsL_play_r1 ++ (wsL_play_r2 ++ wsL_play_r3)) ++ wsX30 ++ wsX10 ++ (vx_atS RX3 154 "java/lang/IllegalArgumentException" ["java/lang/RuntimeException", "java/lang/Exception"]).filter goodWord ++ (vx_atS RX3 68 "java/lang/IllegalStateException" ["java/lang/RuntimeException", "java/lang/Exception"]).filter goodWord ++ (vx_atS RX3 201 "java/lang/IndexOutOfBoundsException" ["java/lang/RuntimeException", "java/lang/Exception"]).filter goodWord)
def wsL_law0_r1 : List Cond := [Cond.classLink RL 8 RX3, Cond.instantiable RX3 8, Cond.initialized RX3, Cond.classLink RL 94 RX4, Cond.instantiable RX4 17, Cond.initialized RX4, Cond.arrayClass .long, Cond.methodLink RL 93 yX3_init, Cond.instanceMethod yX3_init, Cond.code yX3_init cX3_init 1 none, Cond.methodLink RX3 1 objectInit, Cond.instanceMethod objectInit, Cond.code objectInit ⟨#[0xb1]⟩ 1 none, Cond.classLink RX3 7 RX1, Cond.instantiable RX1 9, Cond.initialized RX1, Cond.fieldLink RX3 10 "Trumpvault" "cards" "LTrumpvault$Cards;", Cond.classLink RX3 16 RX0, Cond.instantiable RX0 2, Cond.initialized RX0, Cond.fieldLink RX3 19 "Trumpvault" "bids" "LTrumpvault$Bids;", Cond.classLink RX3 23 RX2, Cond.instantiable RX2 3, Cond.initialized RX2]
def wsL_law0_r2 : List Cond := [Cond.fieldLink RX3 26 "Trumpvault" "history" "LTrumpvault$History;", Cond.arrayClass .int, Cond.fieldLink RX3 30 "Trumpvault" "purses" "[I", Cond.fieldLink RX3 40 "Trumpvault" "bannedFrom" "[I", Cond.fieldLink RX3 43 "Trumpvault" "decks" "[I", Cond.fieldLink RX3 46 "Trumpvault" "nextNumber" "I", Cond.fieldLink RX3 50 "Trumpvault" "today" "I", Cond.instanceMethod yX1_init, Cond.code yX1_init cX1_init 1 none, Cond.methodLink RX1 3 objectInit, Cond.fieldLink RX1 9 "Trumpvault$Cards" "kinds" "[I", Cond.fieldLink RX1 15 "Trumpvault$Cards" "owners" "[I", Cond.fieldLink RX1 18 "Trumpvault$Cards" "states" "[I", Cond.fieldLink RX1 21 "Trumpvault$Cards" "salePrices" "[I", Cond.fieldLink RX1 24 "Trumpvault$Cards" "saleNumbers" "[I", Cond.fieldLink RX1 27 "Trumpvault$Cards" "swapOthers" "[I", Cond.fieldLink RX1 30 "Trumpvault$Cards" "borrowers" "[I", Cond.fieldLink RX1 33 "Trumpvault$Cards" "returnDays" "[I", Cond.fieldLink RX1 36 "Trumpvault$Cards" "count" "I", Cond.instanceMethod yX0_init, Cond.code yX0_init cX0_init 1 none, Cond.methodLink RX0 3 objectInit, Cond.classLink RX0 9 "[[I", Cond.fieldLink RX0 11 "Trumpvault$Bids" "prices" "[[I"]
def wsL_law0_r3 : List Cond := [Cond.fieldLink RX0 16 "Trumpvault$Bids" "numbers" "[[I", Cond.instanceMethod yX2_init, Cond.code yX2_init cX2_init 1 none, Cond.methodLink RX2 3 objectInit, Cond.fieldLink RX2 9 "Trumpvault$History" "movedCards" "[I", Cond.fieldLink RX2 15 "Trumpvault$History" "newOwners" "[I", Cond.fieldLink RX2 18 "Trumpvault$History" "count" "I", Cond.methodLink RX3 34 yJ7_fill_53178, Cond.static yJ7_fill_53178, Cond.initialized RJ7, Cond.code yJ7_fill_53178 cJ7_fill_53178 4 none, Cond.methodLink RL 96 yX4_init, Cond.instanceMethod yX4_init, Cond.code yX4_init cX4_init 2 none, Cond.methodLink RX4 1 objectInit, Cond.fieldLink RX4 7 "TrumpvaultModel" "coins" "[I", Cond.fieldLink RX4 13 "TrumpvaultModel" "kindOf" "[I", Cond.fieldLink RX4 16 "TrumpvaultModel" "owner" "[I", Cond.fieldLink RX4 19 "TrumpvaultModel" "state" "[I", Cond.fieldLink RX4 22 "TrumpvaultModel" "price" "[I", Cond.fieldLink RX4 25 "TrumpvaultModel" "number" "[I", Cond.fieldLink RX4 28 "TrumpvaultModel" "swapFor" "[I", Cond.fieldLink RX4 31 "TrumpvaultModel" "holder" "[I", Cond.fieldLink RX4 34 "TrumpvaultModel" "back" "[I"]
def wsL_law0_r4 : List Cond := [Cond.fieldLink RX4 37 "TrumpvaultModel" "bidPrice" "[I", Cond.fieldLink RX4 40 "TrumpvaultModel" "bidNumber" "[I", Cond.fieldLink RX4 43 "TrumpvaultModel" "banDay" "[I", Cond.fieldLink RX4 46 "TrumpvaultModel" "deck" "[I", Cond.constant RX4 49 (1000000), Cond.methodLink RL 97 yL_mint, Cond.static yL_mint, Cond.initialized RL, Cond.codeWith yL_mint cL_mint 5 (some .int) [(0, 10, 13, 13), (0, 10, 17, 15)], Cond.classLink RL 13 "java/lang/IndexOutOfBoundsException", Cond.classLink RL 15 "java/lang/IllegalStateException", Cond.methodLink RL 7 yX3_mint, Cond.instanceMethod yX3_mint, Cond.selects RX3 yX3_mint yX3_mint, Cond.code yX3_mint cX3_mint 4 (some .int), Cond.classLink RX3 64 "java/lang/IllegalStateException", Cond.initialized "java/lang/IllegalStateException", Cond.methodLink RX3 53 yX3_needPlayer, Cond.static yX3_needPlayer, Cond.code yX3_needPlayer cX3_needPlayer 1 none, Cond.classLink RX3 197 "java/lang/IndexOutOfBoundsException", Cond.initialized "java/lang/IndexOutOfBoundsException", Cond.methodLink RX3 57 yX3_needKind, Cond.static yX3_needKind]
def wsL_law0_r5 : List Cond := [Cond.code yX3_needKind cX3_needKind 1 none, Cond.methodLink RX3 60 yX1_isFull, Cond.instanceMethod yX1_isFull, Cond.selects RX1 yX1_isFull yX1_isFull, Cond.code yX1_isFull cX1_isFull 1 (some .boolean), Cond.methodLink RX3 71 yX1_add, Cond.instanceMethod yX1_add, Cond.selects RX1 yX1_add yX1_add, Cond.code yX1_add cX1_add 4 (some .int), Cond.methodLink RX3 75 yX2_record, Cond.instanceMethod yX2_record, Cond.selects RX2 yX2_record yX2_record, Cond.code yX2_record cX2_record 3 none, Cond.methodLink RL 102 yX4_mint, Cond.instanceMethod yX4_mint, Cond.selects RX4 yX4_mint yX4_mint, Cond.code yX4_mint cX4_mint 3 (some .int), Cond.fieldLink RX4 58 "TrumpvaultModel" "cards" "I", Cond.methodLink RX4 64 yX4_isPlayer, Cond.static yX4_isPlayer, Cond.code yX4_isPlayer cX4_isPlayer 1 (some .boolean), Cond.methodLink RX4 54 yX4_in, Cond.static yX4_in, Cond.code yX4_in cX4_in 3 (some .boolean)]
def wsL_law0_r6 : List Cond := [Cond.methodLink RX4 68 yX4_isKind, Cond.static yX4_isKind, Cond.code yX4_isKind cX4_isKind 1 (some .boolean), Cond.methodLink RX4 71 yX4_asked_, Cond.instanceMethod yX4_asked_, Cond.selects RX4 yX4_asked_ yX4_asked_, Cond.code yX4_asked_ cX4_asked_ 3 (some .boolean), Cond.fieldLink RX4 50 "TrumpvaultModel" "thrown" "I", Cond.methodLink RL 103 yX4_thrown, Cond.instanceMethod yX4_thrown, Cond.selects RX4 yX4_thrown yX4_thrown, Cond.code yX4_thrown cX4_thrown 1 (some .int), Cond.methodLink RL 107 yL_owner, Cond.static yL_owner, Cond.codeWith yL_owner cL_owner 4 (some .int) [(0, 9, 12, 13)], Cond.methodLink RL 17 yX3_owner, Cond.instanceMethod yX3_owner, Cond.selects RX3 yX3_owner yX3_owner, Cond.code yX3_owner cX3_owner 2 (some .int), Cond.fieldLink RX3 82 "Trumpvault$Cards" "owners" "[I", Cond.methodLink RX3 79 yX3_needCard, Cond.instanceMethod yX3_needCard, Cond.selects RX3 yX3_needCard yX3_needCard, Cond.code yX3_needCard cX3_needCard 2 none]
def wsL_law0_r7 : List Cond := [Cond.methodLink RX3 204 yX1_has, Cond.instanceMethod yX1_has, Cond.selects RX1 yX1_has yX1_has, Cond.code yX1_has cX1_has 2 (some .boolean), Cond.methodLink RL 110 yX4_owner, Cond.instanceMethod yX4_owner, Cond.selects RX4 yX4_owner yX4_owner, Cond.code yX4_owner cX4_owner 2 (some .int), Cond.methodLink RX4 75 yX4_isCard, Cond.instanceMethod yX4_isCard, Cond.selects RX4 yX4_isCard yX4_isCard, Cond.code yX4_isCard cX4_isCard 2 (some .boolean), Cond.methodLink RX4 78 yX4_asked, Cond.instanceMethod yX4_asked, Cond.selects RX4 yX4_asked yX4_asked, Cond.code yX4_asked cX4_asked 2 (some .boolean), Cond.methodLink RL 111 yL_ownerByHistory, Cond.static yL_ownerByHistory, Cond.codeWith yL_ownerByHistory cL_ownerByHistory 4 (some .int) [(0, 9, 12, 13)], Cond.methodLink RL 21 yX3_ownerByHistory, Cond.instanceMethod yX3_ownerByHistory, Cond.selects RX3 yX3_ownerByHistory yX3_ownerByHistory, Cond.code yX3_ownerByHistory cX3_ownerByHistory 2 (some .int), Cond.methodLink RX3 85 yX2_lastOwner]
def wsL_law0_r8 : List Cond := [Cond.instanceMethod yX2_lastOwner, Cond.selects RX2 yX2_lastOwner yX2_lastOwner, Cond.code yX2_lastOwner cX2_lastOwner 4 (some .int), Cond.methodLink RL 113 yX4_ownerByHistory, Cond.instanceMethod yX4_ownerByHistory, Cond.selects RX4 yX4_ownerByHistory yX4_ownerByHistory, Cond.code yX4_ownerByHistory cX4_ownerByHistory 2 (some .int), Cond.methodLink RX4 81 yX4_owner, Cond.methodLink RL 114 yL_holder, Cond.static yL_holder, Cond.codeWith yL_holder cL_holder 4 (some .int) [(0, 9, 12, 13)], Cond.methodLink RL 24 yX3_holder, Cond.instanceMethod yX3_holder, Cond.selects RX3 yX3_holder yX3_holder, Cond.code yX3_holder cX3_holder 2 (some .int), Cond.methodLink RX3 89 yX1_holderOf, Cond.instanceMethod yX1_holderOf, Cond.selects RX1 yX1_holderOf yX1_holderOf, Cond.code yX1_holderOf cX1_holderOf 2 (some .int), Cond.methodLink RL 116 yX4_holder, Cond.instanceMethod yX4_holder, Cond.selects RX4 yX4_holder yX4_holder, Cond.code yX4_holder cX4_holder 2 (some .int), Cond.methodLink RX4 84 yX4_holds]
def wsL_law0_r9 : List Cond := [Cond.instanceMethod yX4_holds, Cond.selects RX4 yX4_holds yX4_holds, Cond.code yX4_holds cX4_holds 2 (some .int), Cond.methodLink RL 117 yL_stateOf, Cond.static yL_stateOf, Cond.codeWith yL_stateOf cL_stateOf 4 (some .int) [(0, 9, 12, 13)], Cond.methodLink RL 27 yX3_stateOf, Cond.instanceMethod yX3_stateOf, Cond.selects RX3 yX3_stateOf yX3_stateOf, Cond.code yX3_stateOf cX3_stateOf 2 (some .int), Cond.fieldLink RX3 92 "Trumpvault$Cards" "states" "[I", Cond.methodLink RL 119 yX4_stateOf, Cond.instanceMethod yX4_stateOf, Cond.selects RX4 yX4_stateOf yX4_stateOf, Cond.code yX4_stateOf cX4_stateOf 2 (some .int), Cond.methodLink RL 120 yL_coins, Cond.static yL_coins, Cond.codeWith yL_coins cL_coins 4 (some .int) [(0, 9, 12, 13)], Cond.methodLink RL 30 yX3_coins, Cond.instanceMethod yX3_coins, Cond.selects RX3 yX3_coins yX3_coins, Cond.code yX3_coins cX3_coins 2 (some .int), Cond.methodLink RL 122 yX4_coins, Cond.instanceMethod yX4_coins]
def wsL_law0_r10 : List Cond := [Cond.selects RX4 yX4_coins yX4_coins, Cond.code yX4_coins cX4_coins 2 (some .int), Cond.methodLink RL 123 yL_sell, Cond.static yL_sell, Cond.codeWith yL_sell cL_sell 5 (some .int) [(0, 10, 13, 13), (0, 10, 17, 36), (0, 10, 21, 15)], Cond.classLink RL 36 "java/lang/IllegalArgumentException", Cond.methodLink RL 33 yX3_sell, Cond.instanceMethod yX3_sell, Cond.selects RX3 yX3_sell yX3_sell, Cond.code yX3_sell cX3_sell 6 (some .int), Cond.fieldLink RX3 98 "Trumpvault$Cards" "kinds" "[I", Cond.fieldLink RX3 110 "Trumpvault$Bids" "prices" "[[I", Cond.methodLink RX3 95 yX3_needPrice, Cond.static yX3_needPrice, Cond.code yX3_needPrice cX3_needPrice 1 none, Cond.classLink RX3 150 "java/lang/IllegalArgumentException", Cond.initialized "java/lang/IllegalArgumentException", Cond.methodLink RX3 101 yX3_bannedToday, Cond.instanceMethod yX3_bannedToday, Cond.selects RX3 yX3_bannedToday yX3_bannedToday, Cond.code yX3_bannedToday cX3_bannedToday 2 (some .boolean), Cond.methodLink RX3 107 yX0_bestBidder, Cond.instanceMethod yX0_bestBidder, Cond.selects RX0 yX0_bestBidder yX0_bestBidder]
def wsL_law0_r11 : List Cond := [Cond.code yX0_bestBidder cX0_bestBidder 5 (some .int), Cond.methodLink RX0 19 yX0_has, Cond.instanceMethod yX0_has, Cond.selects RX0 yX0_has yX0_has, Cond.code yX0_has cX0_has 3 (some .boolean), Cond.methodLink RX0 23 yX0_isBefore, Cond.instanceMethod yX0_isBefore, Cond.selects RX0 yX0_isBefore yX0_isBefore, Cond.code yX0_isBefore cX0_isBefore 6 (some .boolean), Cond.methodLink RX3 114 yX1_putSale, Cond.instanceMethod yX1_putSale, Cond.selects RX1 yX1_putSale yX1_putSale, Cond.code yX1_putSale cX1_putSale 4 none, Cond.methodLink RX3 118 yX0_take, Cond.instanceMethod yX0_take, Cond.selects RX0 yX0_take yX0_take, Cond.code yX0_take cX0_take 4 (some .int), Cond.methodLink RX3 121 yX3_giveTo, Cond.instanceMethod yX3_giveTo, Cond.selects RX3 yX3_giveTo yX3_giveTo, Cond.code yX3_giveTo cX3_giveTo 3 none, Cond.methodLink RL 125 yX4_sell, Cond.instanceMethod yX4_sell, Cond.selects RX4 yX4_sell yX4_sell]
def wsL_law0_r12 : List Cond := [Cond.code yX4_sell cX4_sell 7 (some .int), Cond.fieldLink RX4 93 "TrumpvaultModel" "made" "I", Cond.methodLink RX4 87 yX4_banned, Cond.instanceMethod yX4_banned, Cond.selects RX4 yX4_banned yX4_banned, Cond.code yX4_banned cX4_banned 2 (some .boolean), Cond.fieldLink RX4 61 "TrumpvaultModel" "today" "I", Cond.methodLink RX4 90 yX4_asked__, Cond.instanceMethod yX4_asked__, Cond.selects RX4 yX4_asked__ yX4_asked__, Cond.code yX4_asked__ cX4_asked__ 4 (some .boolean), Cond.methodLink RX4 96 yX4_bidder, Cond.instanceMethod yX4_bidder, Cond.selects RX4 yX4_bidder yX4_bidder, Cond.code yX4_bidder cX4_bidder 7 (some .int), Cond.methodLink RL 126 yL_bid, Cond.static yL_bid, Cond.codeWith yL_bid cL_bid 6 (some .int) [(0, 12, 15, 13), (0, 12, 19, 36), (0, 12, 23, 15)], Cond.methodLink RL 38 yX3_bid, Cond.instanceMethod yX3_bid, Cond.selects RX3 yX3_bid yX3_bid, Cond.code yX3_bid cX3_bid 6 (some .int), Cond.fieldLink RX3 133 "Trumpvault$Cards" "salePrices" "[I", Cond.methodLink RX3 124 yX0_has]
def wsL_law0_r13 : List Cond := [Cond.methodLink RX3 130 yX1_bestSale, Cond.instanceMethod yX1_bestSale, Cond.selects RX1 yX1_bestSale yX1_bestSale, Cond.code yX1_bestSale cX1_bestSale 5 (some .int), Cond.methodLink RX1 40 yX1_isOnSale, Cond.instanceMethod yX1_isOnSale, Cond.selects RX1 yX1_isOnSale yX1_isOnSale, Cond.code yX1_isOnSale cX1_isOnSale 3 (some .boolean), Cond.methodLink RX1 48 yX1_saleIsBefore, Cond.instanceMethod yX1_saleIsBefore, Cond.selects RX1 yX1_saleIsBefore yX1_saleIsBefore, Cond.code yX1_saleIsBefore cX1_saleIsBefore 3 (some .boolean), Cond.methodLink RX3 136 yX0_put, Cond.instanceMethod yX0_put, Cond.selects RX0 yX0_put yX0_put, Cond.code yX0_put cX0_put 5 none, Cond.methodLink RX3 140 yX1_takeSale, Cond.instanceMethod yX1_takeSale, Cond.selects RX1 yX1_takeSale yX1_takeSale, Cond.code yX1_takeSale cX1_takeSale 2 (some .int), Cond.methodLink RL 129 yX4_bid, Cond.instanceMethod yX4_bid, Cond.selects RX4 yX4_bid yX4_bid, Cond.code yX4_bid cX4_bid 6 (some .int)]
def wsL_law0_r14 : List Cond := [Cond.methodLink RX4 100 yX4_offer, Cond.instanceMethod yX4_offer, Cond.selects RX4 yX4_offer yX4_offer, Cond.code yX4_offer cX4_offer 6 (some .int), Cond.methodLink RL 130 yL_cancelSale, Cond.static yL_cancelSale, Cond.codeWith yL_cancelSale cL_cancelSale 4 (some .int) [(0, 9, 12, 13), (0, 9, 15, 15)], Cond.methodLink RL 42 yX3_cancelSale, Cond.instanceMethod yX3_cancelSale, Cond.selects RX3 yX3_cancelSale yX3_cancelSale, Cond.code yX3_cancelSale cX3_cancelSale 2 (some .int), Cond.methodLink RL 132 yX4_cancelSale, Cond.instanceMethod yX4_cancelSale, Cond.selects RX4 yX4_cancelSale yX4_cancelSale, Cond.code yX4_cancelSale cX4_cancelSale 3 (some .int), Cond.methodLink RL 133 yL_cancelBid, Cond.static yL_cancelBid, Cond.codeWith yL_cancelBid cL_cancelBid 5 (some .int) [(0, 10, 13, 13), (0, 10, 17, 15)], Cond.methodLink RL 45 yX3_cancelBid, Cond.instanceMethod yX3_cancelBid, Cond.selects RX3 yX3_cancelBid yX3_cancelBid, Cond.code yX3_cancelBid cX3_cancelBid 3 (some .int), Cond.methodLink RX3 147 yX3_giveBidBack, Cond.instanceMethod yX3_giveBidBack]
def wsL_law0_r15 : List Cond := [Cond.selects RX3 yX3_giveBidBack yX3_giveBidBack, Cond.code yX3_giveBidBack cX3_giveBidBack 4 (some .int), Cond.methodLink RL 135 yX4_cancelBid, Cond.instanceMethod yX4_cancelBid, Cond.selects RX4 yX4_cancelBid yX4_cancelBid, Cond.code yX4_cancelBid cX4_cancelBid 5 (some .int), Cond.methodLink RL 136 yL_leastSale, Cond.static yL_leastSale, Cond.codeWith yL_leastSale cL_leastSale 4 (some .int) [(0, 9, 12, 13)], Cond.methodLink RL 48 yX3_leastSale, Cond.instanceMethod yX3_leastSale, Cond.selects RX3 yX3_leastSale yX3_leastSale, Cond.code yX3_leastSale cX3_leastSale 3 (some .int), Cond.methodLink RL 138 yX4_leastSale, Cond.instanceMethod yX4_leastSale, Cond.selects RX4 yX4_leastSale yX4_leastSale, Cond.code yX4_leastSale cX4_leastSale 3 (some .int), Cond.methodLink RL 139 yL_greatestBid, Cond.static yL_greatestBid, Cond.codeWith yL_greatestBid cL_greatestBid 4 (some .int) [(0, 9, 12, 13)], Cond.methodLink RL 51 yX3_greatestBid, Cond.instanceMethod yX3_greatestBid, Cond.selects RX3 yX3_greatestBid yX3_greatestBid, Cond.code yX3_greatestBid cX3_greatestBid 3 (some .int)]
def wsL_law0_r16 : List Cond := [Cond.methodLink RL 141 yX4_greatestBid, Cond.instanceMethod yX4_greatestBid, Cond.selects RX4 yX4_greatestBid yX4_greatestBid, Cond.code yX4_greatestBid cX4_greatestBid 3 (some .int), Cond.methodLink RL 142 yL_swap, Cond.static yL_swap, Cond.codeWith yL_swap cL_swap 4 (some .int) [(0, 6, 9, 13), (0, 6, 12, 36), (0, 6, 15, 15)], Cond.methodLink RL 54 yX3_swap, Cond.instanceMethod yX3_swap, Cond.selects RX3 yX3_swap yX3_swap, Cond.code yX3_swap cX3_swap 3 none, Cond.fieldLink RX3 157 "Trumpvault$Cards" "swapOthers" "[I", Cond.methodLink RL 145 yX4_swap, Cond.instanceMethod yX4_swap, Cond.selects RX4 yX4_swap yX4_swap, Cond.code yX4_swap cX4_swap 4 none, Cond.methodLink RL 146 yL_agree, Cond.static yL_agree, Cond.codeWith yL_agree cL_agree 4 (some .int) [(0, 9, 12, 13), (0, 9, 15, 15)], Cond.methodLink RL 58 yX3_agree, Cond.instanceMethod yX3_agree, Cond.selects RX3 yX3_agree yX3_agree, Cond.code yX3_agree cX3_agree 4 (some .int), Cond.methodLink RX3 160 yX1_canBeSwapped]
def wsL_law0_r17 : List Cond := [Cond.instanceMethod yX1_canBeSwapped, Cond.selects RX1 yX1_canBeSwapped yX1_canBeSwapped, Cond.code yX1_canBeSwapped cX1_canBeSwapped 3 (some .boolean), Cond.methodLink RX1 51 yX1_has, Cond.methodLink RL 148 yX4_agree, Cond.instanceMethod yX4_agree, Cond.selects RX4 yX4_agree yX4_agree, Cond.code yX4_agree cX4_agree 6 (some .int), Cond.methodLink RL 149 yL_cancelSwap, Cond.static yL_cancelSwap, Cond.codeWith yL_cancelSwap cL_cancelSwap 3 (some .int) [(0, 5, 8, 13), (0, 5, 11, 15)], Cond.methodLink RL 61 yX3_cancelSwap, Cond.instanceMethod yX3_cancelSwap, Cond.selects RX3 yX3_cancelSwap yX3_cancelSwap, Cond.code yX3_cancelSwap cX3_cancelSwap 2 none, Cond.methodLink RL 152 yX4_cancelSwap, Cond.instanceMethod yX4_cancelSwap, Cond.selects RX4 yX4_cancelSwap yX4_cancelSwap, Cond.code yX4_cancelSwap cX4_cancelSwap 3 none, Cond.methodLink RL 153 yL_lend, Cond.static yL_lend, Cond.codeWith yL_lend cL_lend 6 (some .int) [(0, 12, 15, 13), (0, 12, 19, 36), (0, 12, 23, 15)], Cond.methodLink RL 65 yX3_lend, Cond.instanceMethod yX3_lend]
def wsL_law0_r18 : List Cond := [Cond.selects RX3 yX3_lend yX3_lend, Cond.code yX3_lend cX3_lend 5 (some .int), Cond.methodLink RX3 169 yX1_lendTo, Cond.instanceMethod yX1_lendTo, Cond.selects RX1 yX1_lendTo yX1_lendTo, Cond.code yX1_lendTo cX1_lendTo 4 none, Cond.methodLink RL 155 yX4_lend, Cond.instanceMethod yX4_lend, Cond.selects RX4 yX4_lend yX4_lend, Cond.code yX4_lend cX4_lend 5 (some .int), Cond.methodLink RL 156 yL_ban, Cond.static yL_ban, Cond.codeWith yL_ban cL_ban 5 (some .int) [(0, 10, 13, 13), (0, 10, 17, 36)], Cond.methodLink RL 68 yX3_ban, Cond.instanceMethod yX3_ban, Cond.selects RX3 yX3_ban yX3_ban, Cond.code yX3_ban cX3_ban 3 (some .int), Cond.methodLink RX3 174 yX3_clearMarket, Cond.instanceMethod yX3_clearMarket, Cond.selects RX3 yX3_clearMarket yX3_clearMarket, Cond.code yX3_clearMarket cX3_clearMarket 4 (some .int), Cond.methodLink RX3 210 yX1_takeSalesOf, Cond.instanceMethod yX1_takeSalesOf, Cond.selects RX1 yX1_takeSalesOf yX1_takeSalesOf]
def wsL_law0_r19 : List Cond := [Cond.code yX1_takeSalesOf cX1_takeSalesOf 4 (some .int), Cond.methodLink RX1 44 yX1_takeSale, Cond.methodLink RL 158 yX4_ban, Cond.instanceMethod yX4_ban, Cond.selects RX4 yX4_ban yX4_ban, Cond.code yX4_ban cX4_ban 3 (some .int), Cond.methodLink RX4 103 yX4_clears, Cond.instanceMethod yX4_clears, Cond.selects RX4 yX4_clears yX4_clears, Cond.code yX4_clears cX4_clears 5 (some .int), Cond.methodLink RL 159 yL_lift, Cond.static yL_lift, Cond.codeWith yL_lift cL_lift 4 (some .int) [(0, 16, 19, 13)], Cond.methodLink RL 71 yX3_lift, Cond.instanceMethod yX3_lift, Cond.selects RX3 yX3_lift yX3_lift, Cond.code yX3_lift cX3_lift 3 (some .boolean), Cond.methodLink RL 161 yX4_lift, Cond.instanceMethod yX4_lift, Cond.selects RX4 yX4_lift yX4_lift, Cond.code yX4_lift cX4_lift 3 (some .boolean), Cond.methodLink RL 162 yL_isBanned, Cond.static yL_isBanned, Cond.codeWith yL_isBanned cL_isBanned 4 (some .int) [(0, 16, 19, 13)]]
def wsL_law0_r20 : List Cond := [Cond.methodLink RL 75 yX3_isBanned, Cond.instanceMethod yX3_isBanned, Cond.selects RX3 yX3_isBanned yX3_isBanned, Cond.code yX3_isBanned cX3_isBanned 2 (some .boolean), Cond.methodLink RL 164 yX4_isBanned, Cond.instanceMethod yX4_isBanned, Cond.selects RX4 yX4_isBanned yX4_isBanned, Cond.code yX4_isBanned cX4_isBanned 2 (some .boolean), Cond.methodLink RL 165 yL_pass, Cond.static yL_pass, Cond.codeWith yL_pass cL_pass 4 (some .int) [(0, 9, 12, 36)], Cond.methodLink RL 78 yX3_pass, Cond.instanceMethod yX3_pass, Cond.selects RX3 yX3_pass yX3_pass, Cond.code yX3_pass cX3_pass 3 (some .int), Cond.methodLink RX3 179 yX1_endLoans, Cond.instanceMethod yX1_endLoans, Cond.selects RX1 yX1_endLoans yX1_endLoans, Cond.code yX1_endLoans cX1_endLoans 3 none, Cond.methodLink RL 167 yX4_pass, Cond.instanceMethod yX4_pass, Cond.selects RX4 yX4_pass yX4_pass, Cond.code yX4_pass cX4_pass 3 (some .int), Cond.methodLink RL 168 yL_toggleDeck]
def wsL_law0_r21 : List Cond := [Cond.static yL_toggleDeck, Cond.codeWith yL_toggleDeck cL_toggleDeck 5 (some .int) [(0, 10, 13, 13)], Cond.methodLink RL 81 yX3_toggleDeck, Cond.instanceMethod yX3_toggleDeck, Cond.selects RX3 yX3_toggleDeck yX3_toggleDeck, Cond.code yX3_toggleDeck cX3_toggleDeck 3 (some .int), Cond.methodLink RX3 182 yJ6_bitCount_0f7a4, Cond.static yJ6_bitCount_0f7a4, Cond.initialized RJ6, Cond.code yJ6_bitCount_0f7a4 cJ6_bitCount_0f7a4 1 (some .int), Cond.constant RJ6 265 (1431655765), Cond.constant RJ6 266 (858993459), Cond.constant RJ6 267 (252645135), Cond.methodLink RL 170 yX4_toggleDeck, Cond.instanceMethod yX4_toggleDeck, Cond.selects RX4 yX4_toggleDeck yX4_toggleDeck, Cond.code yX4_toggleDeck cX4_toggleDeck 3 (some .int), Cond.methodLink RX4 106 yX4_size, Cond.instanceMethod yX4_size, Cond.selects RX4 yX4_size yX4_size, Cond.code yX4_size cX4_size 4 (some .int), Cond.methodLink RL 171 yL_isRight, Cond.static yL_isRight, Cond.codeWith yL_isRight cL_isRight 4 (some .int) [(0, 16, 19, 13)]]
def wsL_law0_r22 : List Cond := [Cond.methodLink RL 84 yX3_isRight, Cond.instanceMethod yX3_isRight, Cond.selects RX3 yX3_isRight yX3_isRight, Cond.code yX3_isRight cX3_isRight 2 (some .boolean), Cond.methodLink RX3 187 yX3_deckIsRight, Cond.instanceMethod yX3_deckIsRight, Cond.selects RX3 yX3_deckIsRight yX3_deckIsRight, Cond.code yX3_deckIsRight cX3_deckIsRight 4 (some .boolean), Cond.fieldLink RX3 213 "Trumpvault$Cards" "count" "I", Cond.methodLink RX3 216 yX3_inDeck, Cond.instanceMethod yX3_inDeck, Cond.selects RX3 yX3_inDeck yX3_inDeck, Cond.code yX3_inDeck cX3_inDeck 3 (some .boolean), Cond.methodLink RX3 219 yX3_isPlayable, Cond.instanceMethod yX3_isPlayable, Cond.selects RX3 yX3_isPlayable yX3_isPlayable, Cond.code yX3_isPlayable cX3_isPlayable 4 (some .boolean), Cond.methodLink RL 173 yX4_isRight, Cond.instanceMethod yX4_isRight, Cond.selects RX4 yX4_isRight yX4_isRight, Cond.code yX4_isRight cX4_isRight 2 (some .boolean), Cond.methodLink RX4 109 yX4_right, Cond.instanceMethod yX4_right, Cond.selects RX4 yX4_right yX4_right]
def wsL_law0_r23 : List Cond := [Cond.code yX4_right cX4_right 5 (some .boolean), Cond.methodLink RL 174 yL_strength, Cond.static yL_strength, Cond.codeWith yL_strength cL_strength 4 (some .int) [(0, 9, 12, 13)], Cond.methodLink RL 87 yX3_strength, Cond.instanceMethod yX3_strength, Cond.selects RX3 yX3_strength yX3_strength, Cond.code yX3_strength cX3_strength 2 (some .int), Cond.methodLink RX3 190 yX3_deckStrength, Cond.instanceMethod yX3_deckStrength, Cond.selects RX3 yX3_deckStrength yX3_deckStrength, Cond.code yX3_deckStrength cX3_deckStrength 4 (some .int), Cond.methodLink RL 176 yX4_strength, Cond.instanceMethod yX4_strength, Cond.selects RX4 yX4_strength yX4_strength, Cond.code yX4_strength cX4_strength 2 (some .int), Cond.methodLink RX4 112 yX4_strengthOf, Cond.instanceMethod yX4_strengthOf, Cond.selects RX4 yX4_strengthOf yX4_strengthOf, Cond.code yX4_strengthOf cX4_strengthOf 4 (some .int), Cond.methodLink RL 177 yL_play, Cond.static yL_play, Cond.codeWith yL_play cL_play 5 (some .int) [(0, 10, 13, 13), (0, 10, 17, 36), (0, 10, 21, 15)], Cond.methodLink RL 90 yX3_play]
def wsL_law0_r24 : List Cond := [Cond.instanceMethod yX3_play, Cond.selects RX3 yX3_play yX3_play, Cond.code yX3_play cX3_play 4 (some .int), Cond.methodLink RL 179 yX4_play, Cond.instanceMethod yX4_play, Cond.selects RX4 yX4_play yX4_play, Cond.code yX4_play cX4_play 5 (some .int)]
def wsL_law0 : List Cond := (wsL_law0_r1 ++ (wsL_law0_r2 ++ (wsL_law0_r3 ++ (wsL_law0_r4 ++ (wsL_law0_r5 ++ (wsL_law0_r6 ++ (wsL_law0_r7 ++ (wsL_law0_r8 ++ (wsL_law0_r9 ++ (wsL_law0_r10 ++ (wsL_law0_r11 ++ (wsL_law0_r12 ++ (wsL_law0_r13 ++ (wsL_law0_r14 ++ (wsL_law0_r15 ++ (wsL_law0_r16 ++ (wsL_law0_r17 ++ (wsL_law0_r18 ++ (wsL_law0_r19 ++ (wsL_law0_r20 ++ (wsL_law0_r21 ++ (wsL_law0_r22 ++ (wsL_law0_r23 ++ wsL_law0_r24))))))))))))))))))))))) ++ wsX30 ++ wsX40 ++ wsX10 ++ wsX00 ++ wsX20 ++ ([] : List Cond)
def wsL_law : List Cond := wsL_law0 ++ (vx_atS RX3 68 "java/lang/IllegalStateException" ["java/lang/RuntimeException", "java/lang/Exception"]).filter goodWord ++ (vx_atS RX3 201 "java/lang/IndexOutOfBoundsException" ["java/lang/RuntimeException", "java/lang/Exception"]).filter goodWord ++ (vx_atS RX3 154 "java/lang/IllegalArgumentException" ["java/lang/RuntimeException", "java/lang/Exception"]).filter goodWord
abbrev vwCl : List vw_C := [(RX0, TX0, 2), (RX1, TX1, 9), (RX2, TX2, 3), (RX3, TX3, 8), (RX4, TX4, 17)]
end
section
section VV
/-- a value of the list of locals -/
def lvg : List (Nat × Value) → Nat → Option Value
  | [], _ => none
  | (j, v) :: r, i => if j = i then some v else lvg r i
theorem lvg_mem : ∀ {lv : List (Nat × Value)} {i : Nat} {v : Value}, lvg lv i = some v → (i, v) ∈ lv
  | [], _, _, h => by cases h
  | (j, u) :: r, i, v, h => by
    unfold lvg at h
    by_cases e : j = i
    · rw [if_pos e] at h
      cases h
      rw [e]
      exact List.mem_cons_self
    · rw [if_neg e] at h
      exact List.mem_cons_of_mem _ (lvg_mem h)
theorem lvg_at {ls : Array Slot} {nL : Nat} {lv : List (Nat × Value)} {i : Nat} {v : Value} (h : lv_has ls nL lv) (hg : lvg lv i = some v) : ls[i]? = some (.val v) := h.2.2 (i, v) (lvg_mem hg)
theorem lvg_ix {lv : List (Nat × Value)} {i : Nat} {v : Value} (hg : lvg lv i = some v) : ∃ k : Nat, lv[k]? = some (i, v) := List.getElem?_of_mem (lvg_mem hg)
abbrev lvs (lv : List (Nat × Value)) (i : Nat) (v : Value) : List (Nat × Value) := (i, v) :: lv.filter (fun q => !(q.1 == i) && !(q.1 + 1 == i && q.2.category == 2))
/-- what a walk stands on -/
def v_C (p : Program) (s : State) (m : MethodId) (args : Array Value) (c : Code) (cc : ByteArray) (own : String) (Ts : List Cond) (nL : Nat) (D : va_G) (cl : List vw_C) (tys : List (ClassId × FieldType)) (A : Nat → Prop) : Prop :=
  p.tables.exec = Jvm.exec ∧ c.code = cc ∧ s.vm.findClass own = some m.cls ∧ (∀ w ∈ Ts, w.before args s = true) ∧ c.maxLocals = nL ∧ va_K D cl tys s ∧ (∀ q : Nat, s.heap.size ≤ q → A q)
/-- the machine at pc, over any heap that holds the world w -/
def v_V (p : Program) (l : Launch) (e : Env) (R : Room) (s : State) (m : MethodId) (args : Array Value) (below : List Frame) (meth : Method) (c : Code) (D : va_G) (cl : List vw_C) (A : Nat → Prop) (nL : Nat) (Q : State → Prop) (cells slots : Nat) (w : va_W) (pc : Nat) (lv : List (Nat × Value)) (st : List Value) : Prop :=
  ∀ (H : Heap) (locs : List Loc) (ls : Array Slot), va_P D cl w H → va_D A w → va_S A s.heap H locs → lv_has ls nL lv → W p l e R s m args below meth c H locs cells slots Q (F0 m pc ls st)
variable {p : Program} {l : Launch} {e : Env} {R : Room} {s : State} {m : MethodId} {args : Array Value} {below : List Frame} {meth : Method} {c : Code} {cc : ByteArray} {own : String} {Ts : List Cond} {nL : Nat} {D : va_G} {cl : List vw_C} {tys : List (ClassId × FieldType)} {A : Nat → Prop} {Q : State → Prop} {cells slots : Nat} {w w' : va_W} {pc tgt : Nat} {lv lv' : List (Nat × Value)} {st : List Value} {x y z : Int32} {off : Int}
theorem v_pc {pc' : Nat} (h : pc' = pc) (k : v_V p l e R s m args below meth c D cl A nL Q cells slots w pc lv st) : v_V p l e R s m args below meth c D cl A nL Q cells slots w pc' lv st := h ▸ k
theorem v_wd {cells' slots' : Nat} (h1 : cells ≤ cells') (h2 : slots ≤ slots') (k : v_V p l e R s m args below meth c D cl A nL Q cells' slots' w pc lv st) : v_V p l e R s m args below meth c D cl A nL Q cells slots w pc lv st :=
  fun H locs ls hP hD hS hl => W.widen h1 h2 (k H locs ls hP hD hS hl)
theorem v_w (hw : w = w') (k : v_V p l e R s m args below meth c D cl A nL Q cells slots w' pc lv st) : v_V p l e R s m args below meth c D cl A nL Q cells slots w pc lv st := hw ▸ k
theorem v_lv (ks : List Nat) (hl' : lv_pick lv ks = lv') (k : v_V p l e R s m args below meth c D cl A nL Q cells slots w pc lv' st) : v_V p l e R s m args below meth c D cl A nL Q cells slots w pc lv st :=
  fun H locs ls hP hD hS hl => k H locs ls hP hD hS (lv_sub hl ks hl')
theorem v_iload_n (X : v_C p s m args c cc own Ts nL D cl tys A) {i : Fin 4} (hdg : decode cc pc = .ok (.iload_n i, 1)) (hg : lvg lv i = some (.int x)) (k : v_V p l e R s m args below meth c D cl A nL Q cells slots w (pc + 1) lv (.int x :: st)) : v_V p l e R s m args below meth c D cl A nL Q cells slots w pc lv st :=
  fun H locs ls hP hD hS hl => lv_iload_n X.1 X.2.1 hdg rfl (lvg_at hl hg) (k H locs ls hP hD hS hl)
theorem v_iload (X : v_C p s m args c cc own Ts nL D cl tys A) {i : Nat} (hdg : decode cc pc = .ok (.iload i, 2)) (hg : lvg lv i = some (.int x)) (k : v_V p l e R s m args below meth c D cl A nL Q cells slots w (pc + 2) lv (.int x :: st)) : v_V p l e R s m args below meth c D cl A nL Q cells slots w pc lv st :=
  fun H locs ls hP hD hS hl => lv_iload X.1 X.2.1 hdg (lvg_at hl hg) (k H locs ls hP hD hS hl)
theorem v_aload_n (X : v_C p s m args c cc own Ts nL D cl tys A) {i : Fin 4} {a : Nat} (hdg : decode cc pc = .ok (.aload_n i, 1)) (hg : lvg lv i = some (.ref a)) (k : v_V p l e R s m args below meth c D cl A nL Q cells slots w (pc + 1) lv (.ref a :: st)) : v_V p l e R s m args below meth c D cl A nL Q cells slots w pc lv st :=
  fun H locs ls hP hD hS hl => lv_aload_n X.1 X.2.1 hdg rfl (lvg_at hl hg) (k H locs ls hP hD hS hl)
theorem v_aload (X : v_C p s m args c cc own Ts nL D cl tys A) {i a : Nat} (hdg : decode cc pc = .ok (.aload i, 2)) (hg : lvg lv i = some (.ref a)) (k : v_V p l e R s m args below meth c D cl A nL Q cells slots w (pc + 2) lv (.ref a :: st)) : v_V p l e R s m args below meth c D cl A nL Q cells slots w pc lv st :=
  fun H locs ls hP hD hS hl => lv_aload X.1 X.2.1 hdg (lvg_at hl hg) (k H locs ls hP hD hS hl)
theorem v_istore_n (X : v_C p s m args c cc own Ts nL D cl tys A) {i : Fin 4} (hdg : decode cc pc = .ok (.istore_n i, 1)) (hn : (i : Nat) < nL) (hl' : lvs lv i (.int x) = lv') (k : v_V p l e R s m args below meth c D cl A nL Q cells slots w (pc + 1) lv' st) : v_V p l e R s m args below meth c D cl A nL Q cells slots w pc lv (.int x :: st) :=
  fun H locs ls hP hD hS hl => lv_istore_n (lv' := lv') X.1 X.2.1 hdg rfl hl hn hl' (fun ls2 hl2 => k H locs ls2 hP hD hS hl2)
theorem v_istore (X : v_C p s m args c cc own Ts nL D cl tys A) {i : Nat} (hdg : decode cc pc = .ok (.istore i, 2)) (hn : i < nL) (hl' : lvs lv i (.int x) = lv') (k : v_V p l e R s m args below meth c D cl A nL Q cells slots w (pc + 2) lv' st) : v_V p l e R s m args below meth c D cl A nL Q cells slots w pc lv (.int x :: st) :=
  fun H locs ls hP hD hS hl => lv_istore (lv' := lv') X.1 X.2.1 hdg hl hn hl' (fun ls2 hl2 => k H locs ls2 hP hD hS hl2)
theorem v_astore_n (X : v_C p s m args c cc own Ts nL D cl tys A) {i : Fin 4} {a : Nat} (hdg : decode cc pc = .ok (.astore_n i, 1)) (hn : (i : Nat) < nL) (hl' : lvs lv i (.ref a) = lv') (k : v_V p l e R s m args below meth c D cl A nL Q cells slots w (pc + 1) lv' st) : v_V p l e R s m args below meth c D cl A nL Q cells slots w pc lv (.ref a :: st) :=
  fun H locs ls hP hD hS hl => lv_astore_n (lv' := lv') X.1 X.2.1 hdg rfl hl hn hl' (fun ls2 hl2 => k H locs ls2 hP hD hS hl2)
theorem v_astore (X : v_C p s m args c cc own Ts nL D cl tys A) {i : Nat} {a : Nat} (hdg : decode cc pc = .ok (.astore i, 2)) (hn : i < nL) (hl' : lvs lv i (.ref a) = lv') (k : v_V p l e R s m args below meth c D cl A nL Q cells slots w (pc + 2) lv' st) : v_V p l e R s m args below meth c D cl A nL Q cells slots w pc lv (.ref a :: st) :=
  fun H locs ls hP hD hS hl => lv_astore (lv' := lv') X.1 X.2.1 hdg hl hn hl' (fun ls2 hl2 => k H locs ls2 hP hD hS hl2)
theorem v_iinc (X : v_C p s m args c cc own Ts nL D cl tys A) {i : Nat} {n : Int} (hdg : decode cc pc = .ok (.iinc i n, 3)) (hg : lvg lv i = some (.int x)) (hv : x + Int32.ofInt n = y) (hn : i < nL) (hl' : lvs lv i (.int y) = lv') (k : v_V p l e R s m args below meth c D cl A nL Q cells slots w (pc + 3) lv' st) : v_V p l e R s m args below meth c D cl A nL Q cells slots w pc lv st := by
  intro H locs ls hP hD hS hl
  obtain ⟨j, hj⟩ := lvg_ix hg
  exact lv_iinc (v := y) (lv' := lv') X.1 X.2.1 hdg hl hj hv hn hl' (fun ls2 hl2 => k H locs ls2 hP hD hS hl2)
theorem v_iconst (X : v_C p s m args c cc own Ts nL D cl tys A) {n : Int} (hdg : decode cc pc = .ok (.iconst n, 1)) (hv : Int32.ofInt n = x) (k : v_V p l e R s m args below meth c D cl A nL Q cells slots w (pc + 1) lv (.int x :: st)) : v_V p l e R s m args below meth c D cl A nL Q cells slots w pc lv st :=
  fun H locs ls hP hD hS hl => lv_iconst X.1 X.2.1 hdg hv (k H locs ls hP hD hS hl)
theorem v_bipush (X : v_C p s m args c cc own Ts nL D cl tys A) {n : Int} (hdg : decode cc pc = .ok (.bipush n, 2)) (hv : (Int8.ofInt n).toInt32 = x) (k : v_V p l e R s m args below meth c D cl A nL Q cells slots w (pc + 2) lv (.int x :: st)) : v_V p l e R s m args below meth c D cl A nL Q cells slots w pc lv st :=
  fun H locs ls hP hD hS hl => lv_bipush X.1 X.2.1 hdg hv (k H locs ls hP hD hS hl)
theorem v_sipush (X : v_C p s m args c cc own Ts nL D cl tys A) {n : Int} (hdg : decode cc pc = .ok (.sipush n, 3)) (hv : (Int16.ofInt n).toInt32 = x) (k : v_V p l e R s m args below meth c D cl A nL Q cells slots w (pc + 3) lv (.int x :: st)) : v_V p l e R s m args below meth c D cl A nL Q cells slots w pc lv st :=
  fun H locs ls hP hD hS hl => lv_sipush X.1 X.2.1 hdg hv (k H locs ls hP hD hS hl)
theorem v_ldc (X : v_C p s m args c cc own Ts nL D cl tys A) {index : Nat} (hc : Jvm.Cond.constant own index x ∈ Ts) (hdg : decode cc pc = .ok (.ldc index, 2)) (k : v_V p l e R s m args below meth c D cl A nL Q cells slots w (pc + 2) lv (.int x :: st)) : v_V p l e R s m args below meth c D cl A nL Q cells slots w pc lv st :=
  fun H locs ls hP hD hS hl => lv_ldc X.1 X.2.1 X.2.2.1 (X.2.2.2.1 _ hc) hdg (k H locs ls hP hD hS hl)
theorem v_iadd (X : v_C p s m args c cc own Ts nL D cl tys A) (hdg : decode cc pc = .ok (.iadd, 1)) (k : v_V p l e R s m args below meth c D cl A nL Q cells slots w (pc + 1) lv (.int (x + y) :: st)) : v_V p l e R s m args below meth c D cl A nL Q cells slots w pc lv (.int y :: .int x :: st) :=
  fun H locs ls hP hD hS hl => lv_iadd X.1 X.2.1 hdg (k H locs ls hP hD hS hl)
theorem v_isub (X : v_C p s m args c cc own Ts nL D cl tys A) (hdg : decode cc pc = .ok (.isub, 1)) (k : v_V p l e R s m args below meth c D cl A nL Q cells slots w (pc + 1) lv (.int (x - y) :: st)) : v_V p l e R s m args below meth c D cl A nL Q cells slots w pc lv (.int y :: .int x :: st) :=
  fun H locs ls hP hD hS hl => lv_isub X.1 X.2.1 hdg (k H locs ls hP hD hS hl)
theorem v_imul (X : v_C p s m args c cc own Ts nL D cl tys A) (hdg : decode cc pc = .ok (.imul, 1)) (k : v_V p l e R s m args below meth c D cl A nL Q cells slots w (pc + 1) lv (.int (x * y) :: st)) : v_V p l e R s m args below meth c D cl A nL Q cells slots w pc lv (.int y :: .int x :: st) :=
  fun H locs ls hP hD hS hl => lv_imul X.1 X.2.1 hdg (k H locs ls hP hD hS hl)
theorem v_iand (X : v_C p s m args c cc own Ts nL D cl tys A) (hdg : decode cc pc = .ok (.iand, 1)) (k : v_V p l e R s m args below meth c D cl A nL Q cells slots w (pc + 1) lv (.int (x &&& y) :: st)) : v_V p l e R s m args below meth c D cl A nL Q cells slots w pc lv (.int y :: .int x :: st) :=
  fun H locs ls hP hD hS hl => lv_iand X.1 X.2.1 hdg (k H locs ls hP hD hS hl)
theorem v_ixor (X : v_C p s m args c cc own Ts nL D cl tys A) (hdg : decode cc pc = .ok (.ixor, 1)) (k : v_V p l e R s m args below meth c D cl A nL Q cells slots w (pc + 1) lv (.int (x ^^^ y) :: st)) : v_V p l e R s m args below meth c D cl A nL Q cells slots w pc lv (.int y :: .int x :: st) :=
  fun H locs ls hP hD hS hl => lv_ixor X.1 X.2.1 hdg (k H locs ls hP hD hS hl)
theorem v_ishl (X : v_C p s m args c cc own Ts nL D cl tys A) (hdg : decode cc pc = .ok (.ishl, 1)) (k : v_V p l e R s m args below meth c D cl A nL Q cells slots w (pc + 1) lv (.int (x <<< (y &&& 31)) :: st)) : v_V p l e R s m args below meth c D cl A nL Q cells slots w pc lv (.int y :: .int x :: st) :=
  fun H locs ls hP hD hS hl => lv_ishl X.1 X.2.1 hdg (k H locs ls hP hD hS hl)
theorem v_ishr (X : v_C p s m args c cc own Ts nL D cl tys A) (hdg : decode cc pc = .ok (.ishr, 1)) (k : v_V p l e R s m args below meth c D cl A nL Q cells slots w (pc + 1) lv (.int (x >>> (y &&& 31)) :: st)) : v_V p l e R s m args below meth c D cl A nL Q cells slots w pc lv (.int y :: .int x :: st) :=
  fun H locs ls hP hD hS hl => lv_ishr X.1 X.2.1 hdg (k H locs ls hP hD hS hl)
theorem v_dup (X : v_C p s m args c cc own Ts nL D cl tys A) {v : Value} (hdg : decode cc pc = .ok (.dup, 1)) (hv : v.category = 1) (k : v_V p l e R s m args below meth c D cl A nL Q cells slots w (pc + 1) lv (v :: v :: st)) : v_V p l e R s m args below meth c D cl A nL Q cells slots w pc lv (v :: st) :=
  fun H locs ls hP hD hS hl => lv_dup X.1 X.2.1 hdg hv (k H locs ls hP hD hS hl)
theorem v_dup2 (X : v_C p s m args c cc own Ts nL D cl tys A) {v u : Value} (hdg : decode cc pc = .ok (.dup2, 1)) (hv : v.category = 1) (hu : u.category = 1) (k : v_V p l e R s m args below meth c D cl A nL Q cells slots w (pc + 1) lv (v :: u :: v :: u :: st)) : v_V p l e R s m args below meth c D cl A nL Q cells slots w pc lv (v :: u :: st) :=
  fun H locs ls hP hD hS hl => lv_dup2_11 X.1 X.2.1 hdg hv hu (k H locs ls hP hD hS hl)
theorem v_pop (X : v_C p s m args c cc own Ts nL D cl tys A) {v : Value} (hdg : decode cc pc = .ok (.pop, 1)) (hv : v.category = 1) (k : v_V p l e R s m args below meth c D cl A nL Q cells slots w (pc + 1) lv st) : v_V p l e R s m args below meth c D cl A nL Q cells slots w pc lv (v :: st) :=
  fun H locs ls hP hD hS hl => lv_pop X.1 X.2.1 hdg hv (k H locs ls hP hD hS hl)
theorem v_goto (X : v_C p s m args c cc own Ts nL D cl tys A) (hdg : decode cc pc = .ok (.goto off, 3)) (ht : (pc : Int) + off = (tgt : Int)) (k : v_V p l e R s m args below meth c D cl A nL Q cells slots w tgt lv st) : v_V p l e R s m args below meth c D cl A nL Q cells slots w pc lv st :=
  fun H locs ls hP hD hS hl => lv_goto X.1 X.2.1 hdg ht (k H locs ls hP hD hS hl)
theorem v_if_eq (X : v_C p s m args c cc own Ts nL D cl tys A) (hdg : decode cc pc = .ok (.ifCond .eq off, 3)) (ht : (pc : Int) + off = (tgt : Int)) (kt : x = 0 → v_V p l e R s m args below meth c D cl A nL Q cells slots w tgt lv st) (kf : ¬ x = 0 → v_V p l e R s m args below meth c D cl A nL Q cells slots w (pc + 3) lv st) : v_V p l e R s m args below meth c D cl A nL Q cells slots w pc lv (.int x :: st) :=
  fun H locs ls hP hD hS hl => lv_if_eq X.1 X.2.1 hdg ht (fun h => kt h H locs ls hP hD hS hl) (fun h => kf h H locs ls hP hD hS hl)
theorem v_if_ne (X : v_C p s m args c cc own Ts nL D cl tys A) (hdg : decode cc pc = .ok (.ifCond .ne off, 3)) (ht : (pc : Int) + off = (tgt : Int)) (kt : ¬ x = 0 → v_V p l e R s m args below meth c D cl A nL Q cells slots w tgt lv st) (kf : x = 0 → v_V p l e R s m args below meth c D cl A nL Q cells slots w (pc + 3) lv st) : v_V p l e R s m args below meth c D cl A nL Q cells slots w pc lv (.int x :: st) :=
  fun H locs ls hP hD hS hl => lv_if_ne X.1 X.2.1 hdg ht (fun h => kt h H locs ls hP hD hS hl) (fun h => kf h H locs ls hP hD hS hl)
theorem v_if_lt (X : v_C p s m args c cc own Ts nL D cl tys A) (hdg : decode cc pc = .ok (.ifCond .lt off, 3)) (ht : (pc : Int) + off = (tgt : Int)) (kt : x < 0 → v_V p l e R s m args below meth c D cl A nL Q cells slots w tgt lv st) (kf : ¬ x < 0 → v_V p l e R s m args below meth c D cl A nL Q cells slots w (pc + 3) lv st) : v_V p l e R s m args below meth c D cl A nL Q cells slots w pc lv (.int x :: st) :=
  fun H locs ls hP hD hS hl => lv_if_lt X.1 X.2.1 hdg ht (fun h => kt h H locs ls hP hD hS hl) (fun h => kf h H locs ls hP hD hS hl)
theorem v_if_le (X : v_C p s m args c cc own Ts nL D cl tys A) (hdg : decode cc pc = .ok (.ifCond .le off, 3)) (ht : (pc : Int) + off = (tgt : Int)) (kt : x ≤ 0 → v_V p l e R s m args below meth c D cl A nL Q cells slots w tgt lv st) (kf : ¬ x ≤ 0 → v_V p l e R s m args below meth c D cl A nL Q cells slots w (pc + 3) lv st) : v_V p l e R s m args below meth c D cl A nL Q cells slots w pc lv (.int x :: st) :=
  fun H locs ls hP hD hS hl => lv_if_le X.1 X.2.1 hdg ht (fun h => kt h H locs ls hP hD hS hl) (fun h => kf h H locs ls hP hD hS hl)
theorem v_if_gt (X : v_C p s m args c cc own Ts nL D cl tys A) (hdg : decode cc pc = .ok (.ifCond .gt off, 3)) (ht : (pc : Int) + off = (tgt : Int)) (kt : 0 < x → v_V p l e R s m args below meth c D cl A nL Q cells slots w tgt lv st) (kf : ¬ 0 < x → v_V p l e R s m args below meth c D cl A nL Q cells slots w (pc + 3) lv st) : v_V p l e R s m args below meth c D cl A nL Q cells slots w pc lv (.int x :: st) :=
  fun H locs ls hP hD hS hl => lv_if_gt X.1 X.2.1 hdg ht (fun h => kt h H locs ls hP hD hS hl) (fun h => kf h H locs ls hP hD hS hl)
theorem v_if_ge (X : v_C p s m args c cc own Ts nL D cl tys A) (hdg : decode cc pc = .ok (.ifCond .ge off, 3)) (ht : (pc : Int) + off = (tgt : Int)) (kt : 0 ≤ x → v_V p l e R s m args below meth c D cl A nL Q cells slots w tgt lv st) (kf : ¬ 0 ≤ x → v_V p l e R s m args below meth c D cl A nL Q cells slots w (pc + 3) lv st) : v_V p l e R s m args below meth c D cl A nL Q cells slots w pc lv (.int x :: st) :=
  fun H locs ls hP hD hS hl => lv_if_ge X.1 X.2.1 hdg ht (fun h => kt h H locs ls hP hD hS hl) (fun h => kf h H locs ls hP hD hS hl)
theorem v_icmp_eq (X : v_C p s m args c cc own Ts nL D cl tys A) (hdg : decode cc pc = .ok (.if_icmp .eq off, 3)) (ht : (pc : Int) + off = (tgt : Int)) (kt : x = y → v_V p l e R s m args below meth c D cl A nL Q cells slots w tgt lv st) (kf : ¬ x = y → v_V p l e R s m args below meth c D cl A nL Q cells slots w (pc + 3) lv st) : v_V p l e R s m args below meth c D cl A nL Q cells slots w pc lv (.int y :: .int x :: st) :=
  fun H locs ls hP hD hS hl => lv_icmp_eq X.1 X.2.1 hdg ht (fun h => kt h H locs ls hP hD hS hl) (fun h => kf h H locs ls hP hD hS hl)
theorem v_icmp_ne (X : v_C p s m args c cc own Ts nL D cl tys A) (hdg : decode cc pc = .ok (.if_icmp .ne off, 3)) (ht : (pc : Int) + off = (tgt : Int)) (kt : ¬ x = y → v_V p l e R s m args below meth c D cl A nL Q cells slots w tgt lv st) (kf : x = y → v_V p l e R s m args below meth c D cl A nL Q cells slots w (pc + 3) lv st) : v_V p l e R s m args below meth c D cl A nL Q cells slots w pc lv (.int y :: .int x :: st) :=
  fun H locs ls hP hD hS hl => lv_icmp_ne X.1 X.2.1 hdg ht (fun h => kt h H locs ls hP hD hS hl) (fun h => kf h H locs ls hP hD hS hl)
theorem v_icmp_lt (X : v_C p s m args c cc own Ts nL D cl tys A) (hdg : decode cc pc = .ok (.if_icmp .lt off, 3)) (ht : (pc : Int) + off = (tgt : Int)) (kt : x < y → v_V p l e R s m args below meth c D cl A nL Q cells slots w tgt lv st) (kf : ¬ x < y → v_V p l e R s m args below meth c D cl A nL Q cells slots w (pc + 3) lv st) : v_V p l e R s m args below meth c D cl A nL Q cells slots w pc lv (.int y :: .int x :: st) :=
  fun H locs ls hP hD hS hl => lv_icmp_lt X.1 X.2.1 hdg ht (fun h => kt h H locs ls hP hD hS hl) (fun h => kf h H locs ls hP hD hS hl)
theorem v_icmp_le (X : v_C p s m args c cc own Ts nL D cl tys A) (hdg : decode cc pc = .ok (.if_icmp .le off, 3)) (ht : (pc : Int) + off = (tgt : Int)) (kt : x ≤ y → v_V p l e R s m args below meth c D cl A nL Q cells slots w tgt lv st) (kf : ¬ x ≤ y → v_V p l e R s m args below meth c D cl A nL Q cells slots w (pc + 3) lv st) : v_V p l e R s m args below meth c D cl A nL Q cells slots w pc lv (.int y :: .int x :: st) :=
  fun H locs ls hP hD hS hl => lv_icmp_le X.1 X.2.1 hdg ht (fun h => kt h H locs ls hP hD hS hl) (fun h => kf h H locs ls hP hD hS hl)
theorem v_icmp_gt (X : v_C p s m args c cc own Ts nL D cl tys A) (hdg : decode cc pc = .ok (.if_icmp .gt off, 3)) (ht : (pc : Int) + off = (tgt : Int)) (kt : y < x → v_V p l e R s m args below meth c D cl A nL Q cells slots w tgt lv st) (kf : ¬ y < x → v_V p l e R s m args below meth c D cl A nL Q cells slots w (pc + 3) lv st) : v_V p l e R s m args below meth c D cl A nL Q cells slots w pc lv (.int y :: .int x :: st) :=
  fun H locs ls hP hD hS hl => lv_icmp_gt X.1 X.2.1 hdg ht (fun h => kt h H locs ls hP hD hS hl) (fun h => kf h H locs ls hP hD hS hl)
theorem v_icmp_ge (X : v_C p s m args c cc own Ts nL D cl tys A) (hdg : decode cc pc = .ok (.if_icmp .ge off, 3)) (ht : (pc : Int) + off = (tgt : Int)) (kt : y ≤ x → v_V p l e R s m args below meth c D cl A nL Q cells slots w tgt lv st) (kf : ¬ y ≤ x → v_V p l e R s m args below meth c D cl A nL Q cells slots w (pc + 3) lv st) : v_V p l e R s m args below meth c D cl A nL Q cells slots w pc lv (.int y :: .int x :: st) :=
  fun H locs ls hP hD hS hl => lv_icmp_ge X.1 X.2.1 hdg ht (fun h => kt h H locs ls hP hD hS hl) (fun h => kf h H locs ls hP hD hS hl)
end VV
end
section
section VH
variable {p : Program} {l : Launch} {e : Env} {R : Room} {s : State} {m : MethodId} {args : Array Value} {below : List Frame} {meth : Method} {c : Code} {cc : ByteArray} {own : String} {Ts : List Cond} {nL : Nat} {D : va_G} {cl : List vw_C} {tys : List (ClassId × FieldType)} {A : Nat → Prop} {Q : State → Prop} {cells slots : Nat} {w w' : va_W} {pc tgt : Nat} {lv lv' : List (Nat × Value)} {st : List Value} {x y z : Int32} {off : Int} {a : Nat} {cA : ClassId} {n : Nat}
theorem v_getfield (X : v_C p s m args c cc own Ts nL D cl tys A) {ref C : String} {T : u_T} {N ci index : Nat} (hin : ∀ w ∈ u_ws C T N, w ∈ Ts) (q0 : Nat) {fs : List Value} (he : w[q0]? = some (a, .inr (ci, fs))) (hc : cl[ci]? = some (C, T, N)) (k : Nat) (hk : k < N) (hlink : Cond.fieldLink own index ref (T k).2.1 (T k).2.2.1 ∈ Ts) (hsame : ∀ x, s.fieldFound? (T k).1 (T k).2.1 (T k).2.2.1 = some x → s.fieldFound? ref (T k).2.1 (T k).2.2.1 = some x) {v : Value} (hv : fs[k]? = some v) (hdg : decode cc pc = .ok (.getfield index, 3))
    (kk : v_V p l e R s m args below meth c D cl A nL Q cells slots w (pc + 3) lv (v :: st)) : v_V p l e R s m args below meth c D cl A nL Q cells slots w pc lv (.ref a :: st) :=
  fun H locs ls hP hD hS hl => va_get X.1 X.2.1 X.2.2.2.1 hin X.2.2.1 X.2.2.2.2.2.1 hP q0 he hc k hk (X.2.2.2.1 _ hlink) hsame hv hdg (kk H locs ls hP hD hS hl)
theorem v_putfield (X : v_C p s m args c cc own Ts nL D cl tys A) {ref C : String} {T : u_T} {N ci index : Nat} (hin : ∀ w ∈ u_ws C T N, w ∈ Ts) (ty0 : Nat → FieldType) (hty : ∀ k, k < N → parseFieldDescriptor (T k).2.2.1 = some (ty0 k)) (hnm : ∀ a, a < N → ∀ b, b < N → a ≠ b → (T a).2.1 ≠ (T b).2.1) (q0 : Nat) {fs : List Value} (he : w[q0]? = some (a, .inr (ci, fs))) (hc : cl[ci]? = some (C, T, N)) (k : Nat) (hk : k < N) (hlink : Cond.fieldLink own index ref (T k).2.1 (T k).2.2.1 ∈ Ts) (hsame : ∀ x, s.fieldFound? (T k).1 (T k).2.1 (T k).2.2.1 = some x → s.fieldFound? ref (T k).2.1 (T k).2.2.1 = some x) (hfin : (T k).2.2.2 = false) {ty : FieldType} {v : Value} (hd : parseFieldDescriptor (T k).2.2.1 = some ty) (hn : narrow ty v = v) (hfit : fits ty v = true) (hlen : k < fs.length) (hdg : decode cc pc = .ok (.putfield index, 3)) (hw : w.set q0 (a, .inr (ci, fs.set k v)) = w')
    (kk : v_V p l e R s m args below meth c D cl A nL Q cells slots w' (pc + 3) lv st) : v_V p l e R s m args below meth c D cl A nL Q cells slots w pc lv (v :: .ref a :: st) := by
  intro H locs ls hP hD hS hl
  subst hw
  exact va_put X.1 X.2.1 X.2.2.2.1 hin ty0 hty hnm X.2.2.1 X.2.2.2.2.2.1 hP hD hS q0 he hc k hk (X.2.2.2.1 _ hlink) hsame hfin hd hn hfit hlen hdg (fun H1 locs1 hP1 hD1 hS1 => kk H1 locs1 ls hP1 hD1 hS1 hl)
theorem v_putfieldF (X : v_C p s m args c cc own Ts nL D cl tys A) {ref C : String} {T : u_T} {N ci index : Nat} (hin : ∀ w ∈ u_ws C T N, w ∈ Ts) (ty0 : Nat → FieldType) (hty : ∀ k, k < N → parseFieldDescriptor (T k).2.2.1 = some (ty0 k)) (hnm : ∀ a, a < N → ∀ b, b < N → a ≠ b → (T a).2.1 ≠ (T b).2.1) (q0 : Nat) {fs : List Value} (he : w[q0]? = some (a, .inr (ci, fs))) (hc : cl[ci]? = some (C, T, N)) (k : Nat) (hk : k < N) (hlink : Cond.fieldLink own index ref (T k).2.1 (T k).2.2.1 ∈ Ts) (hsame : ∀ x, s.fieldFound? (T k).1 (T k).2.1 (T k).2.2.1 = some x → s.fieldFound? ref (T k).2.1 (T k).2.2.1 = some x) (hfin : (T k).2.2.2 = true) (hin2 : meth.name = "<init>") (hdecl : (T k).1 = own) {ty : FieldType} {v : Value} (hd : parseFieldDescriptor (T k).2.2.1 = some ty) (hn : narrow ty v = v) (hfit : fits ty v = true) (hlen : k < fs.length) (hdg : decode cc pc = .ok (.putfield index, 3)) (hw : w.set q0 (a, .inr (ci, fs.set k v)) = w')
    (kk : v_V p l e R s m args below meth c D cl A nL Q cells slots w' (pc + 3) lv st) : v_V p l e R s m args below meth c D cl A nL Q cells slots w pc lv (v :: .ref a :: st) := by
  intro H locs ls hP hD hS hl
  subst hw
  exact va_putF X.1 X.2.1 X.2.2.2.1 hin ty0 hty hnm X.2.2.1 X.2.2.2.2.2.1 hP hD hS q0 he hc k hk (X.2.2.2.1 _ hlink) hsame hfin hin2 hdecl hd hn hfit hlen hdg (fun H1 locs1 hP1 hD1 hS1 => kk H1 locs1 ls hP1 hD1 hS1 hl)
theorem v_iald (X : v_C p s m args c cc own Ts nL D cl tys A) (q0 t0 : Nat) {f : Nat → Int32} (ha : w[q0]? = some (a, .inl (cA, n, .inl f))) (ht : tys[t0]? = some (cA, .int)) {i : Int32} (hin : vp_in i n) (hdg : decode cc pc = .ok (.iaload, 1))
    (kk : v_V p l e R s m args below meth c D cl A nL Q cells slots w (pc + 1) lv (.int (f i.toNatClampNeg) :: st)) : v_V p l e R s m args below meth c D cl A nL Q cells slots w pc lv (.int i :: .ref a :: st) :=
  fun H locs ls hP hD hS hl => va_iald X.1 X.2.1 X.2.2.2.2.2.1 hP q0 t0 ha ht hin hdg (kk H locs ls hP hD hS hl)
theorem v_iast (X : v_C p s m args c cc own Ts nL D cl tys A) (q0 t0 : Nat) {f : Nat → Int32} (ha : w[q0]? = some (a, .inl (cA, n, .inl f))) (ht : tys[t0]? = some (cA, .int)) {i : Int32} (hin : vp_in i n) (hdg : decode cc pc = .ok (.iastore, 1)) (hw : w.set q0 (a, .inl (cA, n, .inl (upd f i.toNatClampNeg x))) = w')
    (kk : v_V p l e R s m args below meth c D cl A nL Q cells slots w' (pc + 1) lv st) : v_V p l e R s m args below meth c D cl A nL Q cells slots w pc lv (.int x :: .int i :: .ref a :: st) := by
  intro H locs ls hP hD hS hl
  subst hw
  exact va_iast X.1 X.2.1 X.2.2.2.2.2.1 hP hD hS q0 t0 ha ht hin hdg (fun H1 locs1 hP1 hD1 hS1 => kk H1 locs1 ls hP1 hD1 hS1 hl)
theorem va_ald2 {H : Heap} {locs : List Loc} {ls : Array Slot} {ws : va_W} (hexec : p.tables.exec = Jvm.exec) (hb : c.code = cc) (hK : va_K D cl tys s) (hP : va_P D cl ws H) (q0 t0 : Nat) {f : Nat → Option Nat} (ha : ws[q0]? = some (a, .inl (cA, n, .inr (.inr (.inr (.inr f)))))) (ht : tys[t0]? = some (cA, .array .int)) {i : Int32} (hin : vp_in i n) (hdg : decode cc pc = .ok (.aaload, 1))
    (kk : W p l e R s m args below meth c H locs cells slots Q (F0 m (pc + 1) ls (va_rf (f i.toNatClampNeg) :: st))) : W p l e R s m args below meth c H locs cells slots Q (F0 m pc ls (.int i :: .ref a :: st)) := by
  have hlt : i.toNatClampNeg < n := Nat.not_le.mp fun q => hin (Or.inr q)
  exact W.aald (v := va_rf (f i.toNatClampNeg)) (ty := .array .int) hexec hb (hP q0 _ ha) ((hK.2 t0 _ ht).1 n (fun j => va_rf (f j))) rfl (fun q => by cases q) (by show ¬ (i < 0 ∨ (arrV _ _ _).slots.size ≤ _); rw [arrV_size]; exact hin) (by show (arrV _ _ _).slots[_]? = _; rw [arrV_read _ _ hlt]) rfl rfl hdg kk
theorem v_aald (X : v_C p s m args c cc own Ts nL D cl tys A) (q0 t0 : Nat) {f : Nat → Option Nat} (ha : w[q0]? = some (a, .inl (cA, n, .inr (.inr (.inr (.inr f)))))) (ht : tys[t0]? = some (cA, .array .int)) {i : Int32} (hin : vp_in i n) {b : Nat} (hf : f i.toNatClampNeg = some b) (hdg : decode cc pc = .ok (.aaload, 1))
    (kk : v_V p l e R s m args below meth c D cl A nL Q cells slots w (pc + 1) lv (.ref b :: st)) : v_V p l e R s m args below meth c D cl A nL Q cells slots w pc lv (.int i :: .ref a :: st) := by
  intro H locs ls hP hD hS hl
  refine va_ald2 X.1 X.2.1 X.2.2.2.2.2.1 hP q0 t0 ha ht hin hdg ?_
  rw [hf]
  exact kk H locs ls hP hD hS hl
theorem v_lald (X : v_C p s m args c cc own Ts nL D cl tys A) (q0 t0 : Nat) {f : Nat → Int64} (ha : w[q0]? = some (a, .inl (cA, n, .inr (.inl f)))) (ht : tys[t0]? = some (cA, .long)) {i : Int32} (hin : vp_in i n) (hdg : decode cc pc = .ok (.laload, 1))
    (kk : v_V p l e R s m args below meth c D cl A nL Q cells slots w (pc + 1) lv (.long (f i.toNatClampNeg) :: st)) : v_V p l e R s m args below meth c D cl A nL Q cells slots w pc lv (.int i :: .ref a :: st) :=
  fun H locs ls hP hD hS hl => va_lald X.1 X.2.1 X.2.2.2.2.2.1 hP q0 t0 ha ht hin hdg (kk H locs ls hP hD hS hl)
theorem v_last (X : v_C p s m args c cc own Ts nL D cl tys A) (q0 t0 : Nat) {f : Nat → Int64} {v : Int64} (ha : w[q0]? = some (a, .inl (cA, n, .inr (.inl f)))) (ht : tys[t0]? = some (cA, .long)) {i : Int32} (hin : vp_in i n) (hdg : decode cc pc = .ok (.lastore, 1)) (hw : w.set q0 (a, .inl (cA, n, .inr (.inl (vp_updL f i.toNatClampNeg v)))) = w')
    (kk : v_V p l e R s m args below meth c D cl A nL Q cells slots w' (pc + 1) lv st) : v_V p l e R s m args below meth c D cl A nL Q cells slots w pc lv (.long v :: .int i :: .ref a :: st) := by
  intro H locs ls hP hD hS hl
  subst hw
  exact va_last X.1 X.2.1 X.2.2.2.2.2.1 hP hD hS q0 t0 ha ht hin hdg (fun H1 locs1 hP1 hD1 hS1 => kk H1 locs1 ls hP1 hD1 hS1 hl)
/-- contracts of methods that return, make nothing, and whose answer and world are told by functions of the start -/
def v_Mi (l : Launch) (D : va_G) (cl : List vw_C) (tys : List (ClassId × FieldType)) (y : MethodName) (ws : List Cond) (rm : Room) (av : List Value) (w : va_W) (r : Int32) (w' : va_W) : Prop :=
  ∀ sz : Nat, Met l y ws rm (va_Pc av (fun U => U.heap.size = sz ∧ va_P D cl w U.heap ∧ va_K D cl tys U ∧ va_D (fun _ => True) w)) (va_Qi (fun (x : Int32) (_ : Unit) => x = r) (fun _ t => va_P D cl w' t.heap ∧ va_K D cl tys t ∧ va_D (va_A w sz) w') (va_A w sz)) rm.cells rm.slots (va_A w sz)
def v_Mv (l : Launch) (D : va_G) (cl : List vw_C) (tys : List (ClassId × FieldType)) (y : MethodName) (ws : List Cond) (rm : Room) (av : List Value) (w : va_W) (w' : va_W) : Prop :=
  ∀ sz : Nat, Met l y ws rm (va_Pc av (fun U => U.heap.size = sz ∧ va_P D cl w U.heap ∧ va_K D cl tys U ∧ va_D (fun _ => True) w)) (va_Qv (fun (_ : Unit) => True) (fun _ t => va_P D cl w' t.heap ∧ va_K D cl tys t ∧ va_D (va_A w sz) w') (va_A w sz)) rm.cells rm.slots (va_A w sz)
def v_Qi (below : List Frame) (s : State) (D : va_G) (cl : List vw_C) (tys : List (ClassId × FieldType)) (rm : Room) (av : List Value) (w : va_W) (r : Int32) (w' : va_W) : State → Prop :=
  MQ below (va_Qi (fun (x : Int32) (_ : Unit) => x = r) (fun _ t => va_P D cl w' t.heap ∧ va_K D cl tys t ∧ va_D (va_A w s.heap.size) w') (va_A w s.heap.size)) av.toArray s rm.cells rm.slots (va_A w s.heap.size)
def v_Qv (below : List Frame) (s : State) (D : va_G) (cl : List vw_C) (tys : List (ClassId × FieldType)) (rm : Room) (av : List Value) (w : va_W) (w' : va_W) : State → Prop :=
  MQ below (va_Qv (fun (_ : Unit) => True) (fun _ t => va_P D cl w' t.heap ∧ va_K D cl tys t ∧ va_D (va_A w s.heap.size) w') (va_A w s.heap.size)) av.toArray s rm.cells rm.slots (va_A w s.heap.size)
theorem v_ofMi {y : MethodName} {ws ws' : List Cond} {rm : Room} {maxL : Nat} {ret : Option FieldType} {av : List Value} {r : Int32} {lv0 : List (Nat × Value)} (hy : plainName y.cls = true) (hw : ws = Cond.code y cc maxL ret :: ws') (hown : y.cls = own) (hlv : lv_args 0 av = lv0) (hn : (lg_sl av).length ≤ maxL)
    (body : ∀ (p : Program) (e : Env) (s : State) (m : MethodId) (below : List Frame) (meth : Method) (c : Code), v_C p s m av.toArray c cc own ws maxL D cl tys (va_A w s.heap.size) → meth.sig.returnType = ret → meth.locks = false → (y.name = "<init>" → meth.name = "<init>") →
      v_V p l e rm s m av.toArray below meth c D cl (va_A w s.heap.size) maxL (v_Qi below s D cl tys rm av w r w') 0 0 w 0 lv0 []) : v_Mi l D cl tys y ws rm av w r w' := by
  intro sz
  refine Met.ofW (cc := cc) (maxL := maxL) (ret := ret) hy hw ?_
  intro p e s m args below meth c s₁ B hml hv
  obtain ⟨rfl, hsz, hP, hK, hD0⟩ := hv
  subst hsz
  have hl := lv_entry av (n := maxL) hn
  rw [hlv] at hl
  rw [lg_entry_eq]
  exact body p e s m below meth c ⟨B.exec, B.bytes, by rw [← hown]; exact findClass_of_methodNamed B.named, atoms_spec (ws := ws) B.pre, hml, hK, fun q h => Or.inr h⟩ B.returns B.notSynchronized (fun h => by rw [(name_of_methodNamed B.named B.method).1]; exact h) s.heap [] _ hP (hD0.self (sz := s.heap.size)) va_S.rf hl
theorem v_ofMv {y : MethodName} {ws ws' : List Cond} {rm : Room} {maxL : Nat} {ret : Option FieldType} {av : List Value} {lv0 : List (Nat × Value)} (hy : plainName y.cls = true) (hw : ws = Cond.code y cc maxL ret :: ws') (hown : y.cls = own) (hlv : lv_args 0 av = lv0) (hn : (lg_sl av).length ≤ maxL)
    (body : ∀ (p : Program) (e : Env) (s : State) (m : MethodId) (below : List Frame) (meth : Method) (c : Code), v_C p s m av.toArray c cc own ws maxL D cl tys (va_A w s.heap.size) → meth.sig.returnType = ret → meth.locks = false → (y.name = "<init>" → meth.name = "<init>") →
      v_V p l e rm s m av.toArray below meth c D cl (va_A w s.heap.size) maxL (v_Qv below s D cl tys rm av w w') 0 0 w 0 lv0 []) : v_Mv l D cl tys y ws rm av w w' := by
  intro sz
  refine Met.ofW (cc := cc) (maxL := maxL) (ret := ret) hy hw ?_
  intro p e s m args below meth c s₁ B hml hv
  obtain ⟨rfl, hsz, hP, hK, hD0⟩ := hv
  subst hsz
  have hl := lv_entry av (n := maxL) hn
  rw [hlv] at hl
  rw [lg_entry_eq]
  exact body p e s m below meth c ⟨B.exec, B.bytes, by rw [← hown]; exact findClass_of_methodNamed B.named, atoms_spec (ws := ws) B.pre, hml, hK, fun q h => Or.inr h⟩ B.returns B.notSynchronized (fun h => by rw [(name_of_methodNamed B.named B.method).1]; exact h) s.heap [] _ hP (hD0.self (sz := s.heap.size)) va_S.rf hl
theorem v_reti {av : List Value} {w0 : va_W} {r : Int32} {rm : Room} (X : v_C p s m av.toArray c cc own Ts nL D cl tys (va_A w0 s.heap.size)) {ty : FieldType} (hr : meth.sig.returnType = some ty) (hlk : meth.locks = false) (hn : narrow ty (.int x) = .int x) (hv : x = r) (hw : w = w') (hc : cells ≤ rm.cells) (hs : slots ≤ rm.slots) (hdg : decode cc pc = .ok (.ireturn, 1)) :
    v_V p l e R s m av.toArray below meth c D cl (va_A w0 s.heap.size) nL (v_Qi below s D cl tys rm av w0 r w') cells slots w pc lv [.int x] := by
  intro H locs ls hP hD hS hl
  subst hv hw
  refine W.widen hc hs ?_
  exact W.zret X.1 X.2.1 hr hn (fun t ht hW => ⟨⟨x, (), rfl, rfl, by rw [ht]; exact hP, va_K.moved hW.alike X.2.2.2.2.2.1, hD⟩, hS.F ht⟩) hS.2.2 hdg hlk
theorem v_retv {av : List Value} {w0 : va_W} {rm : Room} (X : v_C p s m av.toArray c cc own Ts nL D cl tys (va_A w0 s.heap.size)) (hr : meth.sig.returnType = none) (hlk : meth.locks = false) (hw : w = w') (hc : cells ≤ rm.cells) (hs : slots ≤ rm.slots) (hdg : decode cc pc = .ok (.return_, 1)) :
    v_V p l e R s m av.toArray below meth c D cl (va_A w0 s.heap.size) nL (v_Qv below s D cl tys rm av w0 w') cells slots w pc lv [] := by
  intro H locs ls hP hD hS hl
  subst hw
  refine W.widen hc hs ?_
  exact W.vret X.1 X.2.1 hr (fun t ht hW => ⟨⟨(), rfl, trivial, by rw [ht]; exact hP, va_K.moved hW.alike X.2.2.2.2.2.1, hD⟩, hS.F ht⟩) hS.2.2 hdg hlk
theorem v_fm {α : Type} {ws ws' : List α} {is : List Nat} (h : is.map (fun i => ws[i]?) = ws'.map some) : is.filterMap (fun i => ws[i]?) = ws' := by
  have h2 := congrArg (List.filterMap id) h
  rw [List.filterMap_map, List.filterMap_map] at h2
  simpa using h2
end VH
end
section
section VC5
variable {p : Program} {l : Launch} {e : Env} {R : Room} {s : State} {m : MethodId} {args : Array Value} {below : List Frame} {meth : Method} {c : Code} {cc : ByteArray} {own : String} {Ts : List Cond} {nL : Nat} {D : va_G} {cl : List vw_C} {tys : List (ClassId × FieldType)} {A : Nat → Prop} {Q : State → Prop} {cells slots : Nat} {w w' : va_W} {pc tgt : Nat} {lv lv' : List (Nat × Value)} {st rest : List Value} {a b n index : Nat} {r : Int32}
variable {y : MethodName} {bytes : ByteArray} {maxL : Nat} {ret : Option FieldType} {ws : List Cond} {rm : Room} {C : String} {As : List Value} {wc wc' wr : va_W}
/-- the callee's cells among the caller's, and the caller's world behind it -/
def v_cut (w wc wr wc' w' : va_W) (isC isR perm : List Nat) : Prop :=
  isC.map (fun i => w[i]?) = wc.map some ∧ isR.map (fun i => w[i]?) = wr.map some ∧ va_nd isC = true ∧ va_nd isR = true ∧ (∀ i ∈ isR, i ∉ isC) ∧ perm.map (fun i => (wr ++ wc')[i]?) = w'.map some ∧ va_nd perm = true
theorem v_fr0 {H : Heap} {locs : List Loc} (X : v_C p s m args c cc own Ts nL D cl tys A) (hD : va_D A w) (hS : va_S A s.heap H locs) : ∀ q, va_A w H.size q → A q := by
  intro q h
  rcases h with ⟨k, e, h⟩ | h
  · exact hD.2 k (q, e) h
  · exact X.2.2.2.2.2.2 q (Nat.le_trans hS.1 h)
theorem v_blind {av : List Value} {sz : Nat} : FrameBlind (va_Pc av (fun U => U.heap.size = sz ∧ va_P D cl w U.heap ∧ va_K D cl tys U ∧ va_D (fun _ => True) w)) :=
  fun a U g mk q => ⟨q.1, q.2.1, q.2.2.1, va_K.moved (u := U) (U := U.calling g mk a) (Vm.Alike.refl U.vm) q.2.2.2.1, q.2.2.2.2⟩
theorem v_pre {H : Heap} {av : List Value} (X : v_C p s m args c cc own Ts nL D cl tys A) (hP : va_P D cl w H) (hD : va_D A w) (U : State) (hU : U.heap = H) (hW : s.WarmedH U.vm) : va_Pc av (fun U => U.heap.size = H.size ∧ va_P D cl w U.heap ∧ va_K D cl tys U ∧ va_D (fun _ => True) w) av.toArray U :=
  ⟨rfl, by rw [hU], by rw [hU]; exact hP, va_K.moved hW.alike X.2.2.2.2.2.1, hD.weaken (fun _ _ _ _ => trivial)⟩
/-- an instance method, the callee's cells are the whole world -/
theorem v_callVi (X : v_C p s m args c cc own Ts nL D cl tys A) (hM : v_Mi l D cl tys y ws rm (.ref b :: As) w r w') (cw : CallW R s args own C index y bytes maxL ret ws rm rm.cells rm.slots n)
    (q0 ci : Nat) {q : vw_C} {fs : List Value} (hcl : cl[ci]? = some q) (hqC : q.1 = C) (he : w[q0]? = some (b, .inr (ci, fs))) (hn : As.length = n) (hst : st = As.reverse ++ .ref b :: rest) (hroom : (rest.map fun v => v.category).sum ≤ 8) (hdg : decode cc pc = .ok (.invokevirtual index, 3)) (hf : cells + rm.cells ≤ R.cells ∧ slots + rm.slots ≤ R.slots)
    (kk : v_V p l e R s m args below meth c D cl A nL Q (cells + rm.cells) (slots + rm.slots) w' (pc + 3) lv (.int r :: rest)) : v_V p l e R s m args below meth c D cl A nL Q cells slots w pc lv st := by
  intro H locs ls hP hD hS hl
  subst hst hqC
  have hFc := v_fr0 X hD hS
  refine va_calli (va_runV (As := As) (rest := rest) ⟨X.1, X.2.1, X.2.2.2.2.1, X.2.2.1, X.2.2.2.1⟩ (hM H.size) cw ⟨v_blind, va_recv X.2.2.2.2.2.1 hP hcl he, v_pre X hP hD⟩ rfl hn hl.1 rfl (lv_room hroom) hdg hf) hS (fun q _ h => hFc q h) hFc (fun r' u t H1 locs1 ht hvm hw hB hz1 hk1 hS1 => ?_)
  obtain ⟨hP1, hK1, hD1⟩ := hB
  rw [ht] at hP1
  subst hw
  exact kk H1 locs1 ls hP1 (hD1.weaken (fun _ q _ h => hFc q.1 h)) hS1 hl
theorem v_callVv (X : v_C p s m args c cc own Ts nL D cl tys A) (hM : v_Mv l D cl tys y ws rm (.ref b :: As) w w') (cw : CallW R s args own C index y bytes maxL ret ws rm rm.cells rm.slots n)
    (q0 ci : Nat) {q : vw_C} {fs : List Value} (hcl : cl[ci]? = some q) (hqC : q.1 = C) (he : w[q0]? = some (b, .inr (ci, fs))) (hn : As.length = n) (hst : st = As.reverse ++ .ref b :: rest) (hroom : (rest.map fun v => v.category).sum ≤ 8) (hdg : decode cc pc = .ok (.invokevirtual index, 3)) (hf : cells + rm.cells ≤ R.cells ∧ slots + rm.slots ≤ R.slots)
    (kk : v_V p l e R s m args below meth c D cl A nL Q (cells + rm.cells) (slots + rm.slots) w' (pc + 3) lv rest) : v_V p l e R s m args below meth c D cl A nL Q cells slots w pc lv st := by
  intro H locs ls hP hD hS hl
  subst hst hqC
  have hFc := v_fr0 X hD hS
  refine va_callv (va_runV (As := As) (rest := rest) ⟨X.1, X.2.1, X.2.2.2.2.1, X.2.2.1, X.2.2.2.1⟩ (hM H.size) cw ⟨v_blind, va_recv X.2.2.2.2.2.1 hP hcl he, v_pre X hP hD⟩ rfl hn hl.1 rfl (lv_room hroom) hdg hf) hS (fun q _ h => hFc q h) hFc (fun u t H1 locs1 ht hvm hw hB hz1 hk1 hS1 => ?_)
  obtain ⟨hP1, hK1, hD1⟩ := hB
  rw [ht] at hP1
  exact kk H1 locs1 ls hP1 (hD1.weaken (fun _ q _ h => hFc q.1 h)) hS1 hl
/-- .. the callee's cells are a part of it -/
theorem v_callVic (X : v_C p s m args c cc own Ts nL D cl tys A) (hM : v_Mi l D cl tys y ws rm (.ref b :: As) wc r wc') (cw : CallW R s args own C index y bytes maxL ret ws rm rm.cells rm.slots n) (isC isR perm : List Nat) (hcut : v_cut w wc wr wc' w' isC isR perm)
    (q0 ci : Nat) {q : vw_C} {fs : List Value} (hcl : cl[ci]? = some q) (hqC : q.1 = C) (he : wc[q0]? = some (b, .inr (ci, fs))) (hn : As.length = n) (hst : st = As.reverse ++ .ref b :: rest) (hroom : (rest.map fun v => v.category).sum ≤ 8) (hdg : decode cc pc = .ok (.invokevirtual index, 3)) (hf : cells + rm.cells ≤ R.cells ∧ slots + rm.slots ≤ R.slots)
    (kk : v_V p l e R s m args below meth c D cl A nL Q (cells + rm.cells) (slots + rm.slots) w' (pc + 3) lv (.int r :: rest)) : v_V p l e R s m args below meth c D cl A nL Q cells slots w pc lv st := by
  intro H locs ls hP hD hS hl
  subst hst hqC
  obtain ⟨hC, hR, hnC, hnR, hdis, hj, hnj⟩ := hcut
  have hPc := hP.sub (ws' := wc) isC (v_fm hC)
  have hDc := hD.sub (ws' := wc) isC hnC hC
  have hFc := va_free (wc := wc) hD hS X.2.2.2.2.2.2 isC hC
  refine va_calli (va_runV (As := As) (rest := rest) ⟨X.1, X.2.1, X.2.2.2.2.1, X.2.2.1, X.2.2.2.1⟩ (hM H.size) cw ⟨v_blind, va_recv X.2.2.2.2.2.1 hPc hcl he, v_pre X hPc hDc⟩ rfl hn hl.1 rfl (lv_room hroom) hdg hf) hS (fun q _ h => hFc q h) hFc (fun r' u t H1 locs1 ht hvm hw hB hz1 hk1 hS1 => ?_)
  obtain ⟨hP1, hK1, hD1⟩ := hB
  rw [ht] at hP1
  subst hw
  obtain ⟨hP2, hD2⟩ := va_join (wr := wr) (w1 := wc') hP hD isC isR hC hR hnR hdis hk1 hFc hP1 hD1
  exact kk H1 locs1 ls (hP2.sub perm (v_fm hj)) (hD2.sub perm hnj hj) hS1 hl
theorem v_callVvc (X : v_C p s m args c cc own Ts nL D cl tys A) (hM : v_Mv l D cl tys y ws rm (.ref b :: As) wc wc') (cw : CallW R s args own C index y bytes maxL ret ws rm rm.cells rm.slots n) (isC isR perm : List Nat) (hcut : v_cut w wc wr wc' w' isC isR perm)
    (q0 ci : Nat) {q : vw_C} {fs : List Value} (hcl : cl[ci]? = some q) (hqC : q.1 = C) (he : wc[q0]? = some (b, .inr (ci, fs))) (hn : As.length = n) (hst : st = As.reverse ++ .ref b :: rest) (hroom : (rest.map fun v => v.category).sum ≤ 8) (hdg : decode cc pc = .ok (.invokevirtual index, 3)) (hf : cells + rm.cells ≤ R.cells ∧ slots + rm.slots ≤ R.slots)
    (kk : v_V p l e R s m args below meth c D cl A nL Q (cells + rm.cells) (slots + rm.slots) w' (pc + 3) lv rest) : v_V p l e R s m args below meth c D cl A nL Q cells slots w pc lv st := by
  intro H locs ls hP hD hS hl
  subst hst hqC
  obtain ⟨hC, hR, hnC, hnR, hdis, hj, hnj⟩ := hcut
  have hPc := hP.sub (ws' := wc) isC (v_fm hC)
  have hDc := hD.sub (ws' := wc) isC hnC hC
  have hFc := va_free (wc := wc) hD hS X.2.2.2.2.2.2 isC hC
  refine va_callv (va_runV (As := As) (rest := rest) ⟨X.1, X.2.1, X.2.2.2.2.1, X.2.2.1, X.2.2.2.1⟩ (hM H.size) cw ⟨v_blind, va_recv X.2.2.2.2.2.1 hPc hcl he, v_pre X hPc hDc⟩ rfl hn hl.1 rfl (lv_room hroom) hdg hf) hS (fun q _ h => hFc q h) hFc (fun u t H1 locs1 ht hvm hw hB hz1 hk1 hS1 => ?_)
  obtain ⟨hP1, hK1, hD1⟩ := hB
  rw [ht] at hP1
  obtain ⟨hP2, hD2⟩ := va_join (wr := wr) (w1 := wc') hP hD isC isR hC hR hnR hdis hk1 hFc hP1 hD1
  exact kk H1 locs1 ls (hP2.sub perm (v_fm hj)) (hD2.sub perm hnj hj) hS1 hl
/-- a static method that sees no cell -/
theorem v_callSi0 (X : v_C p s m args c cc own Ts nL D cl tys A) (hM : v_Mi l D cl tys y ws rm As [] r []) (cw : CallB R s args own index y bytes maxL ret ws rm rm.cells rm.slots n ∧ (Cond.static y).before args s = true)
    (hn : As.length = n) (hst : st = As.reverse ++ rest) (hroom : (rest.map fun v => v.category).sum ≤ 8) (hdg : decode cc pc = .ok (.invokestatic index, 3)) (hf : cells + rm.cells ≤ R.cells ∧ slots + rm.slots ≤ R.slots)
    (kk : v_V p l e R s m args below meth c D cl A nL Q (cells + rm.cells) (slots + rm.slots) w (pc + 3) lv (.int r :: rest)) : v_V p l e R s m args below meth c D cl A nL Q cells slots w pc lv st := by
  intro H locs ls hP hD hS hl
  subst hst
  have hP0 : va_P D cl [] H := fun k q h => by simp at h
  have hD0 : va_D A [] := ⟨fun i j p q h => by simp at h, fun k q h => by simp at h⟩
  have hFc : ∀ q, va_A [] H.size q → A q := v_fr0 X hD0 hS
  refine va_calli (va_runS (As := As) (rest := rest) ⟨X.1, X.2.1, X.2.2.2.2.1, X.2.2.1, X.2.2.2.1⟩ (hM H.size) cw ⟨v_blind, v_pre X hP0 hD0⟩ rfl hn hl.1 rfl (lv_room hroom) hdg hf) hS (fun q _ h => hFc q h) hFc (fun r' u t H1 locs1 ht hvm hw hB hz1 hk1 hS1 => ?_)
  subst hw
  refine kk H1 locs1 ls (hP.kept (fun k q hk => hk1 q.1 (hP k q hk).lt (fun h => ?_))) hD hS1 hl
  rcases h with ⟨k2, e2, h⟩ | h
  · simp at h
  · exact absurd (hP k q hk).lt (Nat.not_lt.mpr h)
end VC5
end
section
def v_E1 : String := "java/lang/IndexOutOfBoundsException"
def v_E2 : String := "java/lang/IllegalArgumentException"
def v_E3 : String := "java/lang/IllegalStateException"
def v_nm : List String := ["java/lang/RuntimeException", "java/lang/Exception"]
def v_strs : List (Nat × String) := [(66, "there are as many cards as there can be"), (105, "the card is not free, or its kind is banned"), (128, "too few coins, a bid for the kind already, or a banned kind"), (143, "the card is not for sale"), (145, "the player has no bid for the kind"), (152, "both cards have the same owner"), (155, "the card is not free"), (163, "the card can't be swapped now"), (165, "no swap is told of the card"), (167, "days out of range, or the player is the owner"), (172, "day out of range"), (177, "days out of range"), (193, "a match needs two players"), (195, "one of the decks is not right"), (199, "no such player"), (202, "no such kind"), (206, "no such card"), (208, "price out of range")]
def v_sup : List String := ["java/lang/RuntimeException", "java/lang/Exception", Bundle.tN]
/-- what a throw asks of the start, beside the words -/
def v_XW (A : Nat → Prop) (U : State) : Prop :=
  vx_Zq Bundle.tN "UNASSIGNED_STACK" Bundle.steD A U U.heap ∧ vx_Zq Bundle.tN "SUPPRESSED_SENTINEL" Bundle.listD A U U.heap ∧ (∀ q ∈ v_strs, ∃ sa : Nat, vk_R RX3 q.1 q.2 sa U) ∧ (∀ E ∈ [v_E1, v_E2, v_E3], va_Nw (.castable E E) U) ∧ (∀ Y ∈ v_sup, va_Nw (.declares (Bundle.initS Y)) U) ∧ ∀ q ∈ [(v_E2, v_E1), (v_E3, v_E1), (v_E3, v_E2)], va_Nc q.1 q.2 U
theorem v_XW.to {A B : Nat → Prop} {s U : State} {H : Heap} {locs : List Loc} (h : v_XW A s) (hS : va_S A s.heap H locs) (hU : U.heap = H) (hW : s.WarmedH U.vm) (hAB : ∀ q, B q → A q) : v_XW B U := by
  obtain ⟨h1, h2, h3, h4, h6, h5⟩ := h
  refine ⟨?_, ?_, fun q hq => ?_, fun E hE => va_Nw.same rfl (rfl : (s.setVm U.vm).vm = U.vm) (va_Nw.warmC hW (h4 E hE)), fun Y hY => va_tabs rfl (rfl : (s.setVm U.vm).vm = U.vm) (by rw [Cond.declares_setVm hW.alike]; exact h6 Y hY), fun q hq => (h5 q hq).moved hW.alike⟩
  · rw [hU]; exact ((h1.kept hS.2.1).moved hW.alike).narrow hAB
  · rw [hU]; exact ((h2.kept hS.2.1).moved hW.alike).narrow hAB
  · obtain ⟨sa, ha⟩ := h3 q hq
    exact ⟨sa, vk_R.warm hW ha⟩
theorem v_XW.calling {A : Nat → Prop} {U : State} {g : JFrame} {mk : MethodId} {a : Array Value} (h : v_XW A U) : v_XW A (U.calling g mk a) := by
  obtain ⟨h1, h2, h3, h4, h6, h5⟩ := h
  refine ⟨vx_Zq.moved (u := U) (Vm.Alike.refl U.vm) h1, vx_Zq.moved (u := U) (Vm.Alike.refl U.vm) h2, fun q hq => ?_, fun E hE => va_Nw.same rfl rfl (h4 E hE), fun Y hY => va_Nw.same rfl rfl (h6 Y hY), fun q hq => va_Nc.moved (u := U) (Vm.Alike.refl U.vm) (h5 q hq)⟩
  obtain ⟨sa, ha⟩ := h3 q hq
  exact ⟨sa, vk_R.same rfl ha⟩
section VX6
variable {p : Program} {l : Launch} {e : Env} {R : Room} {s : State} {m : MethodId} {args : Array Value} {below : List Frame} {meth : Method} {c : Code} {cc : ByteArray} {own : String} {Ts : List Cond} {nL : Nat} {D : va_G} {cl : List vw_C} {tys : List (ClassId × FieldType)} {A : Nat → Prop} {Q : State → Prop} {cells slots : Nat} {w w' : va_W} {pc tgt : Nat} {lv lv' : List (Nat × Value)} {st rest : List Value} {a b n index : Nat} {x r : Int32}
variable {y : MethodName} {bytes : ByteArray} {maxL : Nat} {ret : Option FieldType} {ws : List Cond} {rm : Room} {C : String} {As av : List Value} {wc wc' wr w0 : va_W} {xc xo : Option String}
def v_Pc (D : va_G) (cl : List vw_C) (tys : List (ClassId × FieldType)) (av : List Value) (w : va_W) (sz : Nat) : Array Value → State → Prop :=
  va_Pc av (fun U => U.heap.size = sz ∧ va_P D cl w U.heap ∧ va_K D cl tys U ∧ va_D (fun _ => True) w ∧ v_XW (va_A w sz) U)
def v_XC (D : va_G) (cl : List vw_C) (tys : List (ClassId × FieldType)) (w : va_W) (sz : Nat) (xo : Option String) : String → State → State → Prop :=
  vx_X (fun (_ : Unit) => True) (fun E _ t => xo = some E ∧ va_P D cl w t.heap ∧ va_K D cl tys t ∧ va_D (va_A w sz) w) (va_A w sz)
/-- contracts of methods that return or throw, the start's functions tell which -/
def v_Xi (l : Launch) (D : va_G) (cl : List vw_C) (tys : List (ClassId × FieldType)) (y : MethodName) (ws : List Cond) (rm : Room) (av : List Value) (w : va_W) (xo : Option String) (r : Int32) (w' : va_W) : Prop :=
  ∀ sz : Nat, vx_Met l y ws rm (v_Pc D cl tys av w sz) (va_Qi (fun (x : Int32) (_ : Unit) => xo = none ∧ x = r) (fun _ t => va_P D cl w' t.heap ∧ va_K D cl tys t ∧ va_D (va_A w sz) w') (va_A w sz)) (v_XC D cl tys w sz xo) rm.cells rm.slots (va_A w sz)
def v_Xv (l : Launch) (D : va_G) (cl : List vw_C) (tys : List (ClassId × FieldType)) (y : MethodName) (ws : List Cond) (rm : Room) (av : List Value) (w : va_W) (xo : Option String) (w' : va_W) : Prop :=
  ∀ sz : Nat, vx_Met l y ws rm (v_Pc D cl tys av w sz) (va_Qv (fun (_ : Unit) => xo = none) (fun _ t => va_P D cl w' t.heap ∧ va_K D cl tys t ∧ va_D (va_A w sz) w') (va_A w sz)) (v_XC D cl tys w sz xo) rm.cells rm.slots (va_A w sz)
def v_QXi (below : List Frame) (s : State) (D : va_G) (cl : List vw_C) (tys : List (ClassId × FieldType)) (rm : Room) (av : List Value) (w : va_W) (xo : Option String) (r : Int32) (w' : va_W) : State → Prop :=
  vx_MQ below (va_Qi (fun (x : Int32) (_ : Unit) => xo = none ∧ x = r) (fun _ t => va_P D cl w' t.heap ∧ va_K D cl tys t ∧ va_D (va_A w s.heap.size) w') (va_A w s.heap.size)) (v_XC D cl tys w s.heap.size xo) av.toArray s rm.cells rm.slots (va_A w s.heap.size)
def v_QXv (below : List Frame) (s : State) (D : va_G) (cl : List vw_C) (tys : List (ClassId × FieldType)) (rm : Room) (av : List Value) (w : va_W) (xo : Option String) (w' : va_W) : State → Prop :=
  vx_MQ below (va_Qv (fun (_ : Unit) => xo = none) (fun _ t => va_P D cl w' t.heap ∧ va_K D cl tys t ∧ va_D (va_A w s.heap.size) w') (va_A w s.heap.size)) (v_XC D cl tys w s.heap.size xo) av.toArray s rm.cells rm.slots (va_A w s.heap.size)
/-- what a walk that may throw stands on beside v_C -/
def v_T (l : Launch) (s : State) (meth : Method) (c : Code) (A : Nat → Prop) : Prop := l.stackTraces = false ∧ v_XW A s ∧ (∀ x ∈ c.exceptionTable.toList, False) ∧ meth.locks = false
theorem v_ofXi {ws' : List Cond} {lv0 : List (Nat × Value)} (hlt : l.stackTraces = false) (hy : plainName y.cls = true) (hw : ws = Cond.code y cc maxL ret :: ws') (hown : y.cls = own) (hlv : lv_args 0 av = lv0) (hn : (lg_sl av).length ≤ maxL)
    (body : ∀ (p : Program) (e : Env) (s : State) (m : MethodId) (below : List Frame) (meth : Method) (c : Code), v_C p s m av.toArray c cc own ws maxL D cl tys (va_A w s.heap.size) → v_T l s meth c (va_A w s.heap.size) → meth.sig.returnType = ret →
      v_V p l e rm s m av.toArray below meth c D cl (va_A w s.heap.size) maxL (v_QXi below s D cl tys rm av w xo r w') 0 0 w 0 lv0 []) : v_Xi l D cl tys y ws rm av w xo r w' := by
  intro sz
  refine vx_ofW (cc := cc) (maxL := maxL) (ret := ret) hy hw ?_
  intro p e s m args below meth c s₁ B hml ht hv
  obtain ⟨rfl, hsz, hP, hK, hD0, hXW⟩ := hv
  subst hsz
  have hl := lv_entry av (n := maxL) hn
  rw [hlv] at hl
  rw [lg_entry_eq]
  exact body p e s m below meth c ⟨B.exec, B.bytes, by rw [← hown]; exact findClass_of_methodNamed B.named, atoms_spec (ws := ws) B.pre, hml, hK, fun q h => Or.inr h⟩ ⟨hlt, hXW, ht, B.notSynchronized⟩ B.returns s.heap [] _ hP (hD0.self (sz := s.heap.size)) va_S.rf hl
theorem v_ofXv {ws' : List Cond} {lv0 : List (Nat × Value)} (hlt : l.stackTraces = false) (hy : plainName y.cls = true) (hw : ws = Cond.code y cc maxL ret :: ws') (hown : y.cls = own) (hlv : lv_args 0 av = lv0) (hn : (lg_sl av).length ≤ maxL)
    (body : ∀ (p : Program) (e : Env) (s : State) (m : MethodId) (below : List Frame) (meth : Method) (c : Code), v_C p s m av.toArray c cc own ws maxL D cl tys (va_A w s.heap.size) → v_T l s meth c (va_A w s.heap.size) → meth.sig.returnType = ret →
      v_V p l e rm s m av.toArray below meth c D cl (va_A w s.heap.size) maxL (v_QXv below s D cl tys rm av w xo w') 0 0 w 0 lv0 []) : v_Xv l D cl tys y ws rm av w xo w' := by
  intro sz
  refine vx_ofW (cc := cc) (maxL := maxL) (ret := ret) hy hw ?_
  intro p e s m args below meth c s₁ B hml ht hv
  obtain ⟨rfl, hsz, hP, hK, hD0, hXW⟩ := hv
  subst hsz
  have hl := lv_entry av (n := maxL) hn
  rw [hlv] at hl
  rw [lg_entry_eq]
  exact body p e s m below meth c ⟨B.exec, B.bytes, by rw [← hown]; exact findClass_of_methodNamed B.named, atoms_spec (ws := ws) B.pre, hml, hK, fun q h => Or.inr h⟩ ⟨hlt, hXW, ht, B.notSynchronized⟩ B.returns s.heap [] _ hP (hD0.self (sz := s.heap.size)) va_S.rf hl
theorem v_xreti (X : v_C p s m av.toArray c cc own Ts nL D cl tys (va_A w0 s.heap.size)) (T : v_T l s meth c (va_A w0 s.heap.size)) {ty : FieldType} (hr : meth.sig.returnType = some ty) (hn : narrow ty (.int x) = .int x) (hxo : xo = none) (hv : x = r) (hw : w = w') (hc : cells ≤ rm.cells) (hs : slots ≤ rm.slots) (hdg : decode cc pc = .ok (.ireturn, 1)) :
    v_V p l e R s m av.toArray below meth c D cl (va_A w0 s.heap.size) nL (v_QXi below s D cl tys rm av w0 xo r w') cells slots w pc lv [.int x] := by
  intro H locs ls hP hD hS hl
  subst hv hw
  refine W.widen hc hs (vx_ret ?_)
  exact W.zret X.1 X.2.1 hr hn (fun t ht hW => ⟨⟨x, (), rfl, ⟨hxo, rfl⟩, by rw [ht]; exact hP, va_K.moved hW.alike X.2.2.2.2.2.1, hD⟩, hS.F ht⟩) hS.2.2 hdg T.2.2.2
theorem v_xretv (X : v_C p s m av.toArray c cc own Ts nL D cl tys (va_A w0 s.heap.size)) (T : v_T l s meth c (va_A w0 s.heap.size)) (hr : meth.sig.returnType = none) (hxo : xo = none) (hw : w = w') (hc : cells ≤ rm.cells) (hs : slots ≤ rm.slots) (hdg : decode cc pc = .ok (.return_, 1)) :
    v_V p l e R s m av.toArray below meth c D cl (va_A w0 s.heap.size) nL (v_QXv below s D cl tys rm av w0 xo w') cells slots w pc lv [] := by
  intro H locs ls hP hD hS hl
  subst hw
  refine W.widen hc hs (vx_ret ?_)
  exact W.vret X.1 X.2.1 hr (fun t ht hW => ⟨⟨(), rfl, hxo, by rw [ht]; exact hP, va_K.moved hW.alike X.2.2.2.2.2.1, hD⟩, hS.F ht⟩) hS.2.2 hdg T.2.2.2
/-- what a throw of E links: the places ik (the class), ic (its constructor) -/
def v_EL (E : String) (ik ic : Nat) : Prop := Bundle.fit E = true ∧ (∀ w ∈ Cond.classLink RX3 ik E :: Cond.initialized E :: vx_atS RX3 ic E v_nm, vx_ot w = true) ∧ (∀ w ∈ (vx_atS RX3 ic E v_nm).filter (fun w => !goodWord w), w ∈ Cond.castable E E :: v_sup.map (fun Y => Cond.declares (Bundle.initS Y))) ∧ E ∈ [v_E1, v_E2, v_E3]
theorem v_EL1 : v_EL v_E1 197 201 := ⟨by decide +kernel, by decide +kernel, by decide +kernel, by decide +kernel⟩
theorem v_EL2 : v_EL v_E2 150 154 := ⟨by decide +kernel, by decide +kernel, by decide +kernel, by decide +kernel⟩
theorem v_EL3 : v_EL v_E3 64 68 := ⟨by decide +kernel, by decide +kernel, by decide +kernel, by decide +kernel⟩
theorem v_nmok : ∀ n ∈ v_nm, Bundle.fit n = true := by decide +kernel
theorem v_throwG {Qc : Array Value → State → Outcome → State → Prop} {E text : String} {ik is ic : Nat} (X : v_C p s m av.toArray c cc RX3 Ts nL D cl tys (va_A w0 s.heap.size)) (T : v_T l s meth c (va_A w0 s.heap.size)) (hE : v_EL E ik ic) (hk : Cond.classLink RX3 ik E ∈ Ts) (hini : Cond.initialized E ∈ Ts) (hat : ∀ w ∈ (vx_atS RX3 ic E v_nm).filter goodWord, w ∈ Ts) (hstr : (is, text) ∈ v_strs)
    (d0 : decode cc pc = .ok (.new ik, 3)) (d3 : decode cc (pc + 3) = .ok (.dup, 1)) (d4 : decode cc (pc + 4) = .ok (.ldc is, 2)) (d6 : decode cc (pc + 6) = .ok (.invokespecial ic, 3)) (d9 : decode cc (pc + 9) = .ok (.athrow, 1))
    (hxo : xo = some E) (hw : w = w0) (hR : 6 ≤ R.frames ∧ (st.map fun v => v.category).sum + 82 ≤ R.locals ∧ cells + 1 ≤ R.cells ∧ slots + 6 ≤ R.slots) (hc : cells + 1 ≤ rm.cells) (hs : slots + 6 ≤ rm.slots) :
    v_V p l e R s m av.toArray below meth c D cl (va_A w0 s.heap.size) nL (vx_MQ below Qc (v_XC D cl tys w0 s.heap.size xo) av.toArray s rm.cells rm.slots (va_A w0 s.heap.size)) cells slots w pc lv st := by
  intro H locs ls hP hD hS hl
  subst hw
  obtain ⟨hEf, hgood, hng, hEm⟩ := hE
  obtain ⟨hlt, hXW, htab, hlocks⟩ := T
  obtain ⟨sa, hsa⟩ := hXW.2.2.1 _ hstr
  have hcast : (Cond.castable E E).before av.toArray s = true := va_Nw.use rfl (hXW.2.2.2.1 E hEm)
  refine vx_throwS (A := va_A w s.heap.size) (text := text) (is := is) (sa := sa) X.1 X.2.1 hlt X.2.2.1 hEf v_nmok (X.2.2.2.1 _ hk) (X.2.2.2.1 _ hini) hsa (vx_hat (fun w hw => X.2.2.2.1 _ (hat w hw)) hng (vx_c hcast (fun w hw => by
    obtain ⟨Y, hY, rfl⟩ := List.mem_map.mp hw
    exact va_Nw.use rfl (hXW.2.2.2.2.1 Y hY)))) hgood hXW.1 hXW.2.1 hS (hl.1.trans X.2.2.2.2.1.symm) d0 d3 d4 d6 d9 (fun x hx => (htab x hx).elim) ?_ ?_ hR.2.2.1 hR.2.2.2 hlocks ?_ hS.2.2 hc hs
  · show 2 + 3 < R.frames
    exact hR.1
  · exact hR.2.1
  · intro t hal hz hk
    refine ⟨(), trivial, ⟨hxo, hP.kept (fun k q hq => hk q.1 (hP k q hq).lt), va_K.moved hal X.2.2.2.2.2.1, hD⟩, Nat.le_trans hS.1 hz, fun q h1 h2 => ?_⟩
    rw [hk q (Nat.lt_of_lt_of_le h1 hS.1)]
    exact hS.2.1 q h1 h2
/-- a thrown E is under way at pc -/
def v_VX (p : Program) (l : Launch) (e : Env) (R : Room) (s : State) (m : MethodId) (args : Array Value) (below : List Frame) (meth : Method) (c : Code) (D : va_G) (cl : List vw_C) (A : Nat → Prop) (nL : Nat) (Q : State → Prop) (cells slots : Nat) (w : va_W) (pc : Nat) (lv : List (Nat × Value)) (st : List Value) (E : String) (q9 : Nat) : Prop :=
  ∀ (H : Heap) (locs : List Loc) (ls : Array Slot) (ce : Cell), va_P D cl w H → va_D A w → va_S A s.heap H locs → lv_has ls nL lv → H[q9]? = some ce → ce.vm = .none → s.vm.findClass E = some ce.cls → vx_W p l e R s m args below meth c H locs cells slots Q (F0 m pc ls st) q9
theorem v_outG {Qc : Array Value → State → Outcome → State → Prop} {E : String} {q9 : Nat} (X : v_C p s m av.toArray c cc own Ts nL D cl tys (va_A w0 s.heap.size)) (T : v_T l s meth c (va_A w0 s.heap.size)) (hxo : xo = some E) (hw : w = w0) (hc : cells ≤ rm.cells) (hs : slots ≤ rm.slots) :
    v_VX p l e R s m av.toArray below meth c D cl (va_A w0 s.heap.size) nL (vx_MQ below Qc (v_XC D cl tys w0 s.heap.size xo) av.toArray s rm.cells rm.slots (va_A w0 s.heap.size)) cells slots w pc lv st E q9 := by
  intro H locs ls ce hP hD hS hl hce hcv hcl
  subst hw
  refine vx_out (fun x hx => (T.2.2.1 x hx).elim) T.2.2.2 hce hcv hcl (fun t ht hal => ?_) hS.2.2 hc hs
  exact ⟨(), trivial, ⟨hxo, by rw [ht]; exact hP, va_K.moved hal X.2.2.2.2.2.1, hD⟩, hS.F ht⟩
theorem v_catch {E name : String} {q9 : Nat} {pre suf : List ExceptionTableEntry} {z : ExceptionTableEntry} (X : v_C p s m args c cc own Ts nL D cl tys A) (htab : c.exceptionTable.toList = pre ++ z :: suf) (hpass : ∀ y ∈ pre, covers y pc = false ∨ (y.catchType ≠ 0 ∧ ∃ nm : String, (Cond.classLink own y.catchType nm).before args s = true ∧ va_Nc E nm s)) (hz : covers z pc = true) (h0 : z.catchType ≠ 0) (hlink : Cond.classLink own z.catchType name ∈ Ts) (hcast : va_Nw (.castable E name) s)
    (k : v_V p l e R s m args below meth c D cl A nL Q cells slots w z.handlerPc lv [.ref q9]) : v_VX p l e R s m args below meth c D cl A nL Q cells slots w pc lv st E q9 := by
  intro H locs ls ce hP hD hS hl hce hcv hcl
  exact vx_catch X.2.2.1 pre z suf htab hpass hz h0 (X.2.2.2.1 _ hlink) (va_Nw.use rfl hcast) hce hcv hcl (k H locs ls hP hD hS hl)
theorem v_blindX {sz : Nat} : FrameBlind (v_Pc D cl tys av w sz) :=
  fun a U g mk q => ⟨q.1, q.2.1, q.2.2.1, va_K.moved (u := U) (U := U.calling g mk a) (Vm.Alike.refl U.vm) q.2.2.2.1, q.2.2.2.2.1, q.2.2.2.2.2.calling⟩
theorem v_preX {H : Heap} {locs : List Loc} (X : v_C p s m args c cc own Ts nL D cl tys A) (hXW : v_XW A s) (hS : va_S A s.heap H locs) (hP : va_P D cl w H) (hD : va_D A w) (hF : ∀ q, va_A w H.size q → A q) (U : State) (hU : U.heap = H) (hW : s.WarmedH U.vm) : v_Pc D cl tys av w H.size av.toArray U :=
  ⟨rfl, by rw [hU], by rw [hU]; exact hP, va_K.moved hW.alike X.2.2.2.2.2.1, hD.weaken (fun _ _ _ _ => trivial), hXW.to hS hU hW hF⟩
/-- calls of methods that may throw -/
theorem v_xcallVi (X : v_C p s m args c cc own Ts nL D cl tys A) (hXW : v_XW A s) (hM : v_Xi l D cl tys y ws rm (.ref b :: As) w xc r w') (cw : CallW R s args own C index y bytes maxL ret ws rm rm.cells rm.slots n)
    (q0 ci : Nat) {q : vw_C} {fs : List Value} (hcl : cl[ci]? = some q) (hqC : q.1 = C) (he : w[q0]? = some (b, .inr (ci, fs))) (hn : As.length = n) (hst : st = As.reverse ++ .ref b :: rest) (hroom : (rest.map fun v => v.category).sum ≤ 8) (hdg : decode cc pc = .ok (.invokevirtual index, 3)) (hf : cells + rm.cells ≤ R.cells ∧ slots + rm.slots ≤ R.slots)
    (kx : ∀ (E : String) (q9 : Nat), xc = some E → v_VX p l e R s m args below meth c D cl A nL Q (cells + rm.cells) (slots + rm.slots) w pc lv rest E q9)
    (kk : xc = none → v_V p l e R s m args below meth c D cl A nL Q (cells + rm.cells) (slots + rm.slots) w' (pc + 3) lv (.int r :: rest)) : v_V p l e R s m args below meth c D cl A nL Q cells slots w pc lv st := by
  intro H locs ls hP hD hS hl
  subst hst hqC
  have hFc := v_fr0 X hD hS
  refine vx_calli (vx_runV (As := As) (rest := rest) ⟨X.1, X.2.1, X.2.2.2.2.1, X.2.2.1, X.2.2.2.1⟩ (hM H.size) cw ⟨v_blindX, va_recv X.2.2.2.2.2.1 hP hcl he, v_preX X hXW hS hP hD hFc⟩ rfl hn hl.1 rfl (lv_room hroom) hdg hf) hS (fun q _ h => hFc q h) hFc (fun q _ h => hFc q h) (fun E ce q9 u t H1 locs1 ht hvm hpx hB hz1 hk1 hS1 hce hcv hfc => ?_) (fun r' u t H1 locs1 ht hvm hw hB hz1 hk1 hS1 => ?_)
  · obtain ⟨hx, hP1, hK1, hD1⟩ := hB
    rw [ht] at hP1
    exact kx E q9 hx H1 locs1 ls ce hP1 hD hS1 hl hce hcv hfc
  · obtain ⟨hP1, hK1, hD1⟩ := hB
    rw [ht] at hP1
    obtain ⟨hx, rfl⟩ := hw
    exact kk hx H1 locs1 ls hP1 (hD1.weaken (fun _ q _ h => hFc q.1 h)) hS1 hl
theorem v_xcallVv (X : v_C p s m args c cc own Ts nL D cl tys A) (hXW : v_XW A s) (hM : v_Xv l D cl tys y ws rm (.ref b :: As) w xc w') (cw : CallW R s args own C index y bytes maxL ret ws rm rm.cells rm.slots n)
    (q0 ci : Nat) {q : vw_C} {fs : List Value} (hcl : cl[ci]? = some q) (hqC : q.1 = C) (he : w[q0]? = some (b, .inr (ci, fs))) (hn : As.length = n) (hst : st = As.reverse ++ .ref b :: rest) (hroom : (rest.map fun v => v.category).sum ≤ 8) (hdg : decode cc pc = .ok (.invokevirtual index, 3)) (hf : cells + rm.cells ≤ R.cells ∧ slots + rm.slots ≤ R.slots)
    (kx : ∀ (E : String) (q9 : Nat), xc = some E → v_VX p l e R s m args below meth c D cl A nL Q (cells + rm.cells) (slots + rm.slots) w pc lv rest E q9)
    (kk : xc = none → v_V p l e R s m args below meth c D cl A nL Q (cells + rm.cells) (slots + rm.slots) w' (pc + 3) lv rest) : v_V p l e R s m args below meth c D cl A nL Q cells slots w pc lv st := by
  intro H locs ls hP hD hS hl
  subst hst hqC
  have hFc := v_fr0 X hD hS
  refine vx_callv (vx_runV (As := As) (rest := rest) ⟨X.1, X.2.1, X.2.2.2.2.1, X.2.2.1, X.2.2.2.1⟩ (hM H.size) cw ⟨v_blindX, va_recv X.2.2.2.2.2.1 hP hcl he, v_preX X hXW hS hP hD hFc⟩ rfl hn hl.1 rfl (lv_room hroom) hdg hf) hS (fun q _ h => hFc q h) hFc (fun q _ h => hFc q h) (fun E ce q9 u t H1 locs1 ht hvm hpx hB hz1 hk1 hS1 hce hcv hfc => ?_) (fun u t H1 locs1 ht hvm hw hB hz1 hk1 hS1 => ?_)
  · obtain ⟨hx, hP1, hK1, hD1⟩ := hB
    rw [ht] at hP1
    exact kx E q9 hx H1 locs1 ls ce hP1 hD hS1 hl hce hcv hfc
  · obtain ⟨hP1, hK1, hD1⟩ := hB
    rw [ht] at hP1
    exact kk hw H1 locs1 ls hP1 (hD1.weaken (fun _ q _ h => hFc q.1 h)) hS1 hl
/-- .. the callee's cells are a part -/
theorem v_xcallVic (X : v_C p s m args c cc own Ts nL D cl tys A) (hXW : v_XW A s) (hM : v_Xi l D cl tys y ws rm (.ref b :: As) wc xc r wc') (cw : CallW R s args own C index y bytes maxL ret ws rm rm.cells rm.slots n) (isC isR perm : List Nat) (hcut : v_cut w wc wr wc' w' isC isR perm) (hcut0 : v_cut w wc wr wc w isC isR perm)
    (q0 ci : Nat) {q : vw_C} {fs : List Value} (hcl : cl[ci]? = some q) (hqC : q.1 = C) (he : wc[q0]? = some (b, .inr (ci, fs))) (hn : As.length = n) (hst : st = As.reverse ++ .ref b :: rest) (hroom : (rest.map fun v => v.category).sum ≤ 8) (hdg : decode cc pc = .ok (.invokevirtual index, 3)) (hf : cells + rm.cells ≤ R.cells ∧ slots + rm.slots ≤ R.slots)
    (kx : ∀ (E : String) (q9 : Nat), xc = some E → v_VX p l e R s m args below meth c D cl A nL Q (cells + rm.cells) (slots + rm.slots) w pc lv rest E q9)
    (kk : xc = none → v_V p l e R s m args below meth c D cl A nL Q (cells + rm.cells) (slots + rm.slots) w' (pc + 3) lv (.int r :: rest)) : v_V p l e R s m args below meth c D cl A nL Q cells slots w pc lv st := by
  intro H locs ls hP hD hS hl
  subst hst hqC
  obtain ⟨hC, hR, hnC, hnR, hdis, hj, hnj⟩ := hcut
  have hPc := hP.sub (ws' := wc) isC (v_fm hC)
  have hDc := hD.sub (ws' := wc) isC hnC hC
  have hFc := va_free (wc := wc) hD hS X.2.2.2.2.2.2 isC hC
  refine vx_calli (vx_runV (As := As) (rest := rest) ⟨X.1, X.2.1, X.2.2.2.2.1, X.2.2.1, X.2.2.2.1⟩ (hM H.size) cw ⟨v_blindX, va_recv X.2.2.2.2.2.1 hPc hcl he, v_preX X hXW hS hPc hDc hFc⟩ rfl hn hl.1 rfl (lv_room hroom) hdg hf) hS (fun q _ h => hFc q h) hFc (fun q _ h => hFc q h) (fun E ce q9 u t H1 locs1 ht hvm hpx hB hz1 hk1 hS1 hce hcv hfc => ?_) (fun r' u t H1 locs1 ht hvm hw hB hz1 hk1 hS1 => ?_)
  · obtain ⟨hx, hP1, hK1, hD1⟩ := hB
    rw [ht] at hP1
    obtain ⟨hP2, hD2⟩ := va_join (wr := wr) (w1 := wc) hP hD isC isR hC hR hnR hdis hk1 hFc hP1 hD1
    exact kx E q9 hx H1 locs1 ls ce (hP2.sub perm (v_fm hcut0.2.2.2.2.2.1)) hD hS1 hl hce hcv hfc
  · obtain ⟨hP1, hK1, hD1⟩ := hB
    rw [ht] at hP1
    obtain ⟨hx, rfl⟩ := hw
    obtain ⟨hP2, hD2⟩ := va_join (wr := wr) (w1 := wc') hP hD isC isR hC hR hnR hdis hk1 hFc hP1 hD1
    exact kk hx H1 locs1 ls (hP2.sub perm (v_fm hj)) (hD2.sub perm hnj hj) hS1 hl
theorem v_xcallVvc (X : v_C p s m args c cc own Ts nL D cl tys A) (hXW : v_XW A s) (hM : v_Xv l D cl tys y ws rm (.ref b :: As) wc xc wc') (cw : CallW R s args own C index y bytes maxL ret ws rm rm.cells rm.slots n) (isC isR perm : List Nat) (hcut : v_cut w wc wr wc' w' isC isR perm) (hcut0 : v_cut w wc wr wc w isC isR perm)
    (q0 ci : Nat) {q : vw_C} {fs : List Value} (hcl : cl[ci]? = some q) (hqC : q.1 = C) (he : wc[q0]? = some (b, .inr (ci, fs))) (hn : As.length = n) (hst : st = As.reverse ++ .ref b :: rest) (hroom : (rest.map fun v => v.category).sum ≤ 8) (hdg : decode cc pc = .ok (.invokevirtual index, 3)) (hf : cells + rm.cells ≤ R.cells ∧ slots + rm.slots ≤ R.slots)
    (kx : ∀ (E : String) (q9 : Nat), xc = some E → v_VX p l e R s m args below meth c D cl A nL Q (cells + rm.cells) (slots + rm.slots) w pc lv rest E q9)
    (kk : xc = none → v_V p l e R s m args below meth c D cl A nL Q (cells + rm.cells) (slots + rm.slots) w' (pc + 3) lv rest) : v_V p l e R s m args below meth c D cl A nL Q cells slots w pc lv st := by
  intro H locs ls hP hD hS hl
  subst hst hqC
  obtain ⟨hC, hR, hnC, hnR, hdis, hj, hnj⟩ := hcut
  have hPc := hP.sub (ws' := wc) isC (v_fm hC)
  have hDc := hD.sub (ws' := wc) isC hnC hC
  have hFc := va_free (wc := wc) hD hS X.2.2.2.2.2.2 isC hC
  refine vx_callv (vx_runV (As := As) (rest := rest) ⟨X.1, X.2.1, X.2.2.2.2.1, X.2.2.1, X.2.2.2.1⟩ (hM H.size) cw ⟨v_blindX, va_recv X.2.2.2.2.2.1 hPc hcl he, v_preX X hXW hS hPc hDc hFc⟩ rfl hn hl.1 rfl (lv_room hroom) hdg hf) hS (fun q _ h => hFc q h) hFc (fun q _ h => hFc q h) (fun E ce q9 u t H1 locs1 ht hvm hpx hB hz1 hk1 hS1 hce hcv hfc => ?_) (fun u t H1 locs1 ht hvm hw hB hz1 hk1 hS1 => ?_)
  · obtain ⟨hx, hP1, hK1, hD1⟩ := hB
    rw [ht] at hP1
    obtain ⟨hP2, hD2⟩ := va_join (wr := wr) (w1 := wc) hP hD isC isR hC hR hnR hdis hk1 hFc hP1 hD1
    exact kx E q9 hx H1 locs1 ls ce (hP2.sub perm (v_fm hcut0.2.2.2.2.2.1)) hD hS1 hl hce hcv hfc
  · obtain ⟨hP1, hK1, hD1⟩ := hB
    rw [ht] at hP1
    obtain ⟨hP2, hD2⟩ := va_join (wr := wr) (w1 := wc') hP hD isC isR hC hR hnR hdis hk1 hFc hP1 hD1
    exact kk hw H1 locs1 ls (hP2.sub perm (v_fm hj)) (hD2.sub perm hnj hj) hS1 hl
theorem v_xcallSv0 (X : v_C p s m args c cc own Ts nL D cl tys A) (hXW : v_XW A s) (hM : v_Xv l D cl tys y ws rm As [] xc []) (cw : CallB R s args own index y bytes maxL ret ws rm rm.cells rm.slots n ∧ (Cond.static y).before args s = true)
    (hn : As.length = n) (hst : st = As.reverse ++ rest) (hroom : (rest.map fun v => v.category).sum ≤ 8) (hdg : decode cc pc = .ok (.invokestatic index, 3)) (hf : cells + rm.cells ≤ R.cells ∧ slots + rm.slots ≤ R.slots)
    (kx : ∀ (E : String) (q9 : Nat), xc = some E → v_VX p l e R s m args below meth c D cl A nL Q (cells + rm.cells) (slots + rm.slots) w pc lv rest E q9)
    (kk : xc = none → v_V p l e R s m args below meth c D cl A nL Q (cells + rm.cells) (slots + rm.slots) w (pc + 3) lv rest) : v_V p l e R s m args below meth c D cl A nL Q cells slots w pc lv st := by
  intro H locs ls hP hD hS hl
  subst hst
  have hP0 : va_P D cl [] H := fun k q h => by simp at h
  have hD0 : va_D A [] := ⟨fun i j p q h => by simp at h, fun k q h => by simp at h⟩
  have hFc : ∀ q, va_A [] H.size q → A q := v_fr0 X hD0 hS
  have hst : ∀ H1 : Heap, (∀ q : Nat, q < H.size → ¬ va_A [] H.size q → H1[q]? = H[q]?) → va_P D cl w H1 := fun H1 hk1 => hP.kept (fun k q hk => hk1 q.1 (hP k q hk).lt (fun h => by
    rcases h with ⟨k2, e2, h⟩ | h
    · simp at h
    · exact absurd (hP k q hk).lt (Nat.not_lt.mpr h)))
  refine vx_callv (vx_runS (As := As) (rest := rest) ⟨X.1, X.2.1, X.2.2.2.2.1, X.2.2.1, X.2.2.2.1⟩ (hM H.size) cw ⟨v_blindX, v_preX X hXW hS hP0 hD0 hFc⟩ rfl hn hl.1 rfl (lv_room hroom) hdg hf) hS (fun q _ h => hFc q h) hFc (fun q _ h => hFc q h) (fun E ce q9 u t H1 locs1 ht hvm hpx hB hz1 hk1 hS1 hce hcv hfc => ?_) (fun u t H1 locs1 ht hvm hw hB hz1 hk1 hS1 => ?_)
  · exact kx E q9 hB.1 H1 locs1 ls ce (hst H1 hk1) hD hS1 hl hce hcv hfc
  · exact kk hw H1 locs1 ls (hst H1 hk1) hD hS1 hl
end VX6
end
