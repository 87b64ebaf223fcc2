theorem nz_else {C : Prop} [Decidable C] {x : Int32} (h : ¬ (if C then 0 else x) = 0) : ¬ C ∧ ¬ x = 0 := by
  by_cases hc : C
  · rw [if_pos hc] at h; exact absurd rfl h
  · rw [if_neg hc] at h; exact ⟨hc, h⟩
theorem nz_then {C : Prop} [Decidable C] {x : Int32} (h : ¬ (if C then x else 0) = 0) : C ∧ ¬ x = 0 := by
  by_cases hc : C
  · rw [if_pos hc] at h; exact ⟨hc, h⟩
  · rw [if_neg hc] at h; exact absurd rfl h
theorem cm_of {S' S : St} (e : S' 0 10 = S 0 10) (h : cntM S) : cntM S' := by unfold cntM; rw [e]; exact h
section MRGN
variable {p : Program} {l : Launch} {e : Env} {R : Room} {s : State} {m : MethodId} {args : Array Value} {below : List Frame} {meth : Method} {c : Code} {nL : Nat} {D : va_G} {cl : List vw_C} {A : Nat → Prop} {Q : State → Prop} {cells slots : Nat} {w : va_W} {pc : Nat} {lv : List (Nat × Value)} {st : List Value}
theorem v_mrgn {T : Int32} (J : Nat) (stJ : List Value) (h1 : (∀ v, v = T → v_V p l e R s m args below meth c D cl A nL Q cells slots w J lv (.int v :: stJ)) → v_V p l e R s m args below meth c D cl A nL Q cells slots w pc lv st) (h2 : ∀ v, v = T → v_V p l e R s m args below meth c D cl A nL Q cells slots w J lv (.int v :: stJ)) : v_V p l e R s m args below meth c D cl A nL Q cells slots w pc lv st := h1 h2
end MRGN
theorem cntM_lt {S : St} (hc : cntM S) (h : ¬ (30 : Int32) ≤ S 0 10) : vp_in (S 0 10) 30 := by
  rw [vp_in_iff]
  simp only [Int32.le_iff_toInt_le] at h
  have h9 : (30 : Int32).toInt = 30 := by decide
  have := hc.1
  omega
def r_X4_in (p0 p1 p2 : Int32) : Int32 :=
  (if p0 < p1 then 0 else (if p2 < p0 then 0 else 1))
theorem b_X4_in (p0 p1 p2 : Int32) : (r_X4_in p0 p1 p2) = 0 ∨ (r_X4_in p0 p1 p2) = 1 := by
  unfold r_X4_in
  (try dsimp only)
  repeat' split
  all_goals first | exact Or.inl rfl | exact Or.inr rfl
set_option maxHeartbeats 1000000 in
set_option maxRecDepth 100000 in
theorem c_X4_in (l : Launch) (D : va_G) (cI cII cL : ClassId) (p0 p1 p2 : Int32) : v_Mi l D vwCl (tyl cI cII cL) yX4_in wsX4_in { frames := 0, cells := 0, slots := 0, locals := 0 } [.int p0, .int p1, .int p2] [] (r_X4_in p0 p1 p2) [] := by
  refine v_ofMi (cc := cX4_in) (maxL := 3) (ret := (some .boolean)) (own := RX4) (lv0 := [(0, .int p0), (1, .int p1), (2, .int p2)]) (by decide) rfl rfl rfl (Nat.le_of_ble_eq_true rfl) ?_
  intro p e s m below meth c X hr hk hin
  refine v_iload_n X dX4_in_0 rfl ?_
  refine v_iload_n X dX4_in_1 rfl ?_
  refine v_icmp_lt (tgt := 14) X dX4_in_2 (by decide) (fun c_1 => ?_) (fun c_1 => ?_)
  · refine v_iconst (x := 0) X dX4_in_14 rfl ?_
    exact v_reti X hr hk rfl (by unfold r_X4_in; rw [if_pos c_1]) rfl (Nat.le_of_ble_eq_true rfl) (Nat.le_of_ble_eq_true rfl) dX4_in_15
  · refine v_iload_n X dX4_in_5 rfl ?_
    refine v_iload_n X dX4_in_6 rfl ?_
    refine v_icmp_gt (tgt := 14) X dX4_in_7 (by decide) (fun c_2 => ?_) (fun c_2 => ?_)
    · refine v_iconst (x := 0) X dX4_in_14 rfl ?_
      exact v_reti X hr hk rfl (by unfold r_X4_in; rw [if_neg c_1, if_pos c_2]) rfl (Nat.le_of_ble_eq_true rfl) (Nat.le_of_ble_eq_true rfl) dX4_in_15
    · refine v_iconst (x := 1) X dX4_in_10 rfl ?_
      refine v_goto (tgt := 15) X dX4_in_11 (by decide) ?_
      exact v_reti X hr hk rfl (by unfold r_X4_in; rw [if_neg c_1, if_neg c_2]) rfl (Nat.le_of_ble_eq_true rfl) (Nat.le_of_ble_eq_true rfl) dX4_in_15

def r_X4_isPlayer (p0 : Int32) : Int32 :=
  (r_X4_in p0 0 4)
theorem b_X4_isPlayer (p0 : Int32) : (r_X4_isPlayer p0) = 0 ∨ (r_X4_isPlayer p0) = 1 := by
  unfold r_X4_isPlayer
  (try dsimp only)
  repeat' split
  all_goals first | exact Or.inl rfl | exact Or.inr rfl | exact b_X4_in _ _ _
set_option maxHeartbeats 1000000 in
set_option maxRecDepth 100000 in
theorem c_X4_isPlayer (l : Launch) (D : va_G) (cI cII cL : ClassId) (p0 : Int32) : v_Mi l D vwCl (tyl cI cII cL) yX4_isPlayer wsX4_isPlayer { frames := 1, cells := 0, slots := 0, locals := 22 } [.int p0] [] (r_X4_isPlayer p0) [] := by
  refine v_ofMi (cc := cX4_isPlayer) (maxL := 1) (ret := (some .boolean)) (own := RX4) (lv0 := [(0, .int p0)]) (by decide) rfl rfl rfl (Nat.le_of_ble_eq_true rfl) ?_
  intro p e s m below meth c X hr hk hin
  refine v_iload_n X dX4_isPlayer_0 rfl ?_
  refine v_iconst (x := 0) X dX4_isPlayer_1 rfl ?_
  refine v_iconst (x := 4) X dX4_isPlayer_2 rfl ?_
  refine v_callSi0 (As := [.int p0, .int 0, .int 4]) (rest := []) X (c_X4_in l D cI cII cL p0 0 4) (cwS 3 X.2.2.2.1 gX4_isPlayer_X4_in rfl rfl rfl (by decide +kernel) ⟨Nat.le_of_ble_eq_true rfl, Nat.le_of_ble_eq_true rfl⟩) rfl rfl (Nat.le_of_ble_eq_true rfl) dX4_isPlayer_3 ⟨Nat.le_of_ble_eq_true rfl, Nat.le_of_ble_eq_true rfl⟩ ?_
  exact v_reti X hr hk (narrow_b (b_X4_in _ _ _)) (by unfold r_X4_isPlayer; rfl) rfl (Nat.le_of_ble_eq_true rfl) (Nat.le_of_ble_eq_true rfl) dX4_isPlayer_6

def r_X4_isKind (p0 : Int32) : Int32 :=
  (r_X4_in p0 0 7)
theorem b_X4_isKind (p0 : Int32) : (r_X4_isKind p0) = 0 ∨ (r_X4_isKind p0) = 1 := by
  unfold r_X4_isKind
  (try dsimp only)
  repeat' split
  all_goals first | exact Or.inl rfl | exact Or.inr rfl | exact b_X4_in _ _ _
set_option maxHeartbeats 1000000 in
set_option maxRecDepth 100000 in
theorem c_X4_isKind (l : Launch) (D : va_G) (cI cII cL : ClassId) (p0 : Int32) : v_Mi l D vwCl (tyl cI cII cL) yX4_isKind wsX4_isKind { frames := 1, cells := 0, slots := 0, locals := 22 } [.int p0] [] (r_X4_isKind p0) [] := by
  refine v_ofMi (cc := cX4_isKind) (maxL := 1) (ret := (some .boolean)) (own := RX4) (lv0 := [(0, .int p0)]) (by decide) rfl rfl rfl (Nat.le_of_ble_eq_true rfl) ?_
  intro p e s m below meth c X hr hk hin
  refine v_iload_n X dX4_isKind_0 rfl ?_
  refine v_iconst (x := 0) X dX4_isKind_1 rfl ?_
  refine v_bipush (x := 7) X dX4_isKind_2 rfl ?_
  refine v_callSi0 (As := [.int p0, .int 0, .int 7]) (rest := []) X (c_X4_in l D cI cII cL p0 0 7) (cwS 3 X.2.2.2.1 gX4_isKind_X4_in rfl rfl rfl (by decide +kernel) ⟨Nat.le_of_ble_eq_true rfl, Nat.le_of_ble_eq_true rfl⟩) rfl rfl (Nat.le_of_ble_eq_true rfl) dX4_isKind_4 ⟨Nat.le_of_ble_eq_true rfl, Nat.le_of_ble_eq_true rfl⟩ ?_
  exact v_reti X hr hk (narrow_b (b_X4_in _ _ _)) (by unfold r_X4_isKind; rfl) rfl (Nat.le_of_ble_eq_true rfl) (Nat.le_of_ble_eq_true rfl) dX4_isKind_7

theorem in_rng {x a b : Int32} (h : ¬ r_X4_in x a b = 0) : a.toInt ≤ x.toInt ∧ x.toInt ≤ b.toInt := by
  unfold r_X4_in at h
  split at h
  · exact absurd rfl h
  · split at h
    · exact absurd rfl h
    · rename_i h1 h2
      simp only [Int32.lt_iff_toInt_lt, Int32.le_iff_toInt_le] at h1 h2
      omega
theorem isPlayer_in {x : Int32} (h : ¬ r_X4_isPlayer x = 0) : vp_in x 5 := by
  have := in_rng (x := x) h
  rw [vp_in_iff]
  have e0 : (0 : Int32).toInt = 0 := by decide
  have e1 : (4 : Int32).toInt = 4 := by decide
  omega
theorem isKind_in {x : Int32} (h : ¬ r_X4_isKind x = 0) : vp_in x 8 := by
  have := in_rng (x := x) h
  rw [vp_in_iff]
  have e0 : (0 : Int32).toInt = 0 := by decide
  have e1 : (7 : Int32).toInt = 7 := by decide
  omega

def r_X4_thrown (S : St) : Int32 :=
  (S 0 16)
set_option maxHeartbeats 1000000 in
set_option maxRecDepth 100000 in
theorem c_X4_thrown (l : Launch) (D : va_G) (cI cII cL : ClassId) (h : Nat → Nat) (S : St) : v_Mi l D vwCl (tyl cI cII cL) yX4_thrown wsX4_thrown { frames := 0, cells := 0, slots := 0, locals := 0 } [.ref (h 0)] (wM h cI S) (r_X4_thrown S) (wM h cI S) := by
  refine v_ofMi (cc := cX4_thrown) (maxL := 1) (ret := (some .int)) (own := RX4) (lv0 := [(0, .ref (h 0))]) (by decide) rfl rfl rfl (Nat.le_of_ble_eq_true rfl) ?_
  intro p e s m below meth c X hr hk hin
  have iX4 : ∀ w ∈ wsX40, w ∈ wsX4_thrown := by decide +kernel
  refine v_aload_n X dX4_thrown_0 rfl ?_
  refine v_getfield (ref := "TrumpvaultModel") (ci := 4) (index := 50) (v := .int (S 0 16)) X iX4 0 wM_g0 rfl 16 (by decide) (by decide +kernel) (fun _ h9 => h9) rfl dX4_thrown_1 ?_
  exact v_reti X hr hk rfl (by unfold r_X4_thrown; rfl) rfl (Nat.le_of_ble_eq_true rfl) (Nat.le_of_ble_eq_true rfl) dX4_thrown_4

def r_X4_asked (S : St) (p1 : Int32) : Int32 :=
  p1
def s_X4_asked (S : St) (p1 : Int32) : St :=
  (sU S 0 16 (if p1 = 0 then 1 else 0 : Int32))
theorem b_X4_asked (S : St) (p1 : Int32) (h : p1 = 0 ∨ p1 = 1) : (r_X4_asked S p1) = 0 ∨ (r_X4_asked S p1) = 1 := h
set_option maxHeartbeats 1000000 in
set_option maxRecDepth 100000 in
theorem c_X4_asked (l : Launch) (D : va_G) (cI cII cL : ClassId) (h : Nat → Nat) (S : St) (p1 : Int32) (b1 : p1 = 0 ∨ p1 = 1) : v_Mi l D vwCl (tyl cI cII cL) yX4_asked wsX4_asked { frames := 0, cells := 0, slots := 0, locals := 0 } [.ref (h 0), .int p1] (wM h cI S) (r_X4_asked S p1) (wM h cI (s_X4_asked S p1)) := by
  refine v_ofMi (cc := cX4_asked) (maxL := 2) (ret := (some .boolean)) (own := RX4) (lv0 := [(0, .ref (h 0)), (1, .int p1)]) (by decide) rfl rfl rfl (Nat.le_of_ble_eq_true rfl) ?_
  intro p e s m below meth c X hr hk hin
  have iX4 : ∀ w ∈ wsX40, w ∈ wsX4_asked := by decide +kernel
  refine v_aload_n X dX4_asked_0 rfl ?_
  refine v_iload_n X dX4_asked_1 rfl ?_
  refine v_mrg (T := (if p1 = 0 then 1 else 0 : Int32)) 10 [.ref (h 0)] (fun hJ1 => ?_) ?_
  · refine v_if_eq (tgt := 9) X dX4_asked_2 (by decide) (fun c_1 => ?_) (fun c_1 => ?_)
    · refine v_iconst (x := 1) X dX4_asked_9 rfl ?_
      exact hJ1 _ (by rw [if_pos c_1])
    · refine v_iconst (x := 0) X dX4_asked_5 rfl ?_
      refine v_goto (tgt := 10) X dX4_asked_6 (by decide) ?_
      exact hJ1 _ (by rw [if_neg c_1])
  · refine v_putfield (w' := (wM h cI (sU S 0 16 (if p1 = 0 then 1 else 0 : Int32)))) (ref := "TrumpvaultModel") (ci := 4) (index := 50) (ty := .int) X iX4 tyX4 tyX4_ok nmX4 0 wM_g0 rfl 16 (by decide) (by decide +kernel) (fun _ h9 => h9) rfl (by decide +kernel) rfl rfl (Nat.le_of_ble_eq_true rfl) dX4_asked_10 wM_f0_16 ?_
    refine v_iload_n X dX4_asked_13 rfl ?_
    exact v_reti X hr hk (narrow_b b1) (by unfold r_X4_asked; rfl) (congrArg (fun z => (wM h cI z)) (by unfold s_X4_asked; rfl)) (Nat.le_of_ble_eq_true rfl) (Nat.le_of_ble_eq_true rfl) dX4_asked_14

def r_X4_asked_ (S : St) (p1 p2 : Int32) : Int32 :=
  (if ((sU S 0 16 (if p1 = 0 then 1 else (if p2 = 0 then 2 else 0) : Int32)) 0 16) = 0 then 1 else 0)
def s_X4_asked_ (S : St) (p1 p2 : Int32) : St :=
  (if ((sU S 0 16 (if p1 = 0 then 1 else (if p2 = 0 then 2 else 0) : Int32)) 0 16) = 0 then (sU S 0 16 (if p1 = 0 then 1 else (if p2 = 0 then 2 else 0) : Int32)) else (sU S 0 16 (if p1 = 0 then 1 else (if p2 = 0 then 2 else 0) : Int32)))
theorem b_X4_asked_ (S : St) (p1 p2 : Int32) : (r_X4_asked_ S p1 p2) = 0 ∨ (r_X4_asked_ S p1 p2) = 1 := by
  unfold r_X4_asked_
  (try dsimp only)
  repeat' split
  all_goals first | exact Or.inl rfl | exact Or.inr rfl
set_option maxHeartbeats 1000000 in
set_option maxRecDepth 100000 in
theorem c_X4_asked_ (l : Launch) (D : va_G) (cI cII cL : ClassId) (h : Nat → Nat) (S : St) (p1 p2 : Int32) : v_Mi l D vwCl (tyl cI cII cL) yX4_asked_ wsX4_asked_ { frames := 0, cells := 0, slots := 0, locals := 0 } [.ref (h 0), .int p1, .int p2] (wM h cI S) (r_X4_asked_ S p1 p2) (wM h cI (s_X4_asked_ S p1 p2)) := by
  refine v_ofMi (cc := cX4_asked_) (maxL := 3) (ret := (some .boolean)) (own := RX4) (lv0 := [(0, .ref (h 0)), (1, .int p1), (2, .int p2)]) (by decide) rfl rfl rfl (Nat.le_of_ble_eq_true rfl) ?_
  intro p e s m below meth c X hr hk hin
  have iX4 : ∀ w ∈ wsX40, w ∈ wsX4_asked_ := by decide +kernel
  refine v_aload_n X dX4_asked__0 rfl ?_
  refine v_iload_n X dX4_asked__1 rfl ?_
  refine v_mrg (T := (if p1 = 0 then 1 else (if p2 = 0 then 2 else 0) : Int32)) 18 [.ref (h 0)] (fun hJ1 => ?_) ?_
  · refine v_if_ne (tgt := 9) X dX4_asked__2 (by decide) (fun c_1 => ?_) (fun c_1 => ?_)
    · refine v_iload_n X dX4_asked__9 rfl ?_
      refine v_if_eq (tgt := 17) X dX4_asked__10 (by decide) (fun c_2 => ?_) (fun c_2 => ?_)
      · refine v_iconst (x := 2) X dX4_asked__17 rfl ?_
        exact hJ1 _ (by rw [if_neg c_1, if_pos c_2])
      · refine v_iconst (x := 0) X dX4_asked__13 rfl ?_
        refine v_goto (tgt := 18) X dX4_asked__14 (by decide) ?_
        exact hJ1 _ (by rw [if_neg c_1, if_neg c_2])
    · refine v_iconst (x := 1) X dX4_asked__5 rfl ?_
      refine v_goto (tgt := 18) X dX4_asked__6 (by decide) ?_
      exact hJ1 _ (by rw [if_pos c_1])
  · refine v_putfield (w' := (wM h cI (sU S 0 16 (if p1 = 0 then 1 else (if p2 = 0 then 2 else 0) : Int32)))) (ref := "TrumpvaultModel") (ci := 4) (index := 50) (ty := .int) X iX4 tyX4 tyX4_ok nmX4 0 wM_g0 rfl 16 (by decide) (by decide +kernel) (fun _ h9 => h9) rfl (by decide +kernel) rfl rfl (Nat.le_of_ble_eq_true rfl) dX4_asked__18 wM_f0_16 ?_
    refine v_aload_n X dX4_asked__21 rfl ?_
    refine v_getfield (ref := "TrumpvaultModel") (ci := 4) (index := 50) (v := .int ((sU S 0 16 (if p1 = 0 then 1 else (if p2 = 0 then 2 else 0) : Int32)) 0 16)) X iX4 0 wM_g0 rfl 16 (by decide) (by decide +kernel) (fun _ h9 => h9) rfl dX4_asked__22 ?_
    refine v_if_ne (tgt := 32) X dX4_asked__25 (by decide) (fun c_3 => ?_) (fun c_3 => ?_)
    · refine v_iconst (x := 0) X dX4_asked__32 rfl ?_
      exact v_reti X hr hk rfl (by unfold r_X4_asked_; rw [if_neg c_3]) (congrArg (fun z => (wM h cI z)) (by unfold s_X4_asked_; rw [if_neg c_3])) (Nat.le_of_ble_eq_true rfl) (Nat.le_of_ble_eq_true rfl) dX4_asked__33
    · refine v_iconst (x := 1) X dX4_asked__28 rfl ?_
      refine v_goto (tgt := 33) X dX4_asked__29 (by decide) ?_
      exact v_reti X hr hk rfl (by unfold r_X4_asked_; rw [if_pos c_3]) (congrArg (fun z => (wM h cI z)) (by unfold s_X4_asked_; rw [if_pos c_3])) (Nat.le_of_ble_eq_true rfl) (Nat.le_of_ble_eq_true rfl) dX4_asked__33

def r_X4_asked__ (S : St) (p1 p2 p3 : Int32) : Int32 :=
  (if ((sU S 0 16 (if p1 = 0 then 1 else (if p2 = 0 then 2 else (if p3 = 0 then 3 else 0)) : Int32)) 0 16) = 0 then 1 else 0)
def s_X4_asked__ (S : St) (p1 p2 p3 : Int32) : St :=
  (if ((sU S 0 16 (if p1 = 0 then 1 else (if p2 = 0 then 2 else (if p3 = 0 then 3 else 0)) : Int32)) 0 16) = 0 then (sU S 0 16 (if p1 = 0 then 1 else (if p2 = 0 then 2 else (if p3 = 0 then 3 else 0)) : Int32)) else (sU S 0 16 (if p1 = 0 then 1 else (if p2 = 0 then 2 else (if p3 = 0 then 3 else 0)) : Int32)))
theorem b_X4_asked__ (S : St) (p1 p2 p3 : Int32) : (r_X4_asked__ S p1 p2 p3) = 0 ∨ (r_X4_asked__ S p1 p2 p3) = 1 := by
  unfold r_X4_asked__
  (try dsimp only)
  repeat' split
  all_goals first | exact Or.inl rfl | exact Or.inr rfl
set_option maxHeartbeats 1000000 in
set_option maxRecDepth 100000 in
theorem c_X4_asked__ (l : Launch) (D : va_G) (cI cII cL : ClassId) (h : Nat → Nat) (S : St) (p1 p2 p3 : Int32) : v_Mi l D vwCl (tyl cI cII cL) yX4_asked__ wsX4_asked__ { frames := 0, cells := 0, slots := 0, locals := 0 } [.ref (h 0), .int p1, .int p2, .int p3] (wM h cI S) (r_X4_asked__ S p1 p2 p3) (wM h cI (s_X4_asked__ S p1 p2 p3)) := by
  refine v_ofMi (cc := cX4_asked__) (maxL := 4) (ret := (some .boolean)) (own := RX4) (lv0 := [(0, .ref (h 0)), (1, .int p1), (2, .int p2), (3, .int p3)]) (by decide) rfl rfl rfl (Nat.le_of_ble_eq_true rfl) ?_
  intro p e s m below meth c X hr hk hin
  have iX4 : ∀ w ∈ wsX40, w ∈ wsX4_asked__ := by decide +kernel
  refine v_aload_n X dX4_asked___0 rfl ?_
  refine v_iload_n X dX4_asked___1 rfl ?_
  refine v_mrg (T := (if p1 = 0 then 1 else (if p2 = 0 then 2 else (if p3 = 0 then 3 else 0)) : Int32)) 26 [.ref (h 0)] (fun hJ1 => ?_) ?_
  · refine v_if_ne (tgt := 9) X dX4_asked___2 (by decide) (fun c_1 => ?_) (fun c_1 => ?_)
    · refine v_iload_n X dX4_asked___9 rfl ?_
      refine v_if_ne (tgt := 17) X dX4_asked___10 (by decide) (fun c_2 => ?_) (fun c_2 => ?_)
      · refine v_iload_n X dX4_asked___17 rfl ?_
        refine v_if_eq (tgt := 25) X dX4_asked___18 (by decide) (fun c_3 => ?_) (fun c_3 => ?_)
        · refine v_iconst (x := 3) X dX4_asked___25 rfl ?_
          exact hJ1 _ (by rw [if_neg c_1, if_neg c_2, if_pos c_3])
        · refine v_iconst (x := 0) X dX4_asked___21 rfl ?_
          refine v_goto (tgt := 26) X dX4_asked___22 (by decide) ?_
          exact hJ1 _ (by rw [if_neg c_1, if_neg c_2, if_neg c_3])
      · refine v_iconst (x := 2) X dX4_asked___13 rfl ?_
        refine v_goto (tgt := 26) X dX4_asked___14 (by decide) ?_
        exact hJ1 _ (by rw [if_neg c_1, if_pos c_2])
    · refine v_iconst (x := 1) X dX4_asked___5 rfl ?_
      refine v_goto (tgt := 26) X dX4_asked___6 (by decide) ?_
      exact hJ1 _ (by rw [if_pos c_1])
  · refine v_putfield (w' := (wM h cI (sU S 0 16 (if p1 = 0 then 1 else (if p2 = 0 then 2 else (if p3 = 0 then 3 else 0)) : Int32)))) (ref := "TrumpvaultModel") (ci := 4) (index := 50) (ty := .int) X iX4 tyX4 tyX4_ok nmX4 0 wM_g0 rfl 16 (by decide) (by decide +kernel) (fun _ h9 => h9) rfl (by decide +kernel) rfl rfl (Nat.le_of_ble_eq_true rfl) dX4_asked___26 wM_f0_16 ?_
    refine v_aload_n X dX4_asked___29 rfl ?_
    refine v_getfield (ref := "TrumpvaultModel") (ci := 4) (index := 50) (v := .int ((sU S 0 16 (if p1 = 0 then 1 else (if p2 = 0 then 2 else (if p3 = 0 then 3 else 0)) : Int32)) 0 16)) X iX4 0 wM_g0 rfl 16 (by decide) (by decide +kernel) (fun _ h9 => h9) rfl dX4_asked___30 ?_
    refine v_if_ne (tgt := 40) X dX4_asked___33 (by decide) (fun c_4 => ?_) (fun c_4 => ?_)
    · refine v_iconst (x := 0) X dX4_asked___40 rfl ?_
      exact v_reti X hr hk rfl (by unfold r_X4_asked__; rw [if_neg c_4]) (congrArg (fun z => (wM h cI z)) (by unfold s_X4_asked__; rw [if_neg c_4])) (Nat.le_of_ble_eq_true rfl) (Nat.le_of_ble_eq_true rfl) dX4_asked___41
    · refine v_iconst (x := 1) X dX4_asked___36 rfl ?_
      refine v_goto (tgt := 41) X dX4_asked___37 (by decide) ?_
      exact v_reti X hr hk rfl (by unfold r_X4_asked__; rw [if_pos c_4]) (congrArg (fun z => (wM h cI z)) (by unfold s_X4_asked__; rw [if_pos c_4])) (Nat.le_of_ble_eq_true rfl) (Nat.le_of_ble_eq_true rfl) dX4_asked___41

theorem cma_X4_asked (S : St) (a : Int32) : s_X4_asked S a 0 10 = S 0 10 := by
  unfold s_X4_asked
  repeat' split
  all_goals rfl
theorem cma_X4_asked_ (S : St) (a b : Int32) : s_X4_asked_ S a b 0 10 = S 0 10 := by
  unfold s_X4_asked_
  repeat' split
  all_goals rfl
theorem cma_X4_asked__ (S : St) (a b c : Int32) : s_X4_asked__ S a b c 0 10 = S 0 10 := by
  unfold s_X4_asked__
  repeat' split
  all_goals rfl
theorem fr_X4_asked (S : St) (a : Int32) (i : Nat) (hi : 0 < i) : s_X4_asked S a i = S i := by
  unfold s_X4_asked
  repeat' split
  all_goals exact sU_ne (by omega)
theorem fr_X4_asked_ (S : St) (a b : Int32) (i : Nat) (hi : 0 < i) : s_X4_asked_ S a b i = S i := by
  unfold s_X4_asked_
  repeat' split
  all_goals exact sU_ne (by omega)
theorem fr_X4_asked__ (S : St) (a b c : Int32) (i : Nat) (hi : 0 < i) : s_X4_asked__ S a b c i = S i := by
  unfold s_X4_asked__
  repeat' split
  all_goals exact sU_ne (by omega)
theorem asked1 {S : St} {a : Int32} (h : ¬ r_X4_asked S a = 0) : ¬ a = 0 := h
theorem asked2 {S : St} {a b : Int32} (h : ¬ r_X4_asked_ S a b = 0) : ¬ a = 0 ∧ ¬ b = 0 := by
  by_cases ha : a = 0
  · exact absurd (by unfold r_X4_asked_; simp [sU, upd, ha]) h
  · by_cases hb : b = 0
    · exact absurd (by unfold r_X4_asked_; simp [sU, upd, ha, hb]) h
    · exact ⟨ha, hb⟩
theorem asked3 {S : St} {a b c : Int32} (h : ¬ r_X4_asked__ S a b c = 0) : ¬ a = 0 ∧ ¬ b = 0 ∧ ¬ c = 0 := by
  by_cases ha : a = 0
  · exact absurd (by unfold r_X4_asked__; simp [sU, upd, ha]) h
  · by_cases hb : b = 0
    · exact absurd (by unfold r_X4_asked__; simp [sU, upd, ha, hb]) h
    · by_cases hc : c = 0
      · exact absurd (by unfold r_X4_asked__; simp [sU, upd, ha, hb, hc]) h
      · exact ⟨ha, hb, hc⟩

def r_X4_isCard (S : St) (p1 : Int32) : Int32 :=
  (r_X4_in p1 0 ((S 0 10) - 1))
theorem b_X4_isCard (S : St) (p1 : Int32) : (r_X4_isCard S p1) = 0 ∨ (r_X4_isCard S p1) = 1 := by
  unfold r_X4_isCard
  (try dsimp only)
  repeat' split
  all_goals first | exact Or.inl rfl | exact Or.inr rfl | exact b_X4_in _ _ _
set_option maxHeartbeats 1000000 in
set_option maxRecDepth 100000 in
theorem c_X4_isCard (l : Launch) (D : va_G) (cI cII cL : ClassId) (h : Nat → Nat) (S : St) (p1 : Int32) : v_Mi l D vwCl (tyl cI cII cL) yX4_isCard wsX4_isCard { frames := 1, cells := 0, slots := 0, locals := 22 } [.ref (h 0), .int p1] (wM h cI S) (r_X4_isCard S p1) (wM h cI S) := by
  refine v_ofMi (cc := cX4_isCard) (maxL := 2) (ret := (some .boolean)) (own := RX4) (lv0 := [(0, .ref (h 0)), (1, .int p1)]) (by decide) rfl rfl rfl (Nat.le_of_ble_eq_true rfl) ?_
  intro p e s m below meth c X hr hk hin
  have iX4 : ∀ w ∈ wsX40, w ∈ wsX4_isCard := by decide +kernel
  refine v_iload_n X dX4_isCard_0 rfl ?_
  refine v_iconst (x := 0) X dX4_isCard_1 rfl ?_
  refine v_aload_n X dX4_isCard_2 rfl ?_
  refine v_getfield (ref := "TrumpvaultModel") (ci := 4) (index := 58) (v := .int (S 0 10)) X iX4 0 wM_g0 rfl 10 (by decide) (by decide +kernel) (fun _ h9 => h9) rfl dX4_isCard_3 ?_
  refine v_iconst (x := 1) X dX4_isCard_6 rfl ?_
  refine v_isub X dX4_isCard_7 ?_
  refine v_callSi0 (As := [.int p1, .int 0, .int ((S 0 10) - 1)]) (rest := []) X (c_X4_in l D cI cII cL p1 0 ((S 0 10) - 1)) (cwS 3 X.2.2.2.1 gX4_isCard_X4_in rfl rfl rfl (by decide +kernel) ⟨Nat.le_of_ble_eq_true rfl, Nat.le_of_ble_eq_true rfl⟩) rfl rfl (Nat.le_of_ble_eq_true rfl) dX4_isCard_8 ⟨Nat.le_of_ble_eq_true rfl, Nat.le_of_ble_eq_true rfl⟩ ?_
  exact v_reti X hr hk (narrow_b (b_X4_in _ _ _)) (by unfold r_X4_isCard; rfl) rfl (Nat.le_of_ble_eq_true rfl) (Nat.le_of_ble_eq_true rfl) dX4_isCard_11

theorem isCard_in {S : St} {x : Int32} (hc : cntM S) (h : ¬ r_X4_isCard S x = 0) : vp_in x 30 := by
  have h2 := in_rng (x := x) h
  rw [vp_in_iff]
  have e0 : (0 : Int32).toInt = 0 := by decide
  have e1 : (1 : Int32).toInt = 1 := by decide
  rw [Int32.toInt_sub, e1, Int.bmod_eq_of_le (by have := hc.1; omega) (by have := hc.2; omega)] at h2
  have := hc.2
  omega
theorem cntM_le {S : St} (hc : cntM S) : (S 0 10).toNatClampNeg ≤ 30 := by
  obtain ⟨N, hN, hN30, hNc⟩ := v_num (M := 30) (by decide) hc
  omega

def r_X4_banned (S : St) (p1 : Int32) : Int32 :=
  (if (S 0 0) < (S 14 p1.toNatClampNeg) then 0 else 1)
theorem b_X4_banned (S : St) (p1 : Int32) : (r_X4_banned S p1) = 0 ∨ (r_X4_banned S p1) = 1 := by
  unfold r_X4_banned
  (try dsimp only)
  repeat' split
  all_goals first | exact Or.inl rfl | exact Or.inr rfl
set_option maxHeartbeats 1000000 in
set_option maxRecDepth 100000 in
theorem c_X4_banned (l : Launch) (D : va_G) (cI cII cL : ClassId) (h : Nat → Nat) (S : St) (p1 : Int32) (in1_8 : vp_in p1 8) : v_Mi l D vwCl (tyl cI cII cL) yX4_banned wsX4_banned { frames := 0, cells := 0, slots := 0, locals := 0 } [.ref (h 0), .int p1] (wM h cI S) (r_X4_banned S p1) (wM h cI S) := by
  refine v_ofMi (cc := cX4_banned) (maxL := 2) (ret := (some .boolean)) (own := RX4) (lv0 := [(0, .ref (h 0)), (1, .int p1)]) (by decide) rfl rfl rfl (Nat.le_of_ble_eq_true rfl) ?_
  intro p e s m below meth c X hr hk hin
  have iX4 : ∀ w ∈ wsX40, w ∈ wsX4_banned := by decide +kernel
  refine v_aload_n X dX4_banned_0 rfl ?_
  refine v_getfield (ref := "TrumpvaultModel") (ci := 4) (index := 43) (v := .ref (h 14)) X iX4 0 wM_g0 rfl 14 (by decide) (by decide +kernel) (fun _ h9 => h9) rfl dX4_banned_1 ?_
  refine v_iload_n X dX4_banned_4 rfl ?_
  refine v_iald X 12 0 wM_g14 rfl in1_8 dX4_banned_5 ?_
  refine v_aload_n X dX4_banned_6 rfl ?_
  refine v_getfield (ref := "TrumpvaultModel") (ci := 4) (index := 61) (v := .int (S 0 0)) X iX4 0 wM_g0 rfl 0 (by decide) (by decide +kernel) (fun _ h9 => h9) rfl dX4_banned_7 ?_
  refine v_icmp_gt (tgt := 17) X dX4_banned_10 (by decide) (fun c_1 => ?_) (fun c_1 => ?_)
  · refine v_iconst (x := 0) X dX4_banned_17 rfl ?_
    exact v_reti X hr hk rfl (by unfold r_X4_banned; rw [if_pos c_1]) rfl (Nat.le_of_ble_eq_true rfl) (Nat.le_of_ble_eq_true rfl) dX4_banned_18
  · refine v_iconst (x := 1) X dX4_banned_13 rfl ?_
    refine v_goto (tgt := 18) X dX4_banned_14 (by decide) ?_
    exact v_reti X hr hk rfl (by unfold r_X4_banned; rw [if_neg c_1]) rfl (Nat.le_of_ble_eq_true rfl) (Nat.le_of_ble_eq_true rfl) dX4_banned_18

def r_X4_mint (S : St) (p1 p2 : Int32) : Int32 :=
  (let T_1 : Int32 := (if (r_X4_isPlayer p1) = 0 then 0 else (if (r_X4_isKind p2) = 0 then 0 else 1) : Int32); (let T_2 : Int32 := (if 30 ≤ (S 0 10) then 0 else 1 : Int32); (let S_3 : St := (s_X4_asked_ S T_1 T_2); (if (r_X4_asked_ S T_1 T_2) = 0 then 0 else (let S_7 : St := (sU S_3 2 (S_3 0 10).toNatClampNeg p2); (let S_8 : St := (sU S_7 3 (S_7 0 10).toNatClampNeg p1); (let S_9 : St := (sU S_8 4 (S_8 0 10).toNatClampNeg 0); (let S_10 : St := (sU S_9 0 10 ((S_9 0 10) + 1)); ((S_10 0 10) - 1)))))))))
def s_X4_mint (S : St) (p1 p2 : Int32) : St :=
  (let T_1 : Int32 := (if (r_X4_isPlayer p1) = 0 then 0 else (if (r_X4_isKind p2) = 0 then 0 else 1) : Int32); (let T_2 : Int32 := (if 30 ≤ (S 0 10) then 0 else 1 : Int32); (let S_3 : St := (s_X4_asked_ S T_1 T_2); (if (r_X4_asked_ S T_1 T_2) = 0 then S_3 else (let S_7 : St := (sU S_3 2 (S_3 0 10).toNatClampNeg p2); (let S_8 : St := (sU S_7 3 (S_7 0 10).toNatClampNeg p1); (let S_9 : St := (sU S_8 4 (S_8 0 10).toNatClampNeg 0); (let S_10 : St := (sU S_9 0 10 ((S_9 0 10) + 1)); S_10))))))))
set_option maxHeartbeats 1000000 in
set_option maxRecDepth 100000 in
theorem c_X4_mint (l : Launch) (D : va_G) (cI cII cL : ClassId) (h : Nat → Nat) (S : St) (p1 p2 : Int32) (hmc : cntM S) : v_Mi l D vwCl (tyl cI cII cL) yX4_mint wsX4_mint { frames := 2, cells := 0, slots := 0, locals := 42 } [.ref (h 0), .int p1, .int p2] (wM h cI S) (r_X4_mint S p1 p2) (wM h cI (s_X4_mint S p1 p2)) := by
  refine v_ofMi (cc := cX4_mint) (maxL := 3) (ret := (some .int)) (own := RX4) (lv0 := [(0, .ref (h 0)), (1, .int p1), (2, .int p2)]) (by decide) rfl rfl rfl (Nat.le_of_ble_eq_true rfl) ?_
  intro p e s m below meth c X hr hk hin
  have iX4 : ∀ w ∈ wsX40, w ∈ wsX4_mint := by decide +kernel
  refine v_aload_n X dX4_mint_0 rfl ?_
  refine v_iload_n X dX4_mint_1 rfl ?_
  refine v_callSi0 (As := [.int p1]) (rest := [.ref (h 0)]) X (c_X4_isPlayer l D cI cII cL p1) (cwS 1 X.2.2.2.1 gX4_mint_X4_isPlayer rfl rfl rfl (by decide +kernel) ⟨Nat.le_of_ble_eq_true rfl, Nat.le_of_ble_eq_true rfl⟩) rfl rfl (Nat.le_of_ble_eq_true rfl) dX4_mint_2 ⟨Nat.le_of_ble_eq_true rfl, Nat.le_of_ble_eq_true rfl⟩ ?_
  refine v_mrgn (T := (if (r_X4_isPlayer p1) = 0 then 0 else (if (r_X4_isKind p2) = 0 then 0 else 1) : Int32)) 20 [.ref (h 0)] (fun hJ1 => ?_) (fun T_1 eT_1 => ?_)
  · refine v_if_eq (tgt := 19) X dX4_mint_5 (by decide) (fun c_1 => ?_) (fun c_1 => ?_)
    · refine v_iconst (x := 0) X dX4_mint_19 rfl ?_
      exact hJ1 _ (by rw [if_pos c_1])
    · refine v_iload_n X dX4_mint_8 rfl ?_
      refine v_callSi0 (As := [.int p2]) (rest := [.ref (h 0)]) X (c_X4_isKind l D cI cII cL p2) (cwS 1 X.2.2.2.1 gX4_mint_X4_isKind rfl rfl rfl (by decide +kernel) ⟨Nat.le_of_ble_eq_true rfl, Nat.le_of_ble_eq_true rfl⟩) rfl rfl (Nat.le_of_ble_eq_true rfl) dX4_mint_9 ⟨Nat.le_of_ble_eq_true rfl, Nat.le_of_ble_eq_true rfl⟩ ?_
      refine v_if_eq (tgt := 19) X dX4_mint_12 (by decide) (fun c_2 => ?_) (fun c_2 => ?_)
      · refine v_iconst (x := 0) X dX4_mint_19 rfl ?_
        exact hJ1 _ (by rw [if_neg c_1, if_pos c_2])
      · refine v_iconst (x := 1) X dX4_mint_15 rfl ?_
        refine v_goto (tgt := 20) X dX4_mint_16 (by decide) ?_
        exact hJ1 _ (by rw [if_neg c_1, if_neg c_2])
  · refine v_aload_n X dX4_mint_20 rfl ?_
    refine v_getfield (ref := "TrumpvaultModel") (ci := 4) (index := 58) (v := .int (S 0 10)) X iX4 0 wM_g0 rfl 10 (by decide) (by decide +kernel) (fun _ h9 => h9) rfl dX4_mint_21 ?_
    refine v_bipush (x := 30) X dX4_mint_24 rfl ?_
    refine v_mrgn (T := (if 30 ≤ (S 0 10) then 0 else 1 : Int32)) 34 [.int T_1, .ref (h 0)] (fun hJ2 => ?_) (fun T_2 eT_2 => ?_)
    · refine v_icmp_ge (tgt := 33) X dX4_mint_26 (by decide) (fun c_3 => ?_) (fun c_3 => ?_)
      · refine v_iconst (x := 0) X dX4_mint_33 rfl ?_
        exact hJ2 _ (by rw [if_pos c_3])
      · have hml : vp_in (S 0 10) 30 := cntM_lt hmc c_3
        refine v_iconst (x := 1) X dX4_mint_29 rfl ?_
        refine v_goto (tgt := 34) X dX4_mint_30 (by decide) ?_
        exact hJ2 _ (by rw [if_neg c_3])
    · refine v_callVi (As := [.int T_1, .int T_2]) (rest := []) (w' := (wM h cI (s_X4_asked_ S T_1 T_2))) X (c_X4_asked_ l D cI cII cL h S T_1 T_2) (cwV 2 X.2.2.2.1 gX4_mint_X4_asked_ rfl rfl rfl (by decide +kernel) ⟨Nat.le_of_ble_eq_true rfl, Nat.le_of_ble_eq_true rfl⟩) 0 4 rfl rfl wM_g0 rfl rfl (Nat.le_of_ble_eq_true rfl) dX4_mint_34 ⟨Nat.le_of_ble_eq_true rfl, Nat.le_of_ble_eq_true rfl⟩ ?_
      obtain ⟨S_3, eS_3⟩ : ∃ z : St, z = (s_X4_asked_ S T_1 T_2) := ⟨_, rfl⟩
      refine v_w (congrArg (fun z => (wM h cI z)) eS_3.symm) ?_
      refine v_if_ne (tgt := 42) X dX4_mint_37 (by decide) (fun c_4 => ?_) (fun c_4 => ?_)
      · have n_4 := nz_else (fun q => (asked2 c_4).1 (eT_1.trans q))
        have n_5 := nz_else n_4.2
        have n_6 := nz_else (fun q => (asked2 c_4).2 (eT_2.trans q))
        have hml : vp_in (S 0 10) 30 := cntM_lt hmc n_6.1
        refine v_aload_n X dX4_mint_42 rfl ?_
        refine v_getfield (ref := "TrumpvaultModel") (ci := 4) (index := 13) (v := .ref (h 2)) X iX4 0 wM_g0 rfl 2 (by decide) (by decide +kernel) (fun _ h9 => h9) rfl dX4_mint_43 ?_
        refine v_aload_n X dX4_mint_46 rfl ?_
        refine v_getfield (ref := "TrumpvaultModel") (ci := 4) (index := 58) (v := .int (S_3 0 10)) X iX4 0 wM_g0 rfl 10 (by decide) (by decide +kernel) (fun _ h9 => h9) rfl dX4_mint_47 ?_
        refine v_iload_n X dX4_mint_50 rfl ?_
        refine v_iast (w' := (wM h cI (sU S_3 2 (S_3 0 10).toNatClampNeg p2))) X 2 0 wM_g2 rfl (by rw [((congrFun (congrFun eS_3 0) 10).trans (cma_X4_asked_ S T_1 T_2))]; exact hml) dX4_mint_51 wM_s2 ?_
        obtain ⟨S_7, eS_7⟩ : ∃ z : St, z = (sU S_3 2 (S_3 0 10).toNatClampNeg p2) := ⟨_, rfl⟩
        refine v_w (congrArg (fun z => (wM h cI z)) eS_7.symm) ?_
        refine v_aload_n X dX4_mint_52 rfl ?_
        refine v_getfield (ref := "TrumpvaultModel") (ci := 4) (index := 16) (v := .ref (h 3)) X iX4 0 wM_g0 rfl 3 (by decide) (by decide +kernel) (fun _ h9 => h9) rfl dX4_mint_53 ?_
        refine v_aload_n X dX4_mint_56 rfl ?_
        refine v_getfield (ref := "TrumpvaultModel") (ci := 4) (index := 58) (v := .int (S_7 0 10)) X iX4 0 wM_g0 rfl 10 (by decide) (by decide +kernel) (fun _ h9 => h9) rfl dX4_mint_57 ?_
        refine v_iload_n X dX4_mint_60 rfl ?_
        refine v_iast (w' := (wM h cI (sU S_7 3 (S_7 0 10).toNatClampNeg p1))) X 3 0 wM_g3 rfl (by rw [((congrFun (congrFun eS_7 0) 10).trans ((show (sU S_3 2 (S_3 0 10).toNatClampNeg p2) 0 10 = S_3 0 10 from rfl).trans ((congrFun (congrFun eS_3 0) 10).trans (cma_X4_asked_ S T_1 T_2))))]; exact hml) dX4_mint_61 wM_s3 ?_
        obtain ⟨S_8, eS_8⟩ : ∃ z : St, z = (sU S_7 3 (S_7 0 10).toNatClampNeg p1) := ⟨_, rfl⟩
        refine v_w (congrArg (fun z => (wM h cI z)) eS_8.symm) ?_
        refine v_aload_n X dX4_mint_62 rfl ?_
        refine v_getfield (ref := "TrumpvaultModel") (ci := 4) (index := 19) (v := .ref (h 4)) X iX4 0 wM_g0 rfl 4 (by decide) (by decide +kernel) (fun _ h9 => h9) rfl dX4_mint_63 ?_
        refine v_aload_n X dX4_mint_66 rfl ?_
        refine v_getfield (ref := "TrumpvaultModel") (ci := 4) (index := 58) (v := .int (S_8 0 10)) X iX4 0 wM_g0 rfl 10 (by decide) (by decide +kernel) (fun _ h9 => h9) rfl dX4_mint_67 ?_
        refine v_iconst (x := 0) X dX4_mint_70 rfl ?_
        refine v_iast (w' := (wM h cI (sU S_8 4 (S_8 0 10).toNatClampNeg 0))) X 4 0 wM_g4 rfl (by rw [((congrFun (congrFun eS_8 0) 10).trans ((show (sU S_7 3 (S_7 0 10).toNatClampNeg p1) 0 10 = S_7 0 10 from rfl).trans ((congrFun (congrFun eS_7 0) 10).trans ((show (sU S_3 2 (S_3 0 10).toNatClampNeg p2) 0 10 = S_3 0 10 from rfl).trans ((congrFun (congrFun eS_3 0) 10).trans (cma_X4_asked_ S T_1 T_2))))))]; exact hml) dX4_mint_71 wM_s4 ?_
        obtain ⟨S_9, eS_9⟩ : ∃ z : St, z = (sU S_8 4 (S_8 0 10).toNatClampNeg 0) := ⟨_, rfl⟩
        refine v_w (congrArg (fun z => (wM h cI z)) eS_9.symm) ?_
        refine v_aload_n X dX4_mint_72 rfl ?_
        refine v_dup X dX4_mint_73 rfl ?_
        refine v_getfield (ref := "TrumpvaultModel") (ci := 4) (index := 58) (v := .int (S_9 0 10)) X iX4 0 wM_g0 rfl 10 (by decide) (by decide +kernel) (fun _ h9 => h9) rfl dX4_mint_74 ?_
        refine v_iconst (x := 1) X dX4_mint_77 rfl ?_
        refine v_iadd X dX4_mint_78 ?_
        refine v_putfield (w' := (wM h cI (sU S_9 0 10 ((S_9 0 10) + 1)))) (ref := "TrumpvaultModel") (ci := 4) (index := 58) (ty := .int) X iX4 tyX4 tyX4_ok nmX4 0 wM_g0 rfl 10 (by decide) (by decide +kernel) (fun _ h9 => h9) rfl (by decide +kernel) rfl rfl (Nat.le_of_ble_eq_true rfl) dX4_mint_79 wM_f0_10 ?_
        obtain ⟨S_10, eS_10⟩ : ∃ z : St, z = (sU S_9 0 10 ((S_9 0 10) + 1)) := ⟨_, rfl⟩
        refine v_w (congrArg (fun z => (wM h cI z)) eS_10.symm) ?_
        refine v_aload_n X dX4_mint_82 rfl ?_
        refine v_getfield (ref := "TrumpvaultModel") (ci := 4) (index := 58) (v := .int (S_10 0 10)) X iX4 0 wM_g0 rfl 10 (by decide) (by decide +kernel) (fun _ h9 => h9) rfl dX4_mint_83 ?_
        refine v_iconst (x := 1) X dX4_mint_86 rfl ?_
        refine v_isub X dX4_mint_87 ?_
        exact v_reti X hr hk rfl (by subst eS_10; subst eS_9; subst eS_8; subst eS_7; subst eS_3; subst eT_2; subst eT_1; unfold r_X4_mint; dsimp only; rw [if_neg c_4]) (congrArg (fun z => (wM h cI z)) (by subst eS_10; subst eS_9; subst eS_8; subst eS_7; subst eS_3; subst eT_2; subst eT_1; unfold s_X4_mint; dsimp only; rw [if_neg c_4])) (Nat.le_of_ble_eq_true rfl) (Nat.le_of_ble_eq_true rfl) dX4_mint_88
      · refine v_iconst (x := 0) X dX4_mint_40 rfl ?_
        exact v_reti X hr hk rfl (by subst eS_3; subst eT_2; subst eT_1; unfold r_X4_mint; dsimp only; rw [if_pos c_4]) (congrArg (fun z => (wM h cI z)) (by subst eS_3; subst eT_2; subst eT_1; unfold s_X4_mint; dsimp only; rw [if_pos c_4])) (Nat.le_of_ble_eq_true rfl) (Nat.le_of_ble_eq_true rfl) dX4_mint_41

def r_X4_owner (S : St) (p1 : Int32) : Int32 :=
  (let S_1 : St := (s_X4_asked S (r_X4_isCard S p1)); (if (r_X4_asked S (r_X4_isCard S p1)) = 0 then 0 else (S_1 3 p1.toNatClampNeg)))
def s_X4_owner (S : St) (p1 : Int32) : St :=
  (let S_1 : St := (s_X4_asked S (r_X4_isCard S p1)); (if (r_X4_asked S (r_X4_isCard S p1)) = 0 then S_1 else S_1))
set_option maxHeartbeats 1000000 in
set_option maxRecDepth 100000 in
theorem c_X4_owner (l : Launch) (D : va_G) (cI cII cL : ClassId) (h : Nat → Nat) (S : St) (p1 : Int32) (hmc : cntM S) : v_Mi l D vwCl (tyl cI cII cL) yX4_owner wsX4_owner { frames := 2, cells := 0, slots := 0, locals := 43 } [.ref (h 0), .int p1] (wM h cI S) (r_X4_owner S p1) (wM h cI (s_X4_owner S p1)) := by
  refine v_ofMi (cc := cX4_owner) (maxL := 2) (ret := (some .int)) (own := RX4) (lv0 := [(0, .ref (h 0)), (1, .int p1)]) (by decide) rfl rfl rfl (Nat.le_of_ble_eq_true rfl) ?_
  intro p e s m below meth c X hr hk hin
  have iX4 : ∀ w ∈ wsX40, w ∈ wsX4_owner := by decide +kernel
  refine v_aload_n X dX4_owner_0 rfl ?_
  refine v_aload_n X dX4_owner_1 rfl ?_
  refine v_iload_n X dX4_owner_2 rfl ?_
  refine v_callVi (As := [.int p1]) (rest := [.ref (h 0)]) (w' := (wM h cI S)) X (c_X4_isCard l D cI cII cL h S p1) (cwV 1 X.2.2.2.1 gX4_owner_X4_isCard rfl rfl rfl (by decide +kernel) ⟨Nat.le_of_ble_eq_true rfl, Nat.le_of_ble_eq_true rfl⟩) 0 4 rfl rfl wM_g0 rfl rfl (Nat.le_of_ble_eq_true rfl) dX4_owner_3 ⟨Nat.le_of_ble_eq_true rfl, Nat.le_of_ble_eq_true rfl⟩ ?_
  refine v_callVi (As := [.int (r_X4_isCard S p1)]) (rest := []) (w' := (wM h cI (s_X4_asked S (r_X4_isCard S p1)))) X (c_X4_asked l D cI cII cL h S (r_X4_isCard S p1) (b_X4_isCard _ _)) (cwV 1 X.2.2.2.1 gX4_owner_X4_asked rfl rfl rfl (by decide +kernel) ⟨Nat.le_of_ble_eq_true rfl, Nat.le_of_ble_eq_true rfl⟩) 0 4 rfl rfl wM_g0 rfl rfl (Nat.le_of_ble_eq_true rfl) dX4_owner_6 ⟨Nat.le_of_ble_eq_true rfl, Nat.le_of_ble_eq_true rfl⟩ ?_
  obtain ⟨S_1, eS_1⟩ : ∃ z : St, z = (s_X4_asked S (r_X4_isCard S p1)) := ⟨_, rfl⟩
  refine v_w (congrArg (fun z => (wM h cI z)) eS_1.symm) ?_
  refine v_if_eq (tgt := 21) X dX4_owner_9 (by decide) (fun c_1 => ?_) (fun c_1 => ?_)
  · refine v_iconst (x := 0) X dX4_owner_21 rfl ?_
    exact v_reti X hr hk rfl (by subst eS_1; unfold r_X4_owner; dsimp only; rw [if_pos c_1]) (congrArg (fun z => (wM h cI z)) (by subst eS_1; unfold s_X4_owner; dsimp only; rw [if_pos c_1])) (Nat.le_of_ble_eq_true rfl) (Nat.le_of_ble_eq_true rfl) dX4_owner_22
  · refine v_aload_n X dX4_owner_12 rfl ?_
    refine v_getfield (ref := "TrumpvaultModel") (ci := 4) (index := 16) (v := .ref (h 3)) X iX4 0 wM_g0 rfl 3 (by decide) (by decide +kernel) (fun _ h9 => h9) rfl dX4_owner_13 ?_
    refine v_iload_n X dX4_owner_16 rfl ?_
    refine v_iald X 3 0 wM_g3 rfl (isCard_in hmc (asked1 c_1)) dX4_owner_17 ?_
    refine v_goto (tgt := 22) X dX4_owner_18 (by decide) ?_
    exact v_reti X hr hk rfl (by subst eS_1; unfold r_X4_owner; dsimp only; rw [if_neg c_1]) (congrArg (fun z => (wM h cI z)) (by subst eS_1; unfold s_X4_owner; dsimp only; rw [if_neg c_1])) (Nat.le_of_ble_eq_true rfl) (Nat.le_of_ble_eq_true rfl) dX4_owner_22

def r_X4_ownerByHistory (S : St) (p1 : Int32) : Int32 :=
  (r_X4_owner S p1)
def s_X4_ownerByHistory (S : St) (p1 : Int32) : St :=
  (s_X4_owner S p1)
set_option maxHeartbeats 1000000 in
set_option maxRecDepth 100000 in
theorem c_X4_ownerByHistory (l : Launch) (D : va_G) (cI cII cL : ClassId) (h : Nat → Nat) (S : St) (p1 : Int32) (hmc : cntM S) : v_Mi l D vwCl (tyl cI cII cL) yX4_ownerByHistory wsX4_ownerByHistory { frames := 3, cells := 0, slots := 0, locals := 64 } [.ref (h 0), .int p1] (wM h cI S) (r_X4_ownerByHistory S p1) (wM h cI (s_X4_ownerByHistory S p1)) := by
  refine v_ofMi (cc := cX4_ownerByHistory) (maxL := 2) (ret := (some .int)) (own := RX4) (lv0 := [(0, .ref (h 0)), (1, .int p1)]) (by decide) rfl rfl rfl (Nat.le_of_ble_eq_true rfl) ?_
  intro p e s m below meth c X hr hk hin
  refine v_aload_n X dX4_ownerByHistory_0 rfl ?_
  refine v_iload_n X dX4_ownerByHistory_1 rfl ?_
  refine v_callVi (As := [.int p1]) (rest := []) (w' := (wM h cI (s_X4_owner S p1))) X (c_X4_owner l D cI cII cL h S p1 hmc) (cwV 1 X.2.2.2.1 gX4_ownerByHistory_X4_owner rfl rfl rfl (by decide +kernel) ⟨Nat.le_of_ble_eq_true rfl, Nat.le_of_ble_eq_true rfl⟩) 0 4 rfl rfl wM_g0 rfl rfl (Nat.le_of_ble_eq_true rfl) dX4_ownerByHistory_2 ⟨Nat.le_of_ble_eq_true rfl, Nat.le_of_ble_eq_true rfl⟩ ?_
  exact v_reti X hr hk rfl (by unfold r_X4_ownerByHistory; rfl) (congrArg (fun z => (wM h cI z)) (by unfold s_X4_ownerByHistory; rfl)) (Nat.le_of_ble_eq_true rfl) (Nat.le_of_ble_eq_true rfl) dX4_ownerByHistory_5

def r_X4_holds (S : St) (p1 : Int32) : Int32 :=
  (if (S 4 p1.toNatClampNeg) = 3 then (S 8 p1.toNatClampNeg) else (S 3 p1.toNatClampNeg))
set_option maxHeartbeats 1000000 in
set_option maxRecDepth 100000 in
theorem c_X4_holds (l : Launch) (D : va_G) (cI cII cL : ClassId) (h : Nat → Nat) (S : St) (p1 : Int32) (in1_30 : vp_in p1 30) : v_Mi l D vwCl (tyl cI cII cL) yX4_holds wsX4_holds { frames := 0, cells := 0, slots := 0, locals := 0 } [.ref (h 0), .int p1] (wM h cI S) (r_X4_holds S p1) (wM h cI S) := by
  refine v_ofMi (cc := cX4_holds) (maxL := 2) (ret := (some .int)) (own := RX4) (lv0 := [(0, .ref (h 0)), (1, .int p1)]) (by decide) rfl rfl rfl (Nat.le_of_ble_eq_true rfl) ?_
  intro p e s m below meth c X hr hk hin
  have iX4 : ∀ w ∈ wsX40, w ∈ wsX4_holds := by decide +kernel
  refine v_aload_n X dX4_holds_0 rfl ?_
  refine v_getfield (ref := "TrumpvaultModel") (ci := 4) (index := 19) (v := .ref (h 4)) X iX4 0 wM_g0 rfl 4 (by decide) (by decide +kernel) (fun _ h9 => h9) rfl dX4_holds_1 ?_
  refine v_iload_n X dX4_holds_4 rfl ?_
  refine v_iald X 4 0 wM_g4 rfl in1_30 dX4_holds_5 ?_
  refine v_iconst (x := 3) X dX4_holds_6 rfl ?_
  refine v_icmp_ne (tgt := 19) X dX4_holds_7 (by decide) (fun c_1 => ?_) (fun c_1 => ?_)
  · refine v_aload_n X dX4_holds_19 rfl ?_
    refine v_getfield (ref := "TrumpvaultModel") (ci := 4) (index := 16) (v := .ref (h 3)) X iX4 0 wM_g0 rfl 3 (by decide) (by decide +kernel) (fun _ h9 => h9) rfl dX4_holds_20 ?_
    refine v_iload_n X dX4_holds_23 rfl ?_
    refine v_iald X 3 0 wM_g3 rfl in1_30 dX4_holds_24 ?_
    exact v_reti X hr hk rfl (by unfold r_X4_holds; rw [if_neg c_1]) rfl (Nat.le_of_ble_eq_true rfl) (Nat.le_of_ble_eq_true rfl) dX4_holds_25
  · refine v_aload_n X dX4_holds_10 rfl ?_
    refine v_getfield (ref := "TrumpvaultModel") (ci := 4) (index := 31) (v := .ref (h 8)) X iX4 0 wM_g0 rfl 8 (by decide) (by decide +kernel) (fun _ h9 => h9) rfl dX4_holds_11 ?_
    refine v_iload_n X dX4_holds_14 rfl ?_
    refine v_iald X 8 0 wM_g8 rfl in1_30 dX4_holds_15 ?_
    refine v_goto (tgt := 25) X dX4_holds_16 (by decide) ?_
    exact v_reti X hr hk rfl (by unfold r_X4_holds; rw [if_pos c_1]) rfl (Nat.le_of_ble_eq_true rfl) (Nat.le_of_ble_eq_true rfl) dX4_holds_25

def r_X4_holder (S : St) (p1 : Int32) : Int32 :=
  (let S_1 : St := (s_X4_asked S (r_X4_isCard S p1)); (if (r_X4_asked S (r_X4_isCard S p1)) = 0 then 0 else (r_X4_holds S_1 p1)))
def s_X4_holder (S : St) (p1 : Int32) : St :=
  (let S_1 : St := (s_X4_asked S (r_X4_isCard S p1)); (if (r_X4_asked S (r_X4_isCard S p1)) = 0 then S_1 else S_1))
set_option maxHeartbeats 1000000 in
set_option maxRecDepth 100000 in
theorem c_X4_holder (l : Launch) (D : va_G) (cI cII cL : ClassId) (h : Nat → Nat) (S : St) (p1 : Int32) (hmc : cntM S) : v_Mi l D vwCl (tyl cI cII cL) yX4_holder wsX4_holder { frames := 2, cells := 0, slots := 0, locals := 43 } [.ref (h 0), .int p1] (wM h cI S) (r_X4_holder S p1) (wM h cI (s_X4_holder S p1)) := by
  refine v_ofMi (cc := cX4_holder) (maxL := 2) (ret := (some .int)) (own := RX4) (lv0 := [(0, .ref (h 0)), (1, .int p1)]) (by decide) rfl rfl rfl (Nat.le_of_ble_eq_true rfl) ?_
  intro p e s m below meth c X hr hk hin
  refine v_aload_n X dX4_holder_0 rfl ?_
  refine v_aload_n X dX4_holder_1 rfl ?_
  refine v_iload_n X dX4_holder_2 rfl ?_
  refine v_callVi (As := [.int p1]) (rest := [.ref (h 0)]) (w' := (wM h cI S)) X (c_X4_isCard l D cI cII cL h S p1) (cwV 1 X.2.2.2.1 gX4_holder_X4_isCard rfl rfl rfl (by decide +kernel) ⟨Nat.le_of_ble_eq_true rfl, Nat.le_of_ble_eq_true rfl⟩) 0 4 rfl rfl wM_g0 rfl rfl (Nat.le_of_ble_eq_true rfl) dX4_holder_3 ⟨Nat.le_of_ble_eq_true rfl, Nat.le_of_ble_eq_true rfl⟩ ?_
  refine v_callVi (As := [.int (r_X4_isCard S p1)]) (rest := []) (w' := (wM h cI (s_X4_asked S (r_X4_isCard S p1)))) X (c_X4_asked l D cI cII cL h S (r_X4_isCard S p1) (b_X4_isCard _ _)) (cwV 1 X.2.2.2.1 gX4_holder_X4_asked rfl rfl rfl (by decide +kernel) ⟨Nat.le_of_ble_eq_true rfl, Nat.le_of_ble_eq_true rfl⟩) 0 4 rfl rfl wM_g0 rfl rfl (Nat.le_of_ble_eq_true rfl) dX4_holder_6 ⟨Nat.le_of_ble_eq_true rfl, Nat.le_of_ble_eq_true rfl⟩ ?_
  obtain ⟨S_1, eS_1⟩ : ∃ z : St, z = (s_X4_asked S (r_X4_isCard S p1)) := ⟨_, rfl⟩
  refine v_w (congrArg (fun z => (wM h cI z)) eS_1.symm) ?_
  refine v_if_eq (tgt := 20) X dX4_holder_9 (by decide) (fun c_1 => ?_) (fun c_1 => ?_)
  · refine v_iconst (x := 0) X dX4_holder_20 rfl ?_
    exact v_reti X hr hk rfl (by subst eS_1; unfold r_X4_holder; dsimp only; rw [if_pos c_1]) (congrArg (fun z => (wM h cI z)) (by subst eS_1; unfold s_X4_holder; dsimp only; rw [if_pos c_1])) (Nat.le_of_ble_eq_true rfl) (Nat.le_of_ble_eq_true rfl) dX4_holder_21
  · refine v_aload_n X dX4_holder_12 rfl ?_
    refine v_iload_n X dX4_holder_13 rfl ?_
    refine v_callVi (As := [.int p1]) (rest := []) (w' := (wM h cI S_1)) X (c_X4_holds l D cI cII cL h S_1 p1 (isCard_in hmc (asked1 c_1))) (cwV 1 X.2.2.2.1 gX4_holder_X4_holds rfl rfl rfl (by decide +kernel) ⟨Nat.le_of_ble_eq_true rfl, Nat.le_of_ble_eq_true rfl⟩) 0 4 rfl rfl wM_g0 rfl rfl (Nat.le_of_ble_eq_true rfl) dX4_holder_14 ⟨Nat.le_of_ble_eq_true rfl, Nat.le_of_ble_eq_true rfl⟩ ?_
    refine v_goto (tgt := 21) X dX4_holder_17 (by decide) ?_
    exact v_reti X hr hk rfl (by subst eS_1; unfold r_X4_holder; dsimp only; rw [if_neg c_1]) (congrArg (fun z => (wM h cI z)) (by subst eS_1; unfold s_X4_holder; dsimp only; rw [if_neg c_1])) (Nat.le_of_ble_eq_true rfl) (Nat.le_of_ble_eq_true rfl) dX4_holder_21

def r_X4_stateOf (S : St) (p1 : Int32) : Int32 :=
  (let S_1 : St := (s_X4_asked S (r_X4_isCard S p1)); (if (r_X4_asked S (r_X4_isCard S p1)) = 0 then 0 else (S_1 4 p1.toNatClampNeg)))
def s_X4_stateOf (S : St) (p1 : Int32) : St :=
  (let S_1 : St := (s_X4_asked S (r_X4_isCard S p1)); (if (r_X4_asked S (r_X4_isCard S p1)) = 0 then S_1 else S_1))
set_option maxHeartbeats 1000000 in
set_option maxRecDepth 100000 in
theorem c_X4_stateOf (l : Launch) (D : va_G) (cI cII cL : ClassId) (h : Nat → Nat) (S : St) (p1 : Int32) (hmc : cntM S) : v_Mi l D vwCl (tyl cI cII cL) yX4_stateOf wsX4_stateOf { frames := 2, cells := 0, slots := 0, locals := 43 } [.ref (h 0), .int p1] (wM h cI S) (r_X4_stateOf S p1) (wM h cI (s_X4_stateOf S p1)) := by
  refine v_ofMi (cc := cX4_stateOf) (maxL := 2) (ret := (some .int)) (own := RX4) (lv0 := [(0, .ref (h 0)), (1, .int p1)]) (by decide) rfl rfl rfl (Nat.le_of_ble_eq_true rfl) ?_
  intro p e s m below meth c X hr hk hin
  have iX4 : ∀ w ∈ wsX40, w ∈ wsX4_stateOf := by decide +kernel
  refine v_aload_n X dX4_stateOf_0 rfl ?_
  refine v_aload_n X dX4_stateOf_1 rfl ?_
  refine v_iload_n X dX4_stateOf_2 rfl ?_
  refine v_callVi (As := [.int p1]) (rest := [.ref (h 0)]) (w' := (wM h cI S)) X (c_X4_isCard l D cI cII cL h S p1) (cwV 1 X.2.2.2.1 gX4_stateOf_X4_isCard rfl rfl rfl (by decide +kernel) ⟨Nat.le_of_ble_eq_true rfl, Nat.le_of_ble_eq_true rfl⟩) 0 4 rfl rfl wM_g0 rfl rfl (Nat.le_of_ble_eq_true rfl) dX4_stateOf_3 ⟨Nat.le_of_ble_eq_true rfl, Nat.le_of_ble_eq_true rfl⟩ ?_
  refine v_callVi (As := [.int (r_X4_isCard S p1)]) (rest := []) (w' := (wM h cI (s_X4_asked S (r_X4_isCard S p1)))) X (c_X4_asked l D cI cII cL h S (r_X4_isCard S p1) (b_X4_isCard _ _)) (cwV 1 X.2.2.2.1 gX4_stateOf_X4_asked rfl rfl rfl (by decide +kernel) ⟨Nat.le_of_ble_eq_true rfl, Nat.le_of_ble_eq_true rfl⟩) 0 4 rfl rfl wM_g0 rfl rfl (Nat.le_of_ble_eq_true rfl) dX4_stateOf_6 ⟨Nat.le_of_ble_eq_true rfl, Nat.le_of_ble_eq_true rfl⟩ ?_
  obtain ⟨S_1, eS_1⟩ : ∃ z : St, z = (s_X4_asked S (r_X4_isCard S p1)) := ⟨_, rfl⟩
  refine v_w (congrArg (fun z => (wM h cI z)) eS_1.symm) ?_
  refine v_if_eq (tgt := 21) X dX4_stateOf_9 (by decide) (fun c_1 => ?_) (fun c_1 => ?_)
  · refine v_iconst (x := 0) X dX4_stateOf_21 rfl ?_
    exact v_reti X hr hk rfl (by subst eS_1; unfold r_X4_stateOf; dsimp only; rw [if_pos c_1]) (congrArg (fun z => (wM h cI z)) (by subst eS_1; unfold s_X4_stateOf; dsimp only; rw [if_pos c_1])) (Nat.le_of_ble_eq_true rfl) (Nat.le_of_ble_eq_true rfl) dX4_stateOf_22
  · refine v_aload_n X dX4_stateOf_12 rfl ?_
    refine v_getfield (ref := "TrumpvaultModel") (ci := 4) (index := 19) (v := .ref (h 4)) X iX4 0 wM_g0 rfl 4 (by decide) (by decide +kernel) (fun _ h9 => h9) rfl dX4_stateOf_13 ?_
    refine v_iload_n X dX4_stateOf_16 rfl ?_
    refine v_iald X 4 0 wM_g4 rfl (isCard_in hmc (asked1 c_1)) dX4_stateOf_17 ?_
    refine v_goto (tgt := 22) X dX4_stateOf_18 (by decide) ?_
    exact v_reti X hr hk rfl (by subst eS_1; unfold r_X4_stateOf; dsimp only; rw [if_neg c_1]) (congrArg (fun z => (wM h cI z)) (by subst eS_1; unfold s_X4_stateOf; dsimp only; rw [if_neg c_1])) (Nat.le_of_ble_eq_true rfl) (Nat.le_of_ble_eq_true rfl) dX4_stateOf_22

def r_X4_coins (S : St) (p1 : Int32) : Int32 :=
  (let S_1 : St := (s_X4_asked S (r_X4_isPlayer p1)); (if (r_X4_asked S (r_X4_isPlayer p1)) = 0 then 0 else (S_1 1 p1.toNatClampNeg)))
def s_X4_coins (S : St) (p1 : Int32) : St :=
  (let S_1 : St := (s_X4_asked S (r_X4_isPlayer p1)); (if (r_X4_asked S (r_X4_isPlayer p1)) = 0 then S_1 else S_1))
set_option maxHeartbeats 1000000 in
set_option maxRecDepth 100000 in
theorem c_X4_coins (l : Launch) (D : va_G) (cI cII cL : ClassId) (h : Nat → Nat) (S : St) (p1 : Int32) : v_Mi l D vwCl (tyl cI cII cL) yX4_coins wsX4_coins { frames := 2, cells := 0, slots := 0, locals := 42 } [.ref (h 0), .int p1] (wM h cI S) (r_X4_coins S p1) (wM h cI (s_X4_coins S p1)) := by
  refine v_ofMi (cc := cX4_coins) (maxL := 2) (ret := (some .int)) (own := RX4) (lv0 := [(0, .ref (h 0)), (1, .int p1)]) (by decide) rfl rfl rfl (Nat.le_of_ble_eq_true rfl) ?_
  intro p e s m below meth c X hr hk hin
  have iX4 : ∀ w ∈ wsX40, w ∈ wsX4_coins := by decide +kernel
  refine v_aload_n X dX4_coins_0 rfl ?_
  refine v_iload_n X dX4_coins_1 rfl ?_
  refine v_callSi0 (As := [.int p1]) (rest := [.ref (h 0)]) X (c_X4_isPlayer l D cI cII cL p1) (cwS 1 X.2.2.2.1 gX4_coins_X4_isPlayer rfl rfl rfl (by decide +kernel) ⟨Nat.le_of_ble_eq_true rfl, Nat.le_of_ble_eq_true rfl⟩) rfl rfl (Nat.le_of_ble_eq_true rfl) dX4_coins_2 ⟨Nat.le_of_ble_eq_true rfl, Nat.le_of_ble_eq_true rfl⟩ ?_
  refine v_callVi (As := [.int (r_X4_isPlayer p1)]) (rest := []) (w' := (wM h cI (s_X4_asked S (r_X4_isPlayer p1)))) X (c_X4_asked l D cI cII cL h S (r_X4_isPlayer p1) (b_X4_isPlayer _)) (cwV 1 X.2.2.2.1 gX4_coins_X4_asked rfl rfl rfl (by decide +kernel) ⟨Nat.le_of_ble_eq_true rfl, Nat.le_of_ble_eq_true rfl⟩) 0 4 rfl rfl wM_g0 rfl rfl (Nat.le_of_ble_eq_true rfl) dX4_coins_5 ⟨Nat.le_of_ble_eq_true rfl, Nat.le_of_ble_eq_true rfl⟩ ?_
  obtain ⟨S_1, eS_1⟩ : ∃ z : St, z = (s_X4_asked S (r_X4_isPlayer p1)) := ⟨_, rfl⟩
  refine v_w (congrArg (fun z => (wM h cI z)) eS_1.symm) ?_
  refine v_if_eq (tgt := 20) X dX4_coins_8 (by decide) (fun c_1 => ?_) (fun c_1 => ?_)
  · refine v_iconst (x := 0) X dX4_coins_20 rfl ?_
    exact v_reti X hr hk rfl (by subst eS_1; unfold r_X4_coins; dsimp only; rw [if_pos c_1]) (congrArg (fun z => (wM h cI z)) (by subst eS_1; unfold s_X4_coins; dsimp only; rw [if_pos c_1])) (Nat.le_of_ble_eq_true rfl) (Nat.le_of_ble_eq_true rfl) dX4_coins_21
  · refine v_aload_n X dX4_coins_11 rfl ?_
    refine v_getfield (ref := "TrumpvaultModel") (ci := 4) (index := 7) (v := .ref (h 1)) X iX4 0 wM_g0 rfl 1 (by decide) (by decide +kernel) (fun _ h9 => h9) rfl dX4_coins_12 ?_
    refine v_iload_n X dX4_coins_15 rfl ?_
    refine v_iald X 1 0 wM_g1 rfl (isPlayer_in (asked1 c_1)) dX4_coins_16 ?_
    refine v_goto (tgt := 21) X dX4_coins_17 (by decide) ?_
    exact v_reti X hr hk rfl (by subst eS_1; unfold r_X4_coins; dsimp only; rw [if_neg c_1]) (congrArg (fun z => (wM h cI z)) (by subst eS_1; unfold s_X4_coins; dsimp only; rw [if_neg c_1])) (Nat.le_of_ble_eq_true rfl) (Nat.le_of_ble_eq_true rfl) dX4_coins_21

def st1_X4_bidder (S : St) (p1 p2 : Int32) (k : Nat) (qb3 : Int32) : Int32 :=
  (if (nI k) = p2 then qb3 else (if (S 11 ((8 * (nI k)) + p1).toNatClampNeg) ≤ 0 then qb3 else (if qb3 = (-1) then (nI k) else (if 0 < ((S 11 ((8 * (nI k)) + p1).toNatClampNeg) - (S 11 ((8 * qb3) + p1).toNatClampNeg)) then (nI k) else (if ((S 11 ((8 * (nI k)) + p1).toNatClampNeg) - (S 11 ((8 * qb3) + p1).toNatClampNeg)) = 0 then (if (S 12 ((8 * qb3) + p1).toNatClampNeg) ≤ (S 12 ((8 * (nI k)) + p1).toNatClampNeg) then qb3 else (nI k)) else qb3)))))
def lp1_X4_bidder (S : St) (p1 p2 : Int32) : Nat → Int32
  | 0 => (-1)
  | k + 1 => st1_X4_bidder S p1 p2 k (lp1_X4_bidder S p1 p2 k)
theorem e_lp1_X4_bidder (S : St) (p1 p2 : Int32) (k : Nat) : lp1_X4_bidder S p1 p2 (k + 1) = st1_X4_bidder S p1 p2 k (lp1_X4_bidder S p1 p2 k) := rfl
def r_X4_bidder (S : St) (p1 p2 : Int32) : Int32 :=
  (lp1_X4_bidder S p1 p2 5)
theorem rng_X4_bidder (S : St) (p1 p2 : Int32) (k : Nat) (hk : k ≤ 5) : lp1_X4_bidder S p1 p2 k = -1 ∨ vp_in (lp1_X4_bidder S p1 p2 k) 5 := by
  induction k with
  | zero => exact Or.inl rfl
  | succ k ih =>
    have ih := ih (by omega)
    have hk2 : vp_in (nI k) 5 := vp_in_nI (by omega) (by decide)
    rw [e_lp1_X4_bidder]
    unfold st1_X4_bidder
    repeat' split
    all_goals first | exact ih | exact Or.inr hk2
set_option maxHeartbeats 1000000 in
set_option maxRecDepth 100000 in
theorem c_X4_bidder (l : Launch) (D : va_G) (cI cII cL : ClassId) (h : Nat → Nat) (S : St) (p1 p2 : Int32) (in1_8 : vp_in p1 8) : v_Mi l D vwCl (tyl cI cII cL) yX4_bidder wsX4_bidder { frames := 0, cells := 0, slots := 0, locals := 0 } [.ref (h 0), .int p1, .int p2] (wM h cI S) (r_X4_bidder S p1 p2) (wM h cI S) := by
  refine v_ofMi (cc := cX4_bidder) (maxL := 7) (ret := (some .int)) (own := RX4) (lv0 := [(0, .ref (h 0)), (1, .int p1), (2, .int p2)]) (by decide) rfl rfl rfl (Nat.le_of_ble_eq_true rfl) ?_
  intro p e s m below meth c X hr hk hin
  have iX4 : ∀ w ∈ wsX40, w ∈ wsX4_bidder := by decide +kernel
  refine v_iconst (x := (-1)) X dX4_bidder_0 rfl ?_
  refine v_istore_n (lv' := [(3, .int (-1)), (0, .ref (h 0)), (1, .int p1), (2, .int p2)]) X dX4_bidder_1 (by decide) rfl ?_
  refine v_iconst (x := 0) X dX4_bidder_2 rfl ?_
  refine v_istore (lv' := [(4, .int 0), (3, .int (-1)), (0, .ref (h 0)), (1, .int p1), (2, .int p2)]) X dX4_bidder_3 (by decide) rfl ?_
  have L_1 : ∀ (d_1 k_1 : Nat) (i_1 b3_1 : Int32), k_1 + d_1 = 5 → i_1 = nI k_1 → b3_1 = (lp1_X4_bidder S p1 p2 k_1) → v_V p l e { frames := 0, cells := 0, slots := 0, locals := 0 } s m [.ref (h 0), .int p1, .int p2].toArray below meth c D vwCl (va_A (wM h cI S) s.heap.size) 7 (v_Qi below s D vwCl (tyl cI cII cL) { frames := 0, cells := 0, slots := 0, locals := 0 } [.ref (h 0), .int p1, .int p2] (wM h cI S) (r_X4_bidder S p1 p2) (wM h cI S)) 0 0 (wM h cI S) 5 [(4, .int i_1), (3, .int b3_1), (0, .ref (h 0)), (1, .int p1), (2, .int p2)] [] := by
    intro d_1
    induction d_1 with
    | zero =>
      intro k_1 i_1 b3_1 hk_1 ei_1 eb3_1
      subst ei_1 eb3_1
      obtain rfl : 5 = k_1 := by omega
      refine v_iload X dX4_bidder_5 rfl ?_
      refine v_iconst (x := 5) X dX4_bidder_7 rfl ?_
      refine v_icmp_ge (tgt := 110) X dX4_bidder_8 (by decide) (fun c_1 => ?_) (fun c_1 => ?_)
      · refine v_iload_n X dX4_bidder_110 rfl ?_
        exact v_reti X hr hk rfl (by unfold r_X4_bidder; rfl) rfl (Nat.le_of_ble_eq_true rfl) (Nat.le_of_ble_eq_true rfl) dX4_bidder_111
      · exact absurd (show (5 : Int32) ≤ nI 5 from nI_le (Nat.le_refl 5) (by decide)) c_1
    | succ d_1 ih_1 =>
      intro k_1 i_1 b3_1 hk_1 ei_1 eb3_1
      subst ei_1 eb3_1
      have hlt_1 : k_1 < 5 := by omega
      refine v_iload X dX4_bidder_5 rfl ?_
      refine v_iconst (x := 5) X dX4_bidder_7 rfl ?_
      refine v_icmp_ge (tgt := 110) X dX4_bidder_8 (by decide) (fun c_2 => ?_) (fun c_2 => ?_)
      · exact absurd c_2 (nI_ge (b := 5) hlt_1 (by decide))
      · refine v_bipush (x := 8) X dX4_bidder_11 rfl ?_
        refine v_iload X dX4_bidder_13 rfl ?_
        refine v_imul X dX4_bidder_15 ?_
        refine v_iload_n X dX4_bidder_16 rfl ?_
        refine v_iadd X dX4_bidder_17 ?_
        refine v_istore (lv' := [(5, .int ((8 * (nI k_1)) + p1)), (4, .int (nI k_1)), (3, .int (lp1_X4_bidder S p1 p2 k_1)), (0, .ref (h 0)), (1, .int p1), (2, .int p2)]) X dX4_bidder_18 (by decide) rfl ?_
        refine v_iload X dX4_bidder_20 rfl ?_
        refine v_iload_n X dX4_bidder_22 rfl ?_
        refine v_icmp_eq (tgt := 104) X dX4_bidder_23 (by decide) (fun c_3 => ?_) (fun c_3 => ?_)
        · refine v_iinc (y := ((nI k_1) + 1)) (lv' := [(4, .int ((nI k_1) + 1)), (5, .int ((8 * (nI k_1)) + p1)), (3, .int (lp1_X4_bidder S p1 p2 k_1)), (0, .ref (h 0)), (1, .int p1), (2, .int p2)]) X dX4_bidder_104 rfl rfl (by decide) rfl ?_
          refine v_goto (tgt := 5) X dX4_bidder_107 (by decide) ?_
          refine v_lv [0, 2, 3, 4, 5] rfl ?_
          exact ih_1 (k_1 + 1) ((nI k_1) + 1) (lp1_X4_bidder S p1 p2 k_1) (by omega) (nI_1 k_1) (by rw [e_lp1_X4_bidder]; unfold st1_X4_bidder; rw [if_pos c_3])
        · refine v_aload_n X dX4_bidder_26 rfl ?_
          refine v_getfield (ref := "TrumpvaultModel") (ci := 4) (index := 37) (v := .ref (h 11)) X iX4 0 wM_g0 rfl 11 (by decide) (by decide +kernel) (fun _ h9 => h9) rfl dX4_bidder_27 ?_
          refine v_iload X dX4_bidder_30 rfl ?_
          refine v_iald X 10 0 wM_g11 rfl (vp_8 (vp_in_nI (by omega) (by decide)) in1_8) dX4_bidder_32 ?_
          refine v_if_le (tgt := 104) X dX4_bidder_33 (by decide) (fun c_4 => ?_) (fun c_4 => ?_)
          · refine v_iinc (y := ((nI k_1) + 1)) (lv' := [(4, .int ((nI k_1) + 1)), (5, .int ((8 * (nI k_1)) + p1)), (3, .int (lp1_X4_bidder S p1 p2 k_1)), (0, .ref (h 0)), (1, .int p1), (2, .int p2)]) X dX4_bidder_104 rfl rfl (by decide) rfl ?_
            refine v_goto (tgt := 5) X dX4_bidder_107 (by decide) ?_
            refine v_lv [0, 2, 3, 4, 5] rfl ?_
            exact ih_1 (k_1 + 1) ((nI k_1) + 1) (lp1_X4_bidder S p1 p2 k_1) (by omega) (nI_1 k_1) (by rw [e_lp1_X4_bidder]; unfold st1_X4_bidder; rw [if_neg c_3, if_pos c_4])
          · refine v_iload_n X dX4_bidder_36 rfl ?_
            refine v_iconst (x := (-1)) X dX4_bidder_37 rfl ?_
            refine v_icmp_ne (tgt := 45) X dX4_bidder_38 (by decide) (fun c_5 => ?_) (fun c_5 => ?_)
            · refine v_aload_n X dX4_bidder_45 rfl ?_
              refine v_getfield (ref := "TrumpvaultModel") (ci := 4) (index := 37) (v := .ref (h 11)) X iX4 0 wM_g0 rfl 11 (by decide) (by decide +kernel) (fun _ h9 => h9) rfl dX4_bidder_46 ?_
              refine v_iload X dX4_bidder_49 rfl ?_
              refine v_iald X 10 0 wM_g11 rfl (vp_8 (vp_in_nI (by omega) (by decide)) in1_8) dX4_bidder_51 ?_
              refine v_aload_n X dX4_bidder_52 rfl ?_
              refine v_getfield (ref := "TrumpvaultModel") (ci := 4) (index := 37) (v := .ref (h 11)) X iX4 0 wM_g0 rfl 11 (by decide) (by decide +kernel) (fun _ h9 => h9) rfl dX4_bidder_53 ?_
              refine v_bipush (x := 8) X dX4_bidder_56 rfl ?_
              refine v_iload_n X dX4_bidder_58 rfl ?_
              refine v_imul X dX4_bidder_59 ?_
              refine v_iload_n X dX4_bidder_60 rfl ?_
              refine v_iadd X dX4_bidder_61 ?_
              refine v_iald X 10 0 wM_g11 rfl (vp_8 ((rng_X4_bidder S p1 p2 k_1 (by omega)).resolve_left c_5) in1_8) dX4_bidder_62 ?_
              refine v_isub X dX4_bidder_63 ?_
              refine v_istore (lv' := [(6, .int ((S 11 ((8 * (nI k_1)) + p1).toNatClampNeg) - (S 11 ((8 * (lp1_X4_bidder S p1 p2 k_1)) + p1).toNatClampNeg))), (5, .int ((8 * (nI k_1)) + p1)), (4, .int (nI k_1)), (3, .int (lp1_X4_bidder S p1 p2 k_1)), (0, .ref (h 0)), (1, .int p1), (2, .int p2)]) X dX4_bidder_64 (by decide) rfl ?_
              refine v_iload X dX4_bidder_66 rfl ?_
              refine v_if_gt (tgt := 97) X dX4_bidder_68 (by decide) (fun c_6 => ?_) (fun c_6 => ?_)
              · refine v_iload X dX4_bidder_97 rfl ?_
                refine v_goto (tgt := 103) X dX4_bidder_99 (by decide) ?_
                refine v_istore_n (lv' := [(3, .int (nI k_1)), (6, .int ((S 11 ((8 * (nI k_1)) + p1).toNatClampNeg) - (S 11 ((8 * (lp1_X4_bidder S p1 p2 k_1)) + p1).toNatClampNeg))), (5, .int ((8 * (nI k_1)) + p1)), (4, .int (nI k_1)), (0, .ref (h 0)), (1, .int p1), (2, .int p2)]) X dX4_bidder_103 (by decide) rfl ?_
                refine v_iinc (y := ((nI k_1) + 1)) (lv' := [(4, .int ((nI k_1) + 1)), (3, .int (nI k_1)), (6, .int ((S 11 ((8 * (nI k_1)) + p1).toNatClampNeg) - (S 11 ((8 * (lp1_X4_bidder S p1 p2 k_1)) + p1).toNatClampNeg))), (5, .int ((8 * (nI k_1)) + p1)), (0, .ref (h 0)), (1, .int p1), (2, .int p2)]) X dX4_bidder_104 rfl rfl (by decide) rfl ?_
                refine v_goto (tgt := 5) X dX4_bidder_107 (by decide) ?_
                refine v_lv [0, 1, 4, 5, 6] rfl ?_
                exact ih_1 (k_1 + 1) ((nI k_1) + 1) (nI k_1) (by omega) (nI_1 k_1) (by rw [e_lp1_X4_bidder]; unfold st1_X4_bidder; rw [if_neg c_3, if_neg c_4, if_neg c_5, if_pos c_6])
              · refine v_iload X dX4_bidder_71 rfl ?_
                refine v_if_ne (tgt := 102) X dX4_bidder_73 (by decide) (fun c_7 => ?_) (fun c_7 => ?_)
                · refine v_iload_n X dX4_bidder_102 rfl ?_
                  refine v_istore_n (lv' := [(3, .int (lp1_X4_bidder S p1 p2 k_1)), (6, .int ((S 11 ((8 * (nI k_1)) + p1).toNatClampNeg) - (S 11 ((8 * (lp1_X4_bidder S p1 p2 k_1)) + p1).toNatClampNeg))), (5, .int ((8 * (nI k_1)) + p1)), (4, .int (nI k_1)), (0, .ref (h 0)), (1, .int p1), (2, .int p2)]) X dX4_bidder_103 (by decide) rfl ?_
                  refine v_iinc (y := ((nI k_1) + 1)) (lv' := [(4, .int ((nI k_1) + 1)), (3, .int (lp1_X4_bidder S p1 p2 k_1)), (6, .int ((S 11 ((8 * (nI k_1)) + p1).toNatClampNeg) - (S 11 ((8 * (lp1_X4_bidder S p1 p2 k_1)) + p1).toNatClampNeg))), (5, .int ((8 * (nI k_1)) + p1)), (0, .ref (h 0)), (1, .int p1), (2, .int p2)]) X dX4_bidder_104 rfl rfl (by decide) rfl ?_
                  refine v_goto (tgt := 5) X dX4_bidder_107 (by decide) ?_
                  refine v_lv [0, 1, 4, 5, 6] rfl ?_
                  exact ih_1 (k_1 + 1) ((nI k_1) + 1) (lp1_X4_bidder S p1 p2 k_1) (by omega) (nI_1 k_1) (by rw [e_lp1_X4_bidder]; unfold st1_X4_bidder; rw [if_neg c_3, if_neg c_4, if_neg c_5, if_neg c_6, if_neg c_7])
                · refine v_aload_n X dX4_bidder_76 rfl ?_
                  refine v_getfield (ref := "TrumpvaultModel") (ci := 4) (index := 40) (v := .ref (h 12)) X iX4 0 wM_g0 rfl 12 (by decide) (by decide +kernel) (fun _ h9 => h9) rfl dX4_bidder_77 ?_
                  refine v_iload X dX4_bidder_80 rfl ?_
                  refine v_iald X 11 0 wM_g12 rfl (vp_8 (vp_in_nI (by omega) (by decide)) in1_8) dX4_bidder_82 ?_
                  refine v_aload_n X dX4_bidder_83 rfl ?_
                  refine v_getfield (ref := "TrumpvaultModel") (ci := 4) (index := 40) (v := .ref (h 12)) X iX4 0 wM_g0 rfl 12 (by decide) (by decide +kernel) (fun _ h9 => h9) rfl dX4_bidder_84 ?_
                  refine v_bipush (x := 8) X dX4_bidder_87 rfl ?_
                  refine v_iload_n X dX4_bidder_89 rfl ?_
                  refine v_imul X dX4_bidder_90 ?_
                  refine v_iload_n X dX4_bidder_91 rfl ?_
                  refine v_iadd X dX4_bidder_92 ?_
                  refine v_iald X 11 0 wM_g12 rfl (vp_8 ((rng_X4_bidder S p1 p2 k_1 (by omega)).resolve_left c_5) in1_8) dX4_bidder_93 ?_
                  refine v_icmp_ge (tgt := 102) X dX4_bidder_94 (by decide) (fun c_8 => ?_) (fun c_8 => ?_)
                  · refine v_iload_n X dX4_bidder_102 rfl ?_
                    refine v_istore_n (lv' := [(3, .int (lp1_X4_bidder S p1 p2 k_1)), (6, .int ((S 11 ((8 * (nI k_1)) + p1).toNatClampNeg) - (S 11 ((8 * (lp1_X4_bidder S p1 p2 k_1)) + p1).toNatClampNeg))), (5, .int ((8 * (nI k_1)) + p1)), (4, .int (nI k_1)), (0, .ref (h 0)), (1, .int p1), (2, .int p2)]) X dX4_bidder_103 (by decide) rfl ?_
                    refine v_iinc (y := ((nI k_1) + 1)) (lv' := [(4, .int ((nI k_1) + 1)), (3, .int (lp1_X4_bidder S p1 p2 k_1)), (6, .int ((S 11 ((8 * (nI k_1)) + p1).toNatClampNeg) - (S 11 ((8 * (lp1_X4_bidder S p1 p2 k_1)) + p1).toNatClampNeg))), (5, .int ((8 * (nI k_1)) + p1)), (0, .ref (h 0)), (1, .int p1), (2, .int p2)]) X dX4_bidder_104 rfl rfl (by decide) rfl ?_
                    refine v_goto (tgt := 5) X dX4_bidder_107 (by decide) ?_
                    refine v_lv [0, 1, 4, 5, 6] rfl ?_
                    exact ih_1 (k_1 + 1) ((nI k_1) + 1) (lp1_X4_bidder S p1 p2 k_1) (by omega) (nI_1 k_1) (by rw [e_lp1_X4_bidder]; unfold st1_X4_bidder; rw [if_neg c_3, if_neg c_4, if_neg c_5, if_neg c_6, if_pos c_7, if_pos c_8])
                  · refine v_iload X dX4_bidder_97 rfl ?_
                    refine v_goto (tgt := 103) X dX4_bidder_99 (by decide) ?_
                    refine v_istore_n (lv' := [(3, .int (nI k_1)), (6, .int ((S 11 ((8 * (nI k_1)) + p1).toNatClampNeg) - (S 11 ((8 * (lp1_X4_bidder S p1 p2 k_1)) + p1).toNatClampNeg))), (5, .int ((8 * (nI k_1)) + p1)), (4, .int (nI k_1)), (0, .ref (h 0)), (1, .int p1), (2, .int p2)]) X dX4_bidder_103 (by decide) rfl ?_
                    refine v_iinc (y := ((nI k_1) + 1)) (lv' := [(4, .int ((nI k_1) + 1)), (3, .int (nI k_1)), (6, .int ((S 11 ((8 * (nI k_1)) + p1).toNatClampNeg) - (S 11 ((8 * (lp1_X4_bidder S p1 p2 k_1)) + p1).toNatClampNeg))), (5, .int ((8 * (nI k_1)) + p1)), (0, .ref (h 0)), (1, .int p1), (2, .int p2)]) X dX4_bidder_104 rfl rfl (by decide) rfl ?_
                    refine v_goto (tgt := 5) X dX4_bidder_107 (by decide) ?_
                    refine v_lv [0, 1, 4, 5, 6] rfl ?_
                    exact ih_1 (k_1 + 1) ((nI k_1) + 1) (nI k_1) (by omega) (nI_1 k_1) (by rw [e_lp1_X4_bidder]; unfold st1_X4_bidder; rw [if_neg c_3, if_neg c_4, if_neg c_5, if_neg c_6, if_pos c_7, if_neg c_8])
            · refine v_iconst (x := 1) X dX4_bidder_41 rfl ?_
              refine v_goto (tgt := 64) X dX4_bidder_42 (by decide) ?_
              refine v_istore (lv' := [(6, .int 1), (5, .int ((8 * (nI k_1)) + p1)), (4, .int (nI k_1)), (3, .int (lp1_X4_bidder S p1 p2 k_1)), (0, .ref (h 0)), (1, .int p1), (2, .int p2)]) X dX4_bidder_64 (by decide) rfl ?_
              refine v_iload X dX4_bidder_66 rfl ?_
              refine v_if_gt (tgt := 97) X dX4_bidder_68 (by decide) (fun c_9 => ?_) (fun c_9 => ?_)
              · refine v_iload X dX4_bidder_97 rfl ?_
                refine v_goto (tgt := 103) X dX4_bidder_99 (by decide) ?_
                refine v_istore_n (lv' := [(3, .int (nI k_1)), (6, .int 1), (5, .int ((8 * (nI k_1)) + p1)), (4, .int (nI k_1)), (0, .ref (h 0)), (1, .int p1), (2, .int p2)]) X dX4_bidder_103 (by decide) rfl ?_
                refine v_iinc (y := ((nI k_1) + 1)) (lv' := [(4, .int ((nI k_1) + 1)), (3, .int (nI k_1)), (6, .int 1), (5, .int ((8 * (nI k_1)) + p1)), (0, .ref (h 0)), (1, .int p1), (2, .int p2)]) X dX4_bidder_104 rfl rfl (by decide) rfl ?_
                refine v_goto (tgt := 5) X dX4_bidder_107 (by decide) ?_
                refine v_lv [0, 1, 4, 5, 6] rfl ?_
                exact ih_1 (k_1 + 1) ((nI k_1) + 1) (nI k_1) (by omega) (nI_1 k_1) (by rw [e_lp1_X4_bidder]; unfold st1_X4_bidder; rw [if_neg c_3, if_neg c_4, if_pos c_5])
              · exact absurd (by decide) c_9
  exact L_1 5 0 0 (-1) (Nat.zero_add _) (by exact nI_0.symm) rfl

theorem rngr_X4_bidder (S : St) (a b : Int32) : r_X4_bidder S a b = -1 ∨ vp_in (r_X4_bidder S a b) 5 := rng_X4_bidder S a b 5 (Nat.le_refl _)

def st1_X4_offer (S : St) (p1 p2 : Int32) (k : Nat) (qb3 : Int32) : Int32 :=
  (if (S 4 (nI k).toNatClampNeg) = 1 then (if (S 2 (nI k).toNatClampNeg) = p1 then (if (S 3 (nI k).toNatClampNeg) = p2 then qb3 else (if qb3 = (-1) then (nI k) else (if 0 < ((S 5 qb3.toNatClampNeg) - (S 5 (nI k).toNatClampNeg)) then (nI k) else (if ((S 5 qb3.toNatClampNeg) - (S 5 (nI k).toNatClampNeg)) = 0 then (if (S 6 qb3.toNatClampNeg) ≤ (S 6 (nI k).toNatClampNeg) then qb3 else (nI k)) else qb3)))) else qb3) else qb3)
def lp1_X4_offer (S : St) (p1 p2 : Int32) : Nat → Int32
  | 0 => (-1)
  | k + 1 => st1_X4_offer S p1 p2 k (lp1_X4_offer S p1 p2 k)
theorem e_lp1_X4_offer (S : St) (p1 p2 : Int32) (k : Nat) : lp1_X4_offer S p1 p2 (k + 1) = st1_X4_offer S p1 p2 k (lp1_X4_offer S p1 p2 k) := rfl
def r_X4_offer (S : St) (p1 p2 : Int32) : Int32 :=
  (lp1_X4_offer S p1 p2 (S 0 10).toNatClampNeg)
theorem rng_X4_offer (S : St) (p1 p2 : Int32) (k : Nat) (hk : k ≤ 30) : lp1_X4_offer S p1 p2 k = -1 ∨ vp_in (lp1_X4_offer S p1 p2 k) 30 := by
  induction k with
  | zero => exact Or.inl rfl
  | succ k ih =>
    have ih := ih (by omega)
    have hk2 : vp_in (nI k) 30 := vp_in_nI (by omega) (by decide)
    rw [e_lp1_X4_offer]
    unfold st1_X4_offer
    repeat' split
    all_goals first | exact ih | exact Or.inr hk2
set_option maxHeartbeats 1000000 in
set_option maxRecDepth 100000 in
theorem c_X4_offer (l : Launch) (D : va_G) (cI cII cL : ClassId) (h : Nat → Nat) (S : St) (p1 p2 : Int32) (hmc : cntM S) : v_Mi l D vwCl (tyl cI cII cL) yX4_offer wsX4_offer { frames := 0, cells := 0, slots := 0, locals := 0 } [.ref (h 0), .int p1, .int p2] (wM h cI S) (r_X4_offer S p1 p2) (wM h cI S) := by
  refine v_ofMi (cc := cX4_offer) (maxL := 6) (ret := (some .int)) (own := RX4) (lv0 := [(0, .ref (h 0)), (1, .int p1), (2, .int p2)]) (by decide) rfl rfl rfl (Nat.le_of_ble_eq_true rfl) ?_
  intro p e s m below meth c X hr hk hin
  have iX4 : ∀ w ∈ wsX40, w ∈ wsX4_offer := by decide +kernel
  obtain ⟨N, hN, hN30, hNc⟩ := v_num (M := 30) (by decide) hmc
  refine v_iconst (x := (-1)) X dX4_offer_0 rfl ?_
  refine v_istore_n (lv' := [(3, .int (-1)), (0, .ref (h 0)), (1, .int p1), (2, .int p2)]) X dX4_offer_1 (by decide) rfl ?_
  refine v_iconst (x := 0) X dX4_offer_2 rfl ?_
  refine v_istore (lv' := [(4, .int 0), (3, .int (-1)), (0, .ref (h 0)), (1, .int p1), (2, .int p2)]) X dX4_offer_3 (by decide) rfl ?_
  have L_1 : ∀ (d_1 k_1 : Nat) (i_1 b3_1 : Int32), k_1 + d_1 = N → i_1 = nI k_1 → b3_1 = (lp1_X4_offer S p1 p2 k_1) → v_V p l e { frames := 0, cells := 0, slots := 0, locals := 0 } s m [.ref (h 0), .int p1, .int p2].toArray below meth c D vwCl (va_A (wM h cI S) s.heap.size) 6 (v_Qi below s D vwCl (tyl cI cII cL) { frames := 0, cells := 0, slots := 0, locals := 0 } [.ref (h 0), .int p1, .int p2] (wM h cI S) (r_X4_offer S p1 p2) (wM h cI S)) 0 0 (wM h cI S) 5 [(4, .int i_1), (3, .int b3_1), (0, .ref (h 0)), (1, .int p1), (2, .int p2)] [] := by
    intro d_1
    induction d_1 with
    | zero =>
      intro k_1 i_1 b3_1 hk_1 ei_1 eb3_1
      subst ei_1 eb3_1
      obtain rfl : N = k_1 := by omega
      refine v_iload X dX4_offer_5 rfl ?_
      refine v_aload_n X dX4_offer_7 rfl ?_
      refine v_getfield (ref := "TrumpvaultModel") (ci := 4) (index := 58) (v := .int (S 0 10)) X iX4 0 wM_g0 rfl 10 (by decide) (by decide +kernel) (fun _ h9 => h9) rfl dX4_offer_8 ?_
      refine v_icmp_ge (tgt := 111) X dX4_offer_11 (by decide) (fun c_1 => ?_) (fun c_1 => ?_)
      · refine v_iload_n X dX4_offer_111 rfl ?_
        exact v_reti X hr hk rfl (by unfold r_X4_offer; rw [hNc]) rfl (Nat.le_of_ble_eq_true rfl) (Nat.le_of_ble_eq_true rfl) dX4_offer_112
      · exact absurd (by rw [hN]; exact nI_le (Nat.le_refl _) (by omega)) c_1
    | succ d_1 ih_1 =>
      intro k_1 i_1 b3_1 hk_1 ei_1 eb3_1
      subst ei_1 eb3_1
      have hlt_1 : k_1 < N := by omega
      refine v_iload X dX4_offer_5 rfl ?_
      refine v_aload_n X dX4_offer_7 rfl ?_
      refine v_getfield (ref := "TrumpvaultModel") (ci := 4) (index := 58) (v := .int (S 0 10)) X iX4 0 wM_g0 rfl 10 (by decide) (by decide +kernel) (fun _ h9 => h9) rfl dX4_offer_8 ?_
      refine v_icmp_ge (tgt := 111) X dX4_offer_11 (by decide) (fun c_2 => ?_) (fun c_2 => ?_)
      · exact absurd c_2 (by rw [hN]; exact nI_ge hlt_1 (by omega))
      · refine v_aload_n X dX4_offer_14 rfl ?_
        refine v_getfield (ref := "TrumpvaultModel") (ci := 4) (index := 19) (v := .ref (h 4)) X iX4 0 wM_g0 rfl 4 (by decide) (by decide +kernel) (fun _ h9 => h9) rfl dX4_offer_15 ?_
        refine v_iload X dX4_offer_18 rfl ?_
        refine v_iald X 4 0 wM_g4 rfl (vp_in_nI (by omega) (by decide)) dX4_offer_20 ?_
        refine v_iconst (x := 1) X dX4_offer_21 rfl ?_
        refine v_icmp_ne (tgt := 105) X dX4_offer_22 (by decide) (fun c_3 => ?_) (fun c_3 => ?_)
        · refine v_iinc (y := ((nI k_1) + 1)) (lv' := [(4, .int ((nI k_1) + 1)), (3, .int (lp1_X4_offer S p1 p2 k_1)), (0, .ref (h 0)), (1, .int p1), (2, .int p2)]) X dX4_offer_105 rfl rfl (by decide) rfl ?_
          refine v_goto (tgt := 5) X dX4_offer_108 (by decide) ?_
          refine v_lv [0, 1, 2, 3, 4] rfl ?_
          exact ih_1 (k_1 + 1) ((nI k_1) + 1) (lp1_X4_offer S p1 p2 k_1) (by omega) (nI_1 k_1) (by rw [e_lp1_X4_offer]; unfold st1_X4_offer; rw [if_neg c_3])
        · refine v_aload_n X dX4_offer_25 rfl ?_
          refine v_getfield (ref := "TrumpvaultModel") (ci := 4) (index := 13) (v := .ref (h 2)) X iX4 0 wM_g0 rfl 2 (by decide) (by decide +kernel) (fun _ h9 => h9) rfl dX4_offer_26 ?_
          refine v_iload X dX4_offer_29 rfl ?_
          refine v_iald X 2 0 wM_g2 rfl (vp_in_nI (by omega) (by decide)) dX4_offer_31 ?_
          refine v_iload_n X dX4_offer_32 rfl ?_
          refine v_icmp_ne (tgt := 105) X dX4_offer_33 (by decide) (fun c_4 => ?_) (fun c_4 => ?_)
          · refine v_iinc (y := ((nI k_1) + 1)) (lv' := [(4, .int ((nI k_1) + 1)), (3, .int (lp1_X4_offer S p1 p2 k_1)), (0, .ref (h 0)), (1, .int p1), (2, .int p2)]) X dX4_offer_105 rfl rfl (by decide) rfl ?_
            refine v_goto (tgt := 5) X dX4_offer_108 (by decide) ?_
            refine v_lv [0, 1, 2, 3, 4] rfl ?_
            exact ih_1 (k_1 + 1) ((nI k_1) + 1) (lp1_X4_offer S p1 p2 k_1) (by omega) (nI_1 k_1) (by rw [e_lp1_X4_offer]; unfold st1_X4_offer; rw [if_pos c_3, if_neg c_4])
          · refine v_aload_n X dX4_offer_36 rfl ?_
            refine v_getfield (ref := "TrumpvaultModel") (ci := 4) (index := 16) (v := .ref (h 3)) X iX4 0 wM_g0 rfl 3 (by decide) (by decide +kernel) (fun _ h9 => h9) rfl dX4_offer_37 ?_
            refine v_iload X dX4_offer_40 rfl ?_
            refine v_iald X 3 0 wM_g3 rfl (vp_in_nI (by omega) (by decide)) dX4_offer_42 ?_
            refine v_iload_n X dX4_offer_43 rfl ?_
            refine v_icmp_eq (tgt := 105) X dX4_offer_44 (by decide) (fun c_5 => ?_) (fun c_5 => ?_)
            · refine v_iinc (y := ((nI k_1) + 1)) (lv' := [(4, .int ((nI k_1) + 1)), (3, .int (lp1_X4_offer S p1 p2 k_1)), (0, .ref (h 0)), (1, .int p1), (2, .int p2)]) X dX4_offer_105 rfl rfl (by decide) rfl ?_
              refine v_goto (tgt := 5) X dX4_offer_108 (by decide) ?_
              refine v_lv [0, 1, 2, 3, 4] rfl ?_
              exact ih_1 (k_1 + 1) ((nI k_1) + 1) (lp1_X4_offer S p1 p2 k_1) (by omega) (nI_1 k_1) (by rw [e_lp1_X4_offer]; unfold st1_X4_offer; rw [if_pos c_3, if_pos c_4, if_pos c_5])
            · refine v_iload_n X dX4_offer_47 rfl ?_
              refine v_iconst (x := (-1)) X dX4_offer_48 rfl ?_
              refine v_icmp_ne (tgt := 56) X dX4_offer_49 (by decide) (fun c_6 => ?_) (fun c_6 => ?_)
              · refine v_aload_n X dX4_offer_56 rfl ?_
                refine v_getfield (ref := "TrumpvaultModel") (ci := 4) (index := 22) (v := .ref (h 5)) X iX4 0 wM_g0 rfl 5 (by decide) (by decide +kernel) (fun _ h9 => h9) rfl dX4_offer_57 ?_
                refine v_iload_n X dX4_offer_60 rfl ?_
                refine v_iald X 5 0 wM_g5 rfl ((rng_X4_offer S p1 p2 k_1 (by omega)).resolve_left c_6) dX4_offer_61 ?_
                refine v_aload_n X dX4_offer_62 rfl ?_
                refine v_getfield (ref := "TrumpvaultModel") (ci := 4) (index := 22) (v := .ref (h 5)) X iX4 0 wM_g0 rfl 5 (by decide) (by decide +kernel) (fun _ h9 => h9) rfl dX4_offer_63 ?_
                refine v_iload X dX4_offer_66 rfl ?_
                refine v_iald X 5 0 wM_g5 rfl (vp_in_nI (by omega) (by decide)) dX4_offer_68 ?_
                refine v_isub X dX4_offer_69 ?_
                refine v_istore (lv' := [(5, .int ((S 5 (lp1_X4_offer S p1 p2 k_1).toNatClampNeg) - (S 5 (nI k_1).toNatClampNeg))), (4, .int (nI k_1)), (3, .int (lp1_X4_offer S p1 p2 k_1)), (0, .ref (h 0)), (1, .int p1), (2, .int p2)]) X dX4_offer_70 (by decide) rfl ?_
                refine v_iload X dX4_offer_72 rfl ?_
                refine v_if_gt (tgt := 98) X dX4_offer_74 (by decide) (fun c_7 => ?_) (fun c_7 => ?_)
                · refine v_iload X dX4_offer_98 rfl ?_
                  refine v_goto (tgt := 104) X dX4_offer_100 (by decide) ?_
                  refine v_istore_n (lv' := [(3, .int (nI k_1)), (5, .int ((S 5 (lp1_X4_offer S p1 p2 k_1).toNatClampNeg) - (S 5 (nI k_1).toNatClampNeg))), (4, .int (nI k_1)), (0, .ref (h 0)), (1, .int p1), (2, .int p2)]) X dX4_offer_104 (by decide) rfl ?_
                  refine v_iinc (y := ((nI k_1) + 1)) (lv' := [(4, .int ((nI k_1) + 1)), (3, .int (nI k_1)), (5, .int ((S 5 (lp1_X4_offer S p1 p2 k_1).toNatClampNeg) - (S 5 (nI k_1).toNatClampNeg))), (0, .ref (h 0)), (1, .int p1), (2, .int p2)]) X dX4_offer_105 rfl rfl (by decide) rfl ?_
                  refine v_goto (tgt := 5) X dX4_offer_108 (by decide) ?_
                  refine v_lv [0, 1, 3, 4, 5] rfl ?_
                  exact ih_1 (k_1 + 1) ((nI k_1) + 1) (nI k_1) (by omega) (nI_1 k_1) (by rw [e_lp1_X4_offer]; unfold st1_X4_offer; rw [if_pos c_3, if_pos c_4, if_neg c_5, if_neg c_6, if_pos c_7])
                · refine v_iload X dX4_offer_77 rfl ?_
                  refine v_if_ne (tgt := 103) X dX4_offer_79 (by decide) (fun c_8 => ?_) (fun c_8 => ?_)
                  · refine v_iload_n X dX4_offer_103 rfl ?_
                    refine v_istore_n (lv' := [(3, .int (lp1_X4_offer S p1 p2 k_1)), (5, .int ((S 5 (lp1_X4_offer S p1 p2 k_1).toNatClampNeg) - (S 5 (nI k_1).toNatClampNeg))), (4, .int (nI k_1)), (0, .ref (h 0)), (1, .int p1), (2, .int p2)]) X dX4_offer_104 (by decide) rfl ?_
                    refine v_iinc (y := ((nI k_1) + 1)) (lv' := [(4, .int ((nI k_1) + 1)), (3, .int (lp1_X4_offer S p1 p2 k_1)), (5, .int ((S 5 (lp1_X4_offer S p1 p2 k_1).toNatClampNeg) - (S 5 (nI k_1).toNatClampNeg))), (0, .ref (h 0)), (1, .int p1), (2, .int p2)]) X dX4_offer_105 rfl rfl (by decide) rfl ?_
                    refine v_goto (tgt := 5) X dX4_offer_108 (by decide) ?_
                    refine v_lv [0, 1, 3, 4, 5] rfl ?_
                    exact ih_1 (k_1 + 1) ((nI k_1) + 1) (lp1_X4_offer S p1 p2 k_1) (by omega) (nI_1 k_1) (by rw [e_lp1_X4_offer]; unfold st1_X4_offer; rw [if_pos c_3, if_pos c_4, if_neg c_5, if_neg c_6, if_neg c_7, if_neg c_8])
                  · refine v_aload_n X dX4_offer_82 rfl ?_
                    refine v_getfield (ref := "TrumpvaultModel") (ci := 4) (index := 25) (v := .ref (h 6)) X iX4 0 wM_g0 rfl 6 (by decide) (by decide +kernel) (fun _ h9 => h9) rfl dX4_offer_83 ?_
                    refine v_iload X dX4_offer_86 rfl ?_
                    refine v_iald X 6 0 wM_g6 rfl (vp_in_nI (by omega) (by decide)) dX4_offer_88 ?_
                    refine v_aload_n X dX4_offer_89 rfl ?_
                    refine v_getfield (ref := "TrumpvaultModel") (ci := 4) (index := 25) (v := .ref (h 6)) X iX4 0 wM_g0 rfl 6 (by decide) (by decide +kernel) (fun _ h9 => h9) rfl dX4_offer_90 ?_
                    refine v_iload_n X dX4_offer_93 rfl ?_
                    refine v_iald X 6 0 wM_g6 rfl ((rng_X4_offer S p1 p2 k_1 (by omega)).resolve_left c_6) dX4_offer_94 ?_
                    refine v_icmp_ge (tgt := 103) X dX4_offer_95 (by decide) (fun c_9 => ?_) (fun c_9 => ?_)
                    · refine v_iload_n X dX4_offer_103 rfl ?_
                      refine v_istore_n (lv' := [(3, .int (lp1_X4_offer S p1 p2 k_1)), (5, .int ((S 5 (lp1_X4_offer S p1 p2 k_1).toNatClampNeg) - (S 5 (nI k_1).toNatClampNeg))), (4, .int (nI k_1)), (0, .ref (h 0)), (1, .int p1), (2, .int p2)]) X dX4_offer_104 (by decide) rfl ?_
                      refine v_iinc (y := ((nI k_1) + 1)) (lv' := [(4, .int ((nI k_1) + 1)), (3, .int (lp1_X4_offer S p1 p2 k_1)), (5, .int ((S 5 (lp1_X4_offer S p1 p2 k_1).toNatClampNeg) - (S 5 (nI k_1).toNatClampNeg))), (0, .ref (h 0)), (1, .int p1), (2, .int p2)]) X dX4_offer_105 rfl rfl (by decide) rfl ?_
                      refine v_goto (tgt := 5) X dX4_offer_108 (by decide) ?_
                      refine v_lv [0, 1, 3, 4, 5] rfl ?_
                      exact ih_1 (k_1 + 1) ((nI k_1) + 1) (lp1_X4_offer S p1 p2 k_1) (by omega) (nI_1 k_1) (by rw [e_lp1_X4_offer]; unfold st1_X4_offer; rw [if_pos c_3, if_pos c_4, if_neg c_5, if_neg c_6, if_neg c_7, if_pos c_8, if_pos c_9])
                    · refine v_iload X dX4_offer_98 rfl ?_
                      refine v_goto (tgt := 104) X dX4_offer_100 (by decide) ?_
                      refine v_istore_n (lv' := [(3, .int (nI k_1)), (5, .int ((S 5 (lp1_X4_offer S p1 p2 k_1).toNatClampNeg) - (S 5 (nI k_1).toNatClampNeg))), (4, .int (nI k_1)), (0, .ref (h 0)), (1, .int p1), (2, .int p2)]) X dX4_offer_104 (by decide) rfl ?_
                      refine v_iinc (y := ((nI k_1) + 1)) (lv' := [(4, .int ((nI k_1) + 1)), (3, .int (nI k_1)), (5, .int ((S 5 (lp1_X4_offer S p1 p2 k_1).toNatClampNeg) - (S 5 (nI k_1).toNatClampNeg))), (0, .ref (h 0)), (1, .int p1), (2, .int p2)]) X dX4_offer_105 rfl rfl (by decide) rfl ?_
                      refine v_goto (tgt := 5) X dX4_offer_108 (by decide) ?_
                      refine v_lv [0, 1, 3, 4, 5] rfl ?_
                      exact ih_1 (k_1 + 1) ((nI k_1) + 1) (nI k_1) (by omega) (nI_1 k_1) (by rw [e_lp1_X4_offer]; unfold st1_X4_offer; rw [if_pos c_3, if_pos c_4, if_neg c_5, if_neg c_6, if_neg c_7, if_pos c_8, if_neg c_9])
              · refine v_iconst (x := 1) X dX4_offer_52 rfl ?_
                refine v_goto (tgt := 70) X dX4_offer_53 (by decide) ?_
                refine v_istore (lv' := [(5, .int 1), (4, .int (nI k_1)), (3, .int (lp1_X4_offer S p1 p2 k_1)), (0, .ref (h 0)), (1, .int p1), (2, .int p2)]) X dX4_offer_70 (by decide) rfl ?_
                refine v_iload X dX4_offer_72 rfl ?_
                refine v_if_gt (tgt := 98) X dX4_offer_74 (by decide) (fun c_10 => ?_) (fun c_10 => ?_)
                · refine v_iload X dX4_offer_98 rfl ?_
                  refine v_goto (tgt := 104) X dX4_offer_100 (by decide) ?_
                  refine v_istore_n (lv' := [(3, .int (nI k_1)), (5, .int 1), (4, .int (nI k_1)), (0, .ref (h 0)), (1, .int p1), (2, .int p2)]) X dX4_offer_104 (by decide) rfl ?_
                  refine v_iinc (y := ((nI k_1) + 1)) (lv' := [(4, .int ((nI k_1) + 1)), (3, .int (nI k_1)), (5, .int 1), (0, .ref (h 0)), (1, .int p1), (2, .int p2)]) X dX4_offer_105 rfl rfl (by decide) rfl ?_
                  refine v_goto (tgt := 5) X dX4_offer_108 (by decide) ?_
                  refine v_lv [0, 1, 3, 4, 5] rfl ?_
                  exact ih_1 (k_1 + 1) ((nI k_1) + 1) (nI k_1) (by omega) (nI_1 k_1) (by rw [e_lp1_X4_offer]; unfold st1_X4_offer; rw [if_pos c_3, if_pos c_4, if_neg c_5, if_pos c_6])
                · exact absurd (by decide) c_10
  exact L_1 N 0 0 (-1) (Nat.zero_add _) (by exact nI_0.symm) rfl

theorem rngr_X4_offer {S : St} (hc : cntM S) (a b : Int32) : r_X4_offer S a b = -1 ∨ vp_in (r_X4_offer S a b) 30 := rng_X4_offer S a b _ (cntM_le hc)
