theorem own_of {S' S : St} {c N : Nat} (e : S' c = S c) (h : ∀ j, vp_in (S c j) N) : ∀ j, vp_in (S' c j) N := fun j => by rw [e]; exact h j
theorem his_of {S' S : St} (e : S' 26 = S 26) (h : hisC S) : hisC S' := by unfold hisC; rw [e]; exact h
theorem cnt_of {S' S : St} (e : S' 4 = S 4) (h : cntC S) : cntC S' := by unfold cntC; rw [e]; exact h
section V10
variable {p : Program} {l : Launch} {e : Env} {R : Room} {s : State} {m : MethodId} {args : Array Value} {below : List Frame} {meth : Method} {c : Code} {cc : ByteArray} {own : String} {Ts : List Cond} {nL : Nat} {D : va_G} {cl : List vw_C} {tys : List (ClassId × FieldType)} {A : Nat → Prop} {Q : State → Prop} {cells slots : Nat} {w : va_W} {pc : Nat} {lv : List (Nat × Value)} {st : List Value} {x y : Int32}
theorem v_ldcw (X : v_C p s m args c cc own Ts nL D cl tys A) {index : Nat} (hc : Jvm.Cond.constant own index x ∈ Ts) (hdg : decode cc pc = .ok (.ldc_w index, 3)) (k : v_V p l e R s m args below meth c D cl A nL Q cells slots w (pc + 3) lv (.int x :: st)) : v_V p l e R s m args below meth c D cl A nL Q cells slots w pc lv st :=
  fun H locs ls hP hD hS hl => lv_ldcw X.1 X.2.1 X.2.2.1 (X.2.2.2.1 _ hc) hdg (k H locs ls hP hD hS hl)
theorem v_iushr (X : v_C p s m args c cc own Ts nL D cl tys A) (hdg : decode cc pc = .ok (.iushr, 1)) (k : v_V p l e R s m args below meth c D cl A nL Q cells slots w (pc + 1) lv (.int ((x.toUInt32 >>> (y.toUInt32 &&& Int32.toUInt32 31)).toInt32) :: st)) : v_V p l e R s m args below meth c D cl A nL Q cells slots w pc lv (.int y :: .int x :: st) :=
  fun H locs ls hP hD hS hl => lv_iushr X.1 X.2.1 hdg rfl (k H locs ls hP hD hS hl)
end V10
def r_J6_bitCount_0f7a4 (p0 : Int32) : Int32 :=
  ((((((((p0 - (((p0).toUInt32 >>> ((1 : Int32).toUInt32 &&& Int32.toUInt32 31)).toInt32 &&& 1431655765)) &&& 858993459) + ((((p0 - (((p0).toUInt32 >>> ((1 : Int32).toUInt32 &&& Int32.toUInt32 31)).toInt32 &&& 1431655765))).toUInt32 >>> ((2 : Int32).toUInt32 &&& Int32.toUInt32 31)).toInt32 &&& 858993459)) + (((((p0 - (((p0).toUInt32 >>> ((1 : Int32).toUInt32 &&& Int32.toUInt32 31)).toInt32 &&& 1431655765)) &&& 858993459) + ((((p0 - (((p0).toUInt32 >>> ((1 : Int32).toUInt32 &&& Int32.toUInt32 31)).toInt32 &&& 1431655765))).toUInt32 >>> ((2 : Int32).toUInt32 &&& Int32.toUInt32 31)).toInt32 &&& 858993459))).toUInt32 >>> ((4 : Int32).toUInt32 &&& Int32.toUInt32 31)).toInt32) &&& 252645135) + (((((((p0 - (((p0).toUInt32 >>> ((1 : Int32).toUInt32 &&& Int32.toUInt32 31)).toInt32 &&& 1431655765)) &&& 858993459) + ((((p0 - (((p0).toUInt32 >>> ((1 : Int32).toUInt32 &&& Int32.toUInt32 31)).toInt32 &&& 1431655765))).toUInt32 >>> ((2 : Int32).toUInt32 &&& Int32.toUInt32 31)).toInt32 &&& 858993459)) + (((((p0 - (((p0).toUInt32 >>> ((1 : Int32).toUInt32 &&& Int32.toUInt32 31)).toInt32 &&& 1431655765)) &&& 858993459) + ((((p0 - (((p0).toUInt32 >>> ((1 : Int32).toUInt32 &&& Int32.toUInt32 31)).toInt32 &&& 1431655765))).toUInt32 >>> ((2 : Int32).toUInt32 &&& Int32.toUInt32 31)).toInt32 &&& 858993459))).toUInt32 >>> ((4 : Int32).toUInt32 &&& Int32.toUInt32 31)).toInt32) &&& 252645135)).toUInt32 >>> ((8 : Int32).toUInt32 &&& Int32.toUInt32 31)).toInt32) + ((((((((p0 - (((p0).toUInt32 >>> ((1 : Int32).toUInt32 &&& Int32.toUInt32 31)).toInt32 &&& 1431655765)) &&& 858993459) + ((((p0 - (((p0).toUInt32 >>> ((1 : Int32).toUInt32 &&& Int32.toUInt32 31)).toInt32 &&& 1431655765))).toUInt32 >>> ((2 : Int32).toUInt32 &&& Int32.toUInt32 31)).toInt32 &&& 858993459)) + (((((p0 - (((p0).toUInt32 >>> ((1 : Int32).toUInt32 &&& Int32.toUInt32 31)).toInt32 &&& 1431655765)) &&& 858993459) + ((((p0 - (((p0).toUInt32 >>> ((1 : Int32).toUInt32 &&& Int32.toUInt32 31)).toInt32 &&& 1431655765))).toUInt32 >>> ((2 : Int32).toUInt32 &&& Int32.toUInt32 31)).toInt32 &&& 858993459))).toUInt32 >>> ((4 : Int32).toUInt32 &&& Int32.toUInt32 31)).toInt32) &&& 252645135) + (((((((p0 - (((p0).toUInt32 >>> ((1 : Int32).toUInt32 &&& Int32.toUInt32 31)).toInt32 &&& 1431655765)) &&& 858993459) + ((((p0 - (((p0).toUInt32 >>> ((1 : Int32).toUInt32 &&& Int32.toUInt32 31)).toInt32 &&& 1431655765))).toUInt32 >>> ((2 : Int32).toUInt32 &&& Int32.toUInt32 31)).toInt32 &&& 858993459)) + (((((p0 - (((p0).toUInt32 >>> ((1 : Int32).toUInt32 &&& Int32.toUInt32 31)).toInt32 &&& 1431655765)) &&& 858993459) + ((((p0 - (((p0).toUInt32 >>> ((1 : Int32).toUInt32 &&& Int32.toUInt32 31)).toInt32 &&& 1431655765))).toUInt32 >>> ((2 : Int32).toUInt32 &&& Int32.toUInt32 31)).toInt32 &&& 858993459))).toUInt32 >>> ((4 : Int32).toUInt32 &&& Int32.toUInt32 31)).toInt32) &&& 252645135)).toUInt32 >>> ((8 : Int32).toUInt32 &&& Int32.toUInt32 31)).toInt32)).toUInt32 >>> ((16 : Int32).toUInt32 &&& Int32.toUInt32 31)).toInt32) &&& 63)
set_option maxHeartbeats 1000000 in
set_option maxRecDepth 100000 in
theorem c_J6_bitCount_0f7a4 (l : Launch) (D : va_G) (cI cII cL : ClassId) (p0 : Int32) : v_Mi l D vwCl (tyl cI cII cL) yJ6_bitCount_0f7a4 wsJ6_bitCount_0f7a4 { frames := 0, cells := 0, slots := 0, locals := 0 } [.int p0] [] (r_J6_bitCount_0f7a4 p0) [] := by
  refine v_ofMi (cc := cJ6_bitCount_0f7a4) (maxL := 1) (ret := (some .int)) (own := RJ6) (lv0 := [(0, .int p0)]) (by decide) rfl rfl rfl (Nat.le_of_ble_eq_true rfl) ?_
  intro p e s m below meth c X hr hk hin
  refine v_iload_n X dJ6_bitCount_0f7a4_0 rfl ?_
  refine v_iload_n X dJ6_bitCount_0f7a4_1 rfl ?_
  refine v_iconst (x := 1) X dJ6_bitCount_0f7a4_2 rfl ?_
  refine v_iushr X dJ6_bitCount_0f7a4_3 ?_
  refine v_ldcw (x := 1431655765) X (by decide +kernel) dJ6_bitCount_0f7a4_4 ?_
  refine v_iand X dJ6_bitCount_0f7a4_7 ?_
  refine v_isub X dJ6_bitCount_0f7a4_8 ?_
  refine v_istore_n (lv' := [(0, .int (p0 - (((p0).toUInt32 >>> ((1 : Int32).toUInt32 &&& Int32.toUInt32 31)).toInt32 &&& 1431655765)))]) X dJ6_bitCount_0f7a4_9 (by decide) rfl ?_
  refine v_iload_n X dJ6_bitCount_0f7a4_10 rfl ?_
  refine v_ldcw (x := 858993459) X (by decide +kernel) dJ6_bitCount_0f7a4_11 ?_
  refine v_iand X dJ6_bitCount_0f7a4_14 ?_
  refine v_iload_n X dJ6_bitCount_0f7a4_15 rfl ?_
  refine v_iconst (x := 2) X dJ6_bitCount_0f7a4_16 rfl ?_
  refine v_iushr X dJ6_bitCount_0f7a4_17 ?_
  refine v_ldcw (x := 858993459) X (by decide +kernel) dJ6_bitCount_0f7a4_18 ?_
  refine v_iand X dJ6_bitCount_0f7a4_21 ?_
  refine v_iadd X dJ6_bitCount_0f7a4_22 ?_
  refine v_istore_n (lv' := [(0, .int (((p0 - (((p0).toUInt32 >>> ((1 : Int32).toUInt32 &&& Int32.toUInt32 31)).toInt32 &&& 1431655765)) &&& 858993459) + ((((p0 - (((p0).toUInt32 >>> ((1 : Int32).toUInt32 &&& Int32.toUInt32 31)).toInt32 &&& 1431655765))).toUInt32 >>> ((2 : Int32).toUInt32 &&& Int32.toUInt32 31)).toInt32 &&& 858993459)))]) X dJ6_bitCount_0f7a4_23 (by decide) rfl ?_
  refine v_iload_n X dJ6_bitCount_0f7a4_24 rfl ?_
  refine v_iload_n X dJ6_bitCount_0f7a4_25 rfl ?_
  refine v_iconst (x := 4) X dJ6_bitCount_0f7a4_26 rfl ?_
  refine v_iushr X dJ6_bitCount_0f7a4_27 ?_
  refine v_iadd X dJ6_bitCount_0f7a4_28 ?_
  refine v_ldcw (x := 252645135) X (by decide +kernel) dJ6_bitCount_0f7a4_29 ?_
  refine v_iand X dJ6_bitCount_0f7a4_32 ?_
  refine v_istore_n (lv' := [(0, .int (((((p0 - (((p0).toUInt32 >>> ((1 : Int32).toUInt32 &&& Int32.toUInt32 31)).toInt32 &&& 1431655765)) &&& 858993459) + ((((p0 - (((p0).toUInt32 >>> ((1 : Int32).toUInt32 &&& Int32.toUInt32 31)).toInt32 &&& 1431655765))).toUInt32 >>> ((2 : Int32).toUInt32 &&& Int32.toUInt32 31)).toInt32 &&& 858993459)) + (((((p0 - (((p0).toUInt32 >>> ((1 : Int32).toUInt32 &&& Int32.toUInt32 31)).toInt32 &&& 1431655765)) &&& 858993459) + ((((p0 - (((p0).toUInt32 >>> ((1 : Int32).toUInt32 &&& Int32.toUInt32 31)).toInt32 &&& 1431655765))).toUInt32 >>> ((2 : Int32).toUInt32 &&& Int32.toUInt32 31)).toInt32 &&& 858993459))).toUInt32 >>> ((4 : Int32).toUInt32 &&& Int32.toUInt32 31)).toInt32) &&& 252645135))]) X dJ6_bitCount_0f7a4_33 (by decide) rfl ?_
  refine v_iload_n X dJ6_bitCount_0f7a4_34 rfl ?_
  refine v_iload_n X dJ6_bitCount_0f7a4_35 rfl ?_
  refine v_bipush (x := 8) X dJ6_bitCount_0f7a4_36 rfl ?_
  refine v_iushr X dJ6_bitCount_0f7a4_38 ?_
  refine v_iadd X dJ6_bitCount_0f7a4_39 ?_
  refine v_istore_n (lv' := [(0, .int ((((((p0 - (((p0).toUInt32 >>> ((1 : Int32).toUInt32 &&& Int32.toUInt32 31)).toInt32 &&& 1431655765)) &&& 858993459) + ((((p0 - (((p0).toUInt32 >>> ((1 : Int32).toUInt32 &&& Int32.toUInt32 31)).toInt32 &&& 1431655765))).toUInt32 >>> ((2 : Int32).toUInt32 &&& Int32.toUInt32 31)).toInt32 &&& 858993459)) + (((((p0 - (((p0).toUInt32 >>> ((1 : Int32).toUInt32 &&& Int32.toUInt32 31)).toInt32 &&& 1431655765)) &&& 858993459) + ((((p0 - (((p0).toUInt32 >>> ((1 : Int32).toUInt32 &&& Int32.toUInt32 31)).toInt32 &&& 1431655765))).toUInt32 >>> ((2 : Int32).toUInt32 &&& Int32.toUInt32 31)).toInt32 &&& 858993459))).toUInt32 >>> ((4 : Int32).toUInt32 &&& Int32.toUInt32 31)).toInt32) &&& 252645135) + (((((((p0 - (((p0).toUInt32 >>> ((1 : Int32).toUInt32 &&& Int32.toUInt32 31)).toInt32 &&& 1431655765)) &&& 858993459) + ((((p0 - (((p0).toUInt32 >>> ((1 : Int32).toUInt32 &&& Int32.toUInt32 31)).toInt32 &&& 1431655765))).toUInt32 >>> ((2 : Int32).toUInt32 &&& Int32.toUInt32 31)).toInt32 &&& 858993459)) + (((((p0 - (((p0).toUInt32 >>> ((1 : Int32).toUInt32 &&& Int32.toUInt32 31)).toInt32 &&& 1431655765)) &&& 858993459) + ((((p0 - (((p0).toUInt32 >>> ((1 : Int32).toUInt32 &&& Int32.toUInt32 31)).toInt32 &&& 1431655765))).toUInt32 >>> ((2 : Int32).toUInt32 &&& Int32.toUInt32 31)).toInt32 &&& 858993459))).toUInt32 >>> ((4 : Int32).toUInt32 &&& Int32.toUInt32 31)).toInt32) &&& 252645135)).toUInt32 >>> ((8 : Int32).toUInt32 &&& Int32.toUInt32 31)).toInt32))]) X dJ6_bitCount_0f7a4_40 (by decide) rfl ?_
  refine v_iload_n X dJ6_bitCount_0f7a4_41 rfl ?_
  refine v_iload_n X dJ6_bitCount_0f7a4_42 rfl ?_
  refine v_bipush (x := 16) X dJ6_bitCount_0f7a4_43 rfl ?_
  refine v_iushr X dJ6_bitCount_0f7a4_45 ?_
  refine v_iadd X dJ6_bitCount_0f7a4_46 ?_
  refine v_istore_n (lv' := [(0, .int (((((((p0 - (((p0).toUInt32 >>> ((1 : Int32).toUInt32 &&& Int32.toUInt32 31)).toInt32 &&& 1431655765)) &&& 858993459) + ((((p0 - (((p0).toUInt32 >>> ((1 : Int32).toUInt32 &&& Int32.toUInt32 31)).toInt32 &&& 1431655765))).toUInt32 >>> ((2 : Int32).toUInt32 &&& Int32.toUInt32 31)).toInt32 &&& 858993459)) + (((((p0 - (((p0).toUInt32 >>> ((1 : Int32).toUInt32 &&& Int32.toUInt32 31)).toInt32 &&& 1431655765)) &&& 858993459) + ((((p0 - (((p0).toUInt32 >>> ((1 : Int32).toUInt32 &&& Int32.toUInt32 31)).toInt32 &&& 1431655765))).toUInt32 >>> ((2 : Int32).toUInt32 &&& Int32.toUInt32 31)).toInt32 &&& 858993459))).toUInt32 >>> ((4 : Int32).toUInt32 &&& Int32.toUInt32 31)).toInt32) &&& 252645135) + (((((((p0 - (((p0).toUInt32 >>> ((1 : Int32).toUInt32 &&& Int32.toUInt32 31)).toInt32 &&& 1431655765)) &&& 858993459) + ((((p0 - (((p0).toUInt32 >>> ((1 : Int32).toUInt32 &&& Int32.toUInt32 31)).toInt32 &&& 1431655765))).toUInt32 >>> ((2 : Int32).toUInt32 &&& Int32.toUInt32 31)).toInt32 &&& 858993459)) + (((((p0 - (((p0).toUInt32 >>> ((1 : Int32).toUInt32 &&& Int32.toUInt32 31)).toInt32 &&& 1431655765)) &&& 858993459) + ((((p0 - (((p0).toUInt32 >>> ((1 : Int32).toUInt32 &&& Int32.toUInt32 31)).toInt32 &&& 1431655765))).toUInt32 >>> ((2 : Int32).toUInt32 &&& Int32.toUInt32 31)).toInt32 &&& 858993459))).toUInt32 >>> ((4 : Int32).toUInt32 &&& Int32.toUInt32 31)).toInt32) &&& 252645135)).toUInt32 >>> ((8 : Int32).toUInt32 &&& Int32.toUInt32 31)).toInt32) + ((((((((p0 - (((p0).toUInt32 >>> ((1 : Int32).toUInt32 &&& Int32.toUInt32 31)).toInt32 &&& 1431655765)) &&& 858993459) + ((((p0 - (((p0).toUInt32 >>> ((1 : Int32).toUInt32 &&& Int32.toUInt32 31)).toInt32 &&& 1431655765))).toUInt32 >>> ((2 : Int32).toUInt32 &&& Int32.toUInt32 31)).toInt32 &&& 858993459)) + (((((p0 - (((p0).toUInt32 >>> ((1 : Int32).toUInt32 &&& Int32.toUInt32 31)).toInt32 &&& 1431655765)) &&& 858993459) + ((((p0 - (((p0).toUInt32 >>> ((1 : Int32).toUInt32 &&& Int32.toUInt32 31)).toInt32 &&& 1431655765))).toUInt32 >>> ((2 : Int32).toUInt32 &&& Int32.toUInt32 31)).toInt32 &&& 858993459))).toUInt32 >>> ((4 : Int32).toUInt32 &&& Int32.toUInt32 31)).toInt32) &&& 252645135) + (((((((p0 - (((p0).toUInt32 >>> ((1 : Int32).toUInt32 &&& Int32.toUInt32 31)).toInt32 &&& 1431655765)) &&& 858993459) + ((((p0 - (((p0).toUInt32 >>> ((1 : Int32).toUInt32 &&& Int32.toUInt32 31)).toInt32 &&& 1431655765))).toUInt32 >>> ((2 : Int32).toUInt32 &&& Int32.toUInt32 31)).toInt32 &&& 858993459)) + (((((p0 - (((p0).toUInt32 >>> ((1 : Int32).toUInt32 &&& Int32.toUInt32 31)).toInt32 &&& 1431655765)) &&& 858993459) + ((((p0 - (((p0).toUInt32 >>> ((1 : Int32).toUInt32 &&& Int32.toUInt32 31)).toInt32 &&& 1431655765))).toUInt32 >>> ((2 : Int32).toUInt32 &&& Int32.toUInt32 31)).toInt32 &&& 858993459))).toUInt32 >>> ((4 : Int32).toUInt32 &&& Int32.toUInt32 31)).toInt32) &&& 252645135)).toUInt32 >>> ((8 : Int32).toUInt32 &&& Int32.toUInt32 31)).toInt32)).toUInt32 >>> ((16 : Int32).toUInt32 &&& Int32.toUInt32 31)).toInt32))]) X dJ6_bitCount_0f7a4_47 (by decide) rfl ?_
  refine v_iload_n X dJ6_bitCount_0f7a4_48 rfl ?_
  refine v_bipush (x := 63) X dJ6_bitCount_0f7a4_49 rfl ?_
  refine v_iand X dJ6_bitCount_0f7a4_51 ?_
  exact v_reti X hr hk rfl (by unfold r_J6_bitCount_0f7a4; rfl) rfl (Nat.le_of_ble_eq_true rfl) (Nat.le_of_ble_eq_true rfl) dJ6_bitCount_0f7a4_52

def x_X3_needPlayer (p0 : Int32) : Option String :=
  (if p0 < 0 then some v_E1 else (if p0 < 5 then none else some v_E1))
set_option maxHeartbeats 1000000 in
set_option maxRecDepth 100000 in
theorem c_X3_needPlayer (l : Launch) (D : va_G) (cI cII cL : ClassId) (hlt : l.stackTraces = false) (p0 : Int32) : v_Xv l D vwCl (tyl cI cII cL) yX3_needPlayer wsX3_needPlayer { frames := 6, cells := 1, slots := 6, locals := 82 } [.int p0] [] (x_X3_needPlayer p0) [] := by
  refine v_ofXv (cc := cX3_needPlayer) (maxL := 1) (ret := none) (own := RX3) (lv0 := [(0, .int p0)]) hlt (by decide) rfl rfl rfl (Nat.le_of_ble_eq_true rfl) ?_
  intro p e s m below meth c X TT hr
  have tv_E1 : ∀ w ∈ (vx_atS RX3 201 v_E1 v_nm).filter goodWord, w ∈ wsX3_needPlayer := by decide +kernel
  refine v_iload_n X dX3_needPlayer_0 rfl ?_
  refine v_if_lt (tgt := 9) X dX3_needPlayer_1 (by decide) (fun c_1 => ?_) (fun c_1 => ?_)
  · exact v_throwG (is := 199) (text := "no such player") X TT v_EL1 (by decide +kernel) (by decide +kernel) tv_E1 (by decide +kernel) dX3_needPlayer_9 dX3_needPlayer_12 dX3_needPlayer_13 dX3_needPlayer_15 dX3_needPlayer_18 (by unfold x_X3_needPlayer; rw [if_pos c_1]) rfl ⟨Nat.le_of_ble_eq_true rfl, Nat.le_of_ble_eq_true rfl, Nat.le_of_ble_eq_true rfl, Nat.le_of_ble_eq_true rfl⟩ (Nat.le_of_ble_eq_true rfl) (Nat.le_of_ble_eq_true rfl)
  · refine v_iload_n X dX3_needPlayer_4 rfl ?_
    refine v_iconst (x := 5) X dX3_needPlayer_5 rfl ?_
    refine v_icmp_lt (tgt := 19) X dX3_needPlayer_6 (by decide) (fun c_2 => ?_) (fun c_2 => ?_)
    · exact v_xretv X TT hr (by unfold x_X3_needPlayer; rw [if_neg c_1, if_pos c_2]) rfl (Nat.le_of_ble_eq_true rfl) (Nat.le_of_ble_eq_true rfl) dX3_needPlayer_19
    · exact v_throwG (is := 199) (text := "no such player") X TT v_EL1 (by decide +kernel) (by decide +kernel) tv_E1 (by decide +kernel) dX3_needPlayer_9 dX3_needPlayer_12 dX3_needPlayer_13 dX3_needPlayer_15 dX3_needPlayer_18 (by unfold x_X3_needPlayer; rw [if_neg c_1, if_neg c_2]) rfl ⟨Nat.le_of_ble_eq_true rfl, Nat.le_of_ble_eq_true rfl, Nat.le_of_ble_eq_true rfl, Nat.le_of_ble_eq_true rfl⟩ (Nat.le_of_ble_eq_true rfl) (Nat.le_of_ble_eq_true rfl)

theorem needPlayer_in {x : Int32} (h : x_X3_needPlayer x = none) : vp_in x 5 := by
  unfold x_X3_needPlayer at h
  split at h
  · cases h
  · split at h
    · rename_i h1 h2
      rw [vp_in_iff]
      simp only [Int32.lt_iff_toInt_lt] at h1 h2
      have e0 : (0 : Int32).toInt = 0 := by decide
      have e5 : (5 : Int32).toInt = 5 := by decide
      omega
    · cases h

def x_X3_needKind (p0 : Int32) : Option String :=
  (if p0 < 0 then some v_E1 else (if p0 < 8 then none else some v_E1))
set_option maxHeartbeats 1000000 in
set_option maxRecDepth 100000 in
theorem c_X3_needKind (l : Launch) (D : va_G) (cI cII cL : ClassId) (hlt : l.stackTraces = false) (p0 : Int32) : v_Xv l D vwCl (tyl cI cII cL) yX3_needKind wsX3_needKind { frames := 6, cells := 1, slots := 6, locals := 82 } [.int p0] [] (x_X3_needKind p0) [] := by
  refine v_ofXv (cc := cX3_needKind) (maxL := 1) (ret := none) (own := RX3) (lv0 := [(0, .int p0)]) hlt (by decide) rfl rfl rfl (Nat.le_of_ble_eq_true rfl) ?_
  intro p e s m below meth c X TT hr
  have tv_E1 : ∀ w ∈ (vx_atS RX3 201 v_E1 v_nm).filter goodWord, w ∈ wsX3_needKind := by decide +kernel
  refine v_iload_n X dX3_needKind_0 rfl ?_
  refine v_if_lt (tgt := 10) X dX3_needKind_1 (by decide) (fun c_1 => ?_) (fun c_1 => ?_)
  · exact v_throwG (is := 202) (text := "no such kind") X TT v_EL1 (by decide +kernel) (by decide +kernel) tv_E1 (by decide +kernel) dX3_needKind_10 dX3_needKind_13 dX3_needKind_14 dX3_needKind_16 dX3_needKind_19 (by unfold x_X3_needKind; rw [if_pos c_1]) rfl ⟨Nat.le_of_ble_eq_true rfl, Nat.le_of_ble_eq_true rfl, Nat.le_of_ble_eq_true rfl, Nat.le_of_ble_eq_true rfl⟩ (Nat.le_of_ble_eq_true rfl) (Nat.le_of_ble_eq_true rfl)
  · refine v_iload_n X dX3_needKind_4 rfl ?_
    refine v_bipush (x := 8) X dX3_needKind_5 rfl ?_
    refine v_icmp_lt (tgt := 20) X dX3_needKind_7 (by decide) (fun c_2 => ?_) (fun c_2 => ?_)
    · exact v_xretv X TT hr (by unfold x_X3_needKind; rw [if_neg c_1, if_pos c_2]) rfl (Nat.le_of_ble_eq_true rfl) (Nat.le_of_ble_eq_true rfl) dX3_needKind_20
    · exact v_throwG (is := 202) (text := "no such kind") X TT v_EL1 (by decide +kernel) (by decide +kernel) tv_E1 (by decide +kernel) dX3_needKind_10 dX3_needKind_13 dX3_needKind_14 dX3_needKind_16 dX3_needKind_19 (by unfold x_X3_needKind; rw [if_neg c_1, if_neg c_2]) rfl ⟨Nat.le_of_ble_eq_true rfl, Nat.le_of_ble_eq_true rfl, Nat.le_of_ble_eq_true rfl, Nat.le_of_ble_eq_true rfl⟩ (Nat.le_of_ble_eq_true rfl) (Nat.le_of_ble_eq_true rfl)

theorem needKind_in {x : Int32} (h : x_X3_needKind x = none) : vp_in x 8 := by
  unfold x_X3_needKind at h
  split at h
  · cases h
  · split at h
    · rename_i h1 h2
      rw [vp_in_iff]
      simp only [Int32.lt_iff_toInt_lt] at h1 h2
      have e0 : (0 : Int32).toInt = 0 := by decide
      have e5 : (8 : Int32).toInt = 8 := by decide
      omega
    · cases h

def x_X3_needPrice (p0 : Int32) : Option String :=
  (if p0 < 1 then some v_E2 else (if p0 ≤ 1000 then none else some v_E2))
set_option maxHeartbeats 1000000 in
set_option maxRecDepth 100000 in
theorem c_X3_needPrice (l : Launch) (D : va_G) (cI cII cL : ClassId) (hlt : l.stackTraces = false) (p0 : Int32) : v_Xv l D vwCl (tyl cI cII cL) yX3_needPrice wsX3_needPrice { frames := 6, cells := 1, slots := 6, locals := 82 } [.int p0] [] (x_X3_needPrice p0) [] := by
  refine v_ofXv (cc := cX3_needPrice) (maxL := 1) (ret := none) (own := RX3) (lv0 := [(0, .int p0)]) hlt (by decide) rfl rfl rfl (Nat.le_of_ble_eq_true rfl) ?_
  intro p e s m below meth c X TT hr
  have tv_E2 : ∀ w ∈ (vx_atS RX3 154 v_E2 v_nm).filter goodWord, w ∈ wsX3_needPrice := by decide +kernel
  refine v_iload_n X dX3_needPrice_0 rfl ?_
  refine v_iconst (x := 1) X dX3_needPrice_1 rfl ?_
  refine v_icmp_lt (tgt := 12) X dX3_needPrice_2 (by decide) (fun c_1 => ?_) (fun c_1 => ?_)
  · exact v_throwG (is := 208) (text := "price out of range") X TT v_EL2 (by decide +kernel) (by decide +kernel) tv_E2 (by decide +kernel) dX3_needPrice_12 dX3_needPrice_15 dX3_needPrice_16 dX3_needPrice_18 dX3_needPrice_21 (by unfold x_X3_needPrice; rw [if_pos c_1]) rfl ⟨Nat.le_of_ble_eq_true rfl, Nat.le_of_ble_eq_true rfl, Nat.le_of_ble_eq_true rfl, Nat.le_of_ble_eq_true rfl⟩ (Nat.le_of_ble_eq_true rfl) (Nat.le_of_ble_eq_true rfl)
  · refine v_iload_n X dX3_needPrice_5 rfl ?_
    refine v_sipush (x := 1000) X dX3_needPrice_6 rfl ?_
    refine v_icmp_le (tgt := 22) X dX3_needPrice_9 (by decide) (fun c_2 => ?_) (fun c_2 => ?_)
    · exact v_xretv X TT hr (by unfold x_X3_needPrice; rw [if_neg c_1, if_pos c_2]) rfl (Nat.le_of_ble_eq_true rfl) (Nat.le_of_ble_eq_true rfl) dX3_needPrice_22
    · exact v_throwG (is := 208) (text := "price out of range") X TT v_EL2 (by decide +kernel) (by decide +kernel) tv_E2 (by decide +kernel) dX3_needPrice_12 dX3_needPrice_15 dX3_needPrice_16 dX3_needPrice_18 dX3_needPrice_21 (by unfold x_X3_needPrice; rw [if_neg c_1, if_neg c_2]) rfl ⟨Nat.le_of_ble_eq_true rfl, Nat.le_of_ble_eq_true rfl, Nat.le_of_ble_eq_true rfl, Nat.le_of_ble_eq_true rfl⟩ (Nat.le_of_ble_eq_true rfl) (Nat.le_of_ble_eq_true rfl)

def x_X3_needCard (S : St) (p1 : Int32) : Option String :=
  (if (r_X1_has S p1) = 0 then some v_E1 else none)
set_option maxHeartbeats 1000000 in
set_option maxRecDepth 100000 in
theorem c_X3_needCard (l : Launch) (D : va_G) (cI cII cL : ClassId) (hlt : l.stackTraces = false) (h : Nat → Nat) (S : St) (p1 : Int32) : v_Xv l D vwCl (tyl cI cII cL) yX3_needCard wsX3_needCard { frames := 6, cells := 1, slots := 6, locals := 82 } [.ref (h 0), .int p1] (wT h cI cII S) (x_X3_needCard S p1) (wT h cI cII S) := by
  refine v_ofXv (cc := cX3_needCard) (maxL := 2) (ret := none) (own := RX3) (lv0 := [(0, .ref (h 0)), (1, .int p1)]) hlt (by decide) rfl rfl rfl (Nat.le_of_ble_eq_true rfl) ?_
  intro p e s m below meth c X TT hr
  have iX3 : ∀ w ∈ wsX30, w ∈ wsX3_needCard := by decide +kernel
  have tv_E1 : ∀ w ∈ (vx_atS RX3 201 v_E1 v_nm).filter goodWord, w ∈ wsX3_needCard := by decide +kernel
  refine v_aload_n X dX3_needCard_0 rfl ?_
  refine v_getfield (ref := "Trumpvault") (ci := 3) (index := 10) (v := .ref (h 4)) X iX3 0 wT_g0 rfl 0 (by decide) (by decide +kernel) (fun _ h9 => h9) rfl dX3_needCard_1 ?_
  refine v_iload_n X dX3_needCard_4 rfl ?_
  refine v_callVic (As := [.int p1]) (rest := []) (w' := (wT h cI cII S)) X (c_X1_has l D cI cII cL h S p1) (cwV 1 X.2.2.2.1 gX3_needCard_X1_has rfl rfl rfl (by decide +kernel) ⟨Nat.le_of_ble_eq_true rfl, Nat.le_of_ble_eq_true rfl⟩) isCC isRC pmC (cutC h cI cII (fun _ _ => rfl)) 0 1 rfl rfl wC_g4 rfl rfl (Nat.le_of_ble_eq_true rfl) dX3_needCard_5 ⟨Nat.le_of_ble_eq_true rfl, Nat.le_of_ble_eq_true rfl⟩ ?_
  refine v_if_ne (tgt := 21) X dX3_needCard_8 (by decide) (fun c_1 => ?_) (fun c_1 => ?_)
  · exact v_xretv X TT hr (by unfold x_X3_needCard; rw [if_neg c_1]) rfl (Nat.le_of_ble_eq_true rfl) (Nat.le_of_ble_eq_true rfl) dX3_needCard_21
  · exact v_throwG (is := 206) (text := "no such card") X TT v_EL1 (by decide +kernel) (by decide +kernel) tv_E1 (by decide +kernel) dX3_needCard_11 dX3_needCard_14 dX3_needCard_15 dX3_needCard_17 dX3_needCard_20 (by unfold x_X3_needCard; rw [if_pos c_1]) rfl ⟨Nat.le_of_ble_eq_true rfl, Nat.le_of_ble_eq_true rfl, Nat.le_of_ble_eq_true rfl, Nat.le_of_ble_eq_true rfl⟩ (Nat.le_of_ble_eq_true rfl) (Nat.le_of_ble_eq_true rfl)

theorem needCard_in {S : St} {x : Int32} (hc : cntC S) (h : x_X3_needCard S x = none) : vp_in x 30 := by
  unfold x_X3_needCard at h
  split at h
  · cases h
  · rename_i h1
    exact has_in hc h1
theorem rngr_X0_bestBidder (S : St) (a b : Int32) : r_X0_bestBidder S a b = -1 ∨ vp_in (r_X0_bestBidder S a b) 5 := rng_X0_bestBidder S a b 5 (Nat.le_refl _)
theorem cnt_le {S : St} (hc : cntC S) : (S 4 8).toNatClampNeg ≤ 30 := by
  obtain ⟨N, hN, hN30, hNc⟩ := v_num (M := 30) (by decide) hc
  omega
theorem rngr_X1_bestSale {S : St} (hc : cntC S) (a b : Int32) : r_X1_bestSale S a b = -1 ∨ vp_in (r_X1_bestSale S a b) 30 := rng_X1_bestSale S a b _ (cnt_le hc)
theorem swp_in {S : St} {x : Int32} (hc : cntC S) (h : ¬ r_X1_canBeSwapped S x = 0) : vp_in (S 10 x.toNatClampNeg) 30 := by
  unfold r_X1_canBeSwapped at h
  split at h
  · split at h
    · exact absurd rfl h
    · rename_i h1 h2
      exact has_in hc h2
  · exact absurd rfl h
theorem full_in {S : St} (hc : cntC S) (h : r_X1_isFull S = 0) : vp_in (S 4 8) 30 := by
  unfold r_X1_isFull at h
  split at h
  · rename_i h1
    rw [vp_in_iff]
    simp only [Int32.lt_iff_toInt_lt] at h1
    have e5 : (30 : Int32).toInt = 30 := by decide
    have := hc.1
    omega
  · exact absurd h (by decide)
theorem his_take {S : St} {a b : Int32} (ha : vp_in a 5) (h : hisC S) : hisC (s_X0_take S a b) := by
  unfold hisC
  rw [fr_X0_take S a b ha 26 (by omega)]
  exact h

def r_X3_bannedToday (S : St) (p1 : Int32) : Int32 :=
  (if (S 2 p1.toNatClampNeg) = (-1) then 0 else (if (S 0 7) < (S 2 p1.toNatClampNeg) then 0 else 1))
theorem b_X3_bannedToday (S : St) (p1 : Int32) : (r_X3_bannedToday S p1) = 0 ∨ (r_X3_bannedToday S p1) = 1 := by
  unfold r_X3_bannedToday
  repeat' split
  all_goals first | exact Or.inl rfl | exact Or.inr rfl
set_option maxHeartbeats 1000000 in
set_option maxRecDepth 100000 in
theorem c_X3_bannedToday (l : Launch) (D : va_G) (cI cII cL : ClassId) (h : Nat → Nat) (S : St) (p1 : Int32) (in1_8 : vp_in p1 8) : v_Mi l D vwCl (tyl cI cII cL) yX3_bannedToday wsX3_bannedToday { frames := 0, cells := 0, slots := 0, locals := 0 } [.ref (h 0), .int p1] (wT h cI cII S) (r_X3_bannedToday S p1) (wT h cI cII S) := by
  refine v_ofMi (cc := cX3_bannedToday) (maxL := 2) (ret := (some .boolean)) (own := RX3) (lv0 := [(0, .ref (h 0)), (1, .int p1)]) (by decide) rfl rfl rfl (Nat.le_of_ble_eq_true rfl) ?_
  intro p e s m below meth c X hr hk hin
  have iX3 : ∀ w ∈ wsX30, w ∈ wsX3_bannedToday := by decide +kernel
  refine v_aload_n X dX3_bannedToday_0 rfl ?_
  refine v_getfield (ref := "Trumpvault") (ci := 3) (index := 40) (v := .ref (h 2)) X iX3 0 wT_g0 rfl 4 (by decide) (by decide +kernel) (fun _ h9 => h9) rfl dX3_bannedToday_1 ?_
  refine v_iload_n X dX3_bannedToday_4 rfl ?_
  refine v_iald X 2 0 wT_g2 rfl in1_8 dX3_bannedToday_5 ?_
  refine v_iconst (x := (-1)) X dX3_bannedToday_6 rfl ?_
  refine v_icmp_eq (tgt := 27) X dX3_bannedToday_7 (by decide) (fun c_1 => ?_) (fun c_1 => ?_)
  · refine v_iconst (x := 0) X dX3_bannedToday_27 rfl ?_
    exact v_reti X hr hk rfl (by unfold r_X3_bannedToday; rw [if_pos c_1]) rfl (Nat.le_of_ble_eq_true rfl) (Nat.le_of_ble_eq_true rfl) dX3_bannedToday_28
  · refine v_aload_n X dX3_bannedToday_10 rfl ?_
    refine v_getfield (ref := "Trumpvault") (ci := 3) (index := 40) (v := .ref (h 2)) X iX3 0 wT_g0 rfl 4 (by decide) (by decide +kernel) (fun _ h9 => h9) rfl dX3_bannedToday_11 ?_
    refine v_iload_n X dX3_bannedToday_14 rfl ?_
    refine v_iald X 2 0 wT_g2 rfl in1_8 dX3_bannedToday_15 ?_
    refine v_aload_n X dX3_bannedToday_16 rfl ?_
    refine v_getfield (ref := "Trumpvault") (ci := 3) (index := 50) (v := .int (S 0 7)) X iX3 0 wT_g0 rfl 7 (by decide) (by decide +kernel) (fun _ h9 => h9) rfl dX3_bannedToday_17 ?_
    refine v_icmp_gt (tgt := 27) X dX3_bannedToday_20 (by decide) (fun c_2 => ?_) (fun c_2 => ?_)
    · refine v_iconst (x := 0) X dX3_bannedToday_27 rfl ?_
      exact v_reti X hr hk rfl (by unfold r_X3_bannedToday; rw [if_neg c_1, if_pos c_2]) rfl (Nat.le_of_ble_eq_true rfl) (Nat.le_of_ble_eq_true rfl) dX3_bannedToday_28
    · refine v_iconst (x := 1) X dX3_bannedToday_23 rfl ?_
      refine v_goto (tgt := 28) X dX3_bannedToday_24 (by decide) ?_
      exact v_reti X hr hk rfl (by unfold r_X3_bannedToday; rw [if_neg c_1, if_neg c_2]) rfl (Nat.le_of_ble_eq_true rfl) (Nat.le_of_ble_eq_true rfl) dX3_bannedToday_28

def s_X3_giveTo (S : St) (p1 p2 : Int32) : St :=
  (s_X2_record (sU (sU S 6 p1.toNatClampNeg p2) 7 p1.toNatClampNeg 0) p1 p2)
set_option maxHeartbeats 1000000 in
set_option maxRecDepth 100000 in
theorem c_X3_giveTo (l : Launch) (D : va_G) (cI cII cL : ClassId) (h : Nat → Nat) (S : St) (p1 p2 : Int32) (in1_30 : vp_in p1 30) (hhis : hisC S) : v_Mv l D vwCl (tyl cI cII cL) yX3_giveTo wsX3_giveTo { frames := 1, cells := 0, slots := 0, locals := 22 } [.ref (h 0), .int p1, .int p2] (wT h cI cII S) (wT h cI cII (s_X3_giveTo S p1 p2)) := by
  refine v_ofMv (cc := cX3_giveTo) (maxL := 3) (ret := none) (own := RX3) (lv0 := [(0, .ref (h 0)), (1, .int p1), (2, .int p2)]) (by decide) rfl rfl rfl (Nat.le_of_ble_eq_true rfl) ?_
  intro p e s m below meth c X hr hk hin
  have iX1 : ∀ w ∈ wsX10, w ∈ wsX3_giveTo := by decide +kernel
  have iX3 : ∀ w ∈ wsX30, w ∈ wsX3_giveTo := by decide +kernel
  refine v_aload_n X dX3_giveTo_0 rfl ?_
  refine v_getfield (ref := "Trumpvault") (ci := 3) (index := 10) (v := .ref (h 4)) X iX3 0 wT_g0 rfl 0 (by decide) (by decide +kernel) (fun _ h9 => h9) rfl dX3_giveTo_1 ?_
  refine v_getfield (ref := "Trumpvault$Cards") (ci := 1) (index := 82) (v := .ref (h 6)) X iX1 4 wT_g4 rfl 1 (by decide) (by decide +kernel) (fun _ h9 => h9) rfl dX3_giveTo_4 ?_
  refine v_iload_n X dX3_giveTo_7 rfl ?_
  refine v_iload_n X dX3_giveTo_8 rfl ?_
  refine v_iast (w' := (wT h cI cII (sU S 6 p1.toNatClampNeg p2))) X 6 0 wT_g6 rfl in1_30 dX3_giveTo_9 wT_s6 ?_
  refine v_aload_n X dX3_giveTo_10 rfl ?_
  refine v_getfield (ref := "Trumpvault") (ci := 3) (index := 10) (v := .ref (h 4)) X iX3 0 wT_g0 rfl 0 (by decide) (by decide +kernel) (fun _ h9 => h9) rfl dX3_giveTo_11 ?_
  refine v_getfield (ref := "Trumpvault$Cards") (ci := 1) (index := 92) (v := .ref (h 7)) X iX1 4 wT_g4 rfl 2 (by decide) (by decide +kernel) (fun _ h9 => h9) rfl dX3_giveTo_14 ?_
  refine v_iload_n X dX3_giveTo_17 rfl ?_
  refine v_iconst (x := 0) X dX3_giveTo_18 rfl ?_
  refine v_iast (w' := (wT h cI cII (sU (sU S 6 p1.toNatClampNeg p2) 7 p1.toNatClampNeg 0))) X 7 0 wT_g7 rfl in1_30 dX3_giveTo_19 wT_s7 ?_
  refine v_aload_n X dX3_giveTo_20 rfl ?_
  refine v_getfield (ref := "Trumpvault") (ci := 3) (index := 26) (v := .ref (h 26)) X iX3 0 wT_g0 rfl 2 (by decide) (by decide +kernel) (fun _ h9 => h9) rfl dX3_giveTo_21 ?_
  refine v_iload_n X dX3_giveTo_24 rfl ?_
  refine v_iload_n X dX3_giveTo_25 rfl ?_
  refine v_callVvc (As := [.int p1, .int p2]) (rest := []) (w' := (wT h cI cII (s_X2_record (sU (sU S 6 p1.toNatClampNeg p2) 7 p1.toNatClampNeg 0) p1 p2))) X (c_X2_record l D cI cII cL h (sU (sU S 6 p1.toNatClampNeg p2) 7 p1.toNatClampNeg 0) p1 p2 (his_of ((sU_ne (by decide)).trans (sU_ne (by decide))) hhis)) (cwV 2 X.2.2.2.1 gX3_giveTo_X2_record rfl rfl rfl (by decide +kernel) ⟨Nat.le_of_ble_eq_true rfl, Nat.le_of_ble_eq_true rfl⟩) isCH isRH pmH (cutH h cI cII (fr_X2_record (sU (sU S 6 p1.toNatClampNeg p2) 7 p1.toNatClampNeg 0) p1 p2)) 0 2 rfl rfl wH_g26 rfl rfl (Nat.le_of_ble_eq_true rfl) dX3_giveTo_26 ⟨Nat.le_of_ble_eq_true rfl, Nat.le_of_ble_eq_true rfl⟩ ?_
  exact v_retv X hr hk (congrArg (fun z => (wT h cI cII z)) (by unfold s_X3_giveTo; rfl)) (Nat.le_of_ble_eq_true rfl) (Nat.le_of_ble_eq_true rfl) dX3_giveTo_29

theorem his_record {S : St} {a b : Int32} (h : hisC S) : hisC (s_X2_record S a b) := by
  unfold s_X2_record
  split
  · rename_i h1
    unfold hisC at h ⊢
    simp only [Int32.lt_iff_toInt_lt] at h1
    have e5 : (512 : Int32).toInt = 512 := by decide
    show 0 ≤ (S 26 2 + 1).toInt ∧ (S 26 2 + 1).toInt ≤ 512
    rw [Int32.toInt_add]
    have e1 : (1 : Int32).toInt = 1 := by decide
    rw [e1, Int.bmod_eq_of_le (by omega) (by omega)]
    omega
  · exact h
theorem his_giveTo {S : St} {a b : Int32} (h : hisC S) : hisC (s_X3_giveTo S a b) := his_record (S := sU (sU S 6 _ _) 7 _ _) h

def r_X3_giveBidBack (S : St) (p1 p2 : Int32) : Int32 :=
  (r_X0_take S p1 p2)
def s_X3_giveBidBack (S : St) (p1 p2 : Int32) : St :=
  (sU (s_X0_take S p1 p2) 1 p1.toNatClampNeg (((s_X0_take S p1 p2) 1 p1.toNatClampNeg) + (r_X0_take S p1 p2)))
set_option maxHeartbeats 1000000 in
set_option maxRecDepth 100000 in
theorem c_X3_giveBidBack (l : Launch) (D : va_G) (cI cII cL : ClassId) (h : Nat → Nat) (S : St) (p1 p2 : Int32) (in1_5 : vp_in p1 5) (in2_8 : vp_in p2 8) : v_Mi l D vwCl (tyl cI cII cL) yX3_giveBidBack wsX3_giveBidBack { frames := 1, cells := 0, slots := 0, locals := 23 } [.ref (h 0), .int p1, .int p2] (wT h cI cII S) (r_X3_giveBidBack S p1 p2) (wT h cI cII (s_X3_giveBidBack S p1 p2)) := by
  refine v_ofMi (cc := cX3_giveBidBack) (maxL := 4) (ret := (some .int)) (own := RX3) (lv0 := [(0, .ref (h 0)), (1, .int p1), (2, .int p2)]) (by decide) rfl rfl rfl (Nat.le_of_ble_eq_true rfl) ?_
  intro p e s m below meth c X hr hk hin
  have iX3 : ∀ w ∈ wsX30, w ∈ wsX3_giveBidBack := by decide +kernel
  refine v_aload_n X dX3_giveBidBack_0 rfl ?_
  refine v_getfield (ref := "Trumpvault") (ci := 3) (index := 19) (v := .ref (h 13)) X iX3 0 wT_g0 rfl 1 (by decide) (by decide +kernel) (fun _ h9 => h9) rfl dX3_giveBidBack_1 ?_
  refine v_iload_n X dX3_giveBidBack_4 rfl ?_
  refine v_iload_n X dX3_giveBidBack_5 rfl ?_
  refine v_callVic (As := [.int p1, .int p2]) (rest := []) (w' := (wT h cI cII (s_X0_take S p1 p2))) X (c_X0_take l D cI cII cL h S p1 p2 in1_5 in2_8) (cwV 2 X.2.2.2.1 gX3_giveBidBack_X0_take rfl rfl rfl (by decide +kernel) ⟨Nat.le_of_ble_eq_true rfl, Nat.le_of_ble_eq_true rfl⟩) isCB isRB pmB (cutB h cI cII (fr_X0_take S p1 p2 in1_5)) 0 0 rfl rfl wB_g13 rfl rfl (Nat.le_of_ble_eq_true rfl) dX3_giveBidBack_6 ⟨Nat.le_of_ble_eq_true rfl, Nat.le_of_ble_eq_true rfl⟩ ?_
  refine v_istore_n (lv' := [(3, .int (r_X0_take S p1 p2)), (0, .ref (h 0)), (1, .int p1), (2, .int p2)]) X dX3_giveBidBack_9 (by decide) rfl ?_
  refine v_aload_n X dX3_giveBidBack_10 rfl ?_
  refine v_getfield (ref := "Trumpvault") (ci := 3) (index := 30) (v := .ref (h 1)) X iX3 0 wT_g0 rfl 3 (by decide) (by decide +kernel) (fun _ h9 => h9) rfl dX3_giveBidBack_11 ?_
  refine v_iload_n X dX3_giveBidBack_14 rfl ?_
  refine v_dup2 X dX3_giveBidBack_15 rfl rfl ?_
  refine v_iald X 1 0 wT_g1 rfl in1_5 dX3_giveBidBack_16 ?_
  refine v_iload_n X dX3_giveBidBack_17 rfl ?_
  refine v_iadd X dX3_giveBidBack_18 ?_
  refine v_iast (w' := (wT h cI cII (sU (s_X0_take S p1 p2) 1 p1.toNatClampNeg (((s_X0_take S p1 p2) 1 p1.toNatClampNeg) + (r_X0_take S p1 p2))))) X 1 0 wT_g1 rfl in1_5 dX3_giveBidBack_19 wT_s1 ?_
  refine v_iload_n X dX3_giveBidBack_20 rfl ?_
  exact v_reti X hr hk rfl (by unfold r_X3_giveBidBack; rfl) (congrArg (fun z => (wT h cI cII z)) (by unfold s_X3_giveBidBack; rfl)) (Nat.le_of_ble_eq_true rfl) (Nat.le_of_ble_eq_true rfl) dX3_giveBidBack_21

def st1_X3_clearMarket (S : St) (p1 : Int32) (k : Nat) (qS : St) (qb2 : Int32) : St × Int32 :=
  (if (r_X0_has (qS) (nI k) p1) = 0 then (qS, qb2) else ((s_X3_giveBidBack (qS) (nI k) p1), (qb2 + 1)))
def lp1_X3_clearMarket (S : St) (p1 : Int32) : Nat → St × Int32
  | 0 => ((s_X1_takeSalesOf S p1), (r_X1_takeSalesOf S p1))
  | k + 1 => st1_X3_clearMarket S p1 k (lp1_X3_clearMarket S p1 k).1 (lp1_X3_clearMarket S p1 k).2
theorem e_lp1_X3_clearMarket (S : St) (p1 : Int32) (k : Nat) : lp1_X3_clearMarket S p1 (k + 1) = st1_X3_clearMarket S p1 k (lp1_X3_clearMarket S p1 k).1 (lp1_X3_clearMarket S p1 k).2 := rfl
def r_X3_clearMarket (S : St) (p1 : Int32) : Int32 :=
  (lp1_X3_clearMarket S p1 5).2
def s_X3_clearMarket (S : St) (p1 : Int32) : St :=
  (lp1_X3_clearMarket S p1 5).1
set_option maxHeartbeats 1000000 in
set_option maxRecDepth 100000 in
theorem c_X3_clearMarket (l : Launch) (D : va_G) (cI cII cL : ClassId) (h : Nat → Nat) (S : St) (p1 : Int32) (in1_8 : vp_in p1 8) (hcnt : cntC S) : v_Mi l D vwCl (tyl cI cII cL) yX3_clearMarket wsX3_clearMarket { frames := 2, cells := 0, slots := 0, locals := 46 } [.ref (h 0), .int p1] (wT h cI cII S) (r_X3_clearMarket S p1) (wT h cI cII (s_X3_clearMarket S p1)) := by
  refine v_ofMi (cc := cX3_clearMarket) (maxL := 4) (ret := (some .int)) (own := RX3) (lv0 := [(0, .ref (h 0)), (1, .int p1)]) (by decide) rfl rfl rfl (Nat.le_of_ble_eq_true rfl) ?_
  intro p e s m below meth c X hr hk hin
  have iX3 : ∀ w ∈ wsX30, w ∈ wsX3_clearMarket := by decide +kernel
  refine v_aload_n X dX3_clearMarket_0 rfl ?_
  refine v_getfield (ref := "Trumpvault") (ci := 3) (index := 10) (v := .ref (h 4)) X iX3 0 wT_g0 rfl 0 (by decide) (by decide +kernel) (fun _ h9 => h9) rfl dX3_clearMarket_1 ?_
  refine v_iload_n X dX3_clearMarket_4 rfl ?_
  refine v_callVic (As := [.int p1]) (rest := []) (w' := (wT h cI cII (s_X1_takeSalesOf S p1))) X (c_X1_takeSalesOf l D cI cII cL h S p1 hcnt) (cwV 1 X.2.2.2.1 gX3_clearMarket_X1_takeSalesOf rfl rfl rfl (by decide +kernel) ⟨Nat.le_of_ble_eq_true rfl, Nat.le_of_ble_eq_true rfl⟩) isCC isRC pmC (cutC h cI cII (fr_X1_takeSalesOf S p1)) 0 1 rfl rfl wC_g4 rfl rfl (Nat.le_of_ble_eq_true rfl) dX3_clearMarket_5 ⟨Nat.le_of_ble_eq_true rfl, Nat.le_of_ble_eq_true rfl⟩ ?_
  refine v_istore_n (lv' := [(2, .int (r_X1_takeSalesOf S p1)), (0, .ref (h 0)), (1, .int p1)]) X dX3_clearMarket_8 (by decide) rfl ?_
  refine v_iconst (x := 0) X dX3_clearMarket_9 rfl ?_
  refine v_istore_n (lv' := [(3, .int 0), (2, .int (r_X1_takeSalesOf S p1)), (0, .ref (h 0)), (1, .int p1)]) X dX3_clearMarket_10 (by decide) rfl ?_
  have L_1 : ∀ (d_1 k_1 : Nat) (i_1 b2_1 : Int32) (S1 : St), k_1 + d_1 = 5 → i_1 = nI k_1 → b2_1 = (lp1_X3_clearMarket S p1 k_1).2 → S1 = (lp1_X3_clearMarket S p1 k_1).1 → v_V p l e { frames := 2, cells := 0, slots := 0, locals := 46 } s m [.ref (h 0), .int p1].toArray below meth c D vwCl (va_A (wT h cI cII S) s.heap.size) 4 (v_Qi below s D vwCl (tyl cI cII cL) { frames := 2, cells := 0, slots := 0, locals := 46 } [.ref (h 0), .int p1] (wT h cI cII S) (r_X3_clearMarket S p1) (wT h cI cII (s_X3_clearMarket S p1))) 0 0 (wT h cI cII S1) 11 [(3, .int i_1), (2, .int b2_1), (0, .ref (h 0)), (1, .int p1)] [] := by
    intro d_1
    induction d_1 with
    | zero =>
      intro k_1 i_1 b2_1 S1 hk_1 ei_1 eb2_1 eS1
      subst ei_1 eb2_1 eS1
      obtain rfl : 5 = k_1 := by omega
      refine v_iload_n X dX3_clearMarket_11 rfl ?_
      refine v_iconst (x := 5) X dX3_clearMarket_12 rfl ?_
      refine v_icmp_ge (tgt := 44) X dX3_clearMarket_13 (by decide) (fun c_1 => ?_) (fun c_1 => ?_)
      · refine v_iload_n X dX3_clearMarket_44 rfl ?_
        exact v_reti X hr hk rfl (by unfold r_X3_clearMarket; rfl) (congrArg (fun z => (wT h cI cII z)) (by unfold s_X3_clearMarket; rfl)) (Nat.le_of_ble_eq_true rfl) (Nat.le_of_ble_eq_true rfl) dX3_clearMarket_45
      · exact absurd (show (5 : Int32) ≤ nI 5 from nI_le (Nat.le_refl 5) (by decide)) c_1
    | succ d_1 ih_1 =>
      intro k_1 i_1 b2_1 S1 hk_1 ei_1 eb2_1 eS1
      subst ei_1 eb2_1 eS1
      have hlt_1 : k_1 < 5 := by omega
      refine v_iload_n X dX3_clearMarket_11 rfl ?_
      refine v_iconst (x := 5) X dX3_clearMarket_12 rfl ?_
      refine v_icmp_ge (tgt := 44) X dX3_clearMarket_13 (by decide) (fun c_2 => ?_) (fun c_2 => ?_)
      · exact absurd c_2 (nI_ge (b := 5) hlt_1 (by decide))
      · refine v_aload_n X dX3_clearMarket_16 rfl ?_
        refine v_getfield (ref := "Trumpvault") (ci := 3) (index := 19) (v := .ref (h 13)) X iX3 0 wT_g0 rfl 1 (by decide) (by decide +kernel) (fun _ h9 => h9) rfl dX3_clearMarket_17 ?_
        refine v_iload_n X dX3_clearMarket_20 rfl ?_
        refine v_iload_n X dX3_clearMarket_21 rfl ?_
        refine v_callVic (As := [.int (nI k_1), .int p1]) (rest := []) (w' := (wT h cI cII (lp1_X3_clearMarket S p1 k_1).1)) X (c_X0_has l D cI cII cL h ((lp1_X3_clearMarket S p1 k_1).1) (nI k_1) p1 (vp_in_nI (by omega) (by decide)) in1_8) (cwV 2 X.2.2.2.1 gX3_clearMarket_X0_has rfl rfl rfl (by decide +kernel) ⟨Nat.le_of_ble_eq_true rfl, Nat.le_of_ble_eq_true rfl⟩) isCB isRB pmB (cutB h cI cII (fun _ _ => rfl)) 0 0 rfl rfl wB_g13 rfl rfl (Nat.le_of_ble_eq_true rfl) dX3_clearMarket_22 ⟨Nat.le_of_ble_eq_true rfl, Nat.le_of_ble_eq_true rfl⟩ ?_
        refine v_if_eq (tgt := 38) X dX3_clearMarket_25 (by decide) (fun c_3 => ?_) (fun c_3 => ?_)
        · refine v_iinc (y := ((nI k_1) + 1)) (lv' := [(3, .int ((nI k_1) + 1)), (2, .int ((lp1_X3_clearMarket S p1 k_1).2)), (0, .ref (h 0)), (1, .int p1)]) X dX3_clearMarket_38 rfl rfl (by decide) rfl ?_
          refine v_goto (tgt := 11) X dX3_clearMarket_41 (by decide) ?_
          refine v_lv [0, 1, 2, 3] rfl ?_
          exact ih_1 (k_1 + 1) ((nI k_1) + 1) ((lp1_X3_clearMarket S p1 k_1).2) ((lp1_X3_clearMarket S p1 k_1).1) (by omega) (nI_1 k_1) (by rw [e_lp1_X3_clearMarket]; unfold st1_X3_clearMarket; rw [if_pos c_3]) (by rw [e_lp1_X3_clearMarket]; unfold st1_X3_clearMarket; rw [if_pos c_3])
        · refine v_aload_n X dX3_clearMarket_28 rfl ?_
          refine v_iload_n X dX3_clearMarket_29 rfl ?_
          refine v_iload_n X dX3_clearMarket_30 rfl ?_
          refine v_callVi (As := [.int (nI k_1), .int p1]) (rest := []) (w' := (wT h cI cII (s_X3_giveBidBack ((lp1_X3_clearMarket S p1 k_1).1) (nI k_1) p1))) X (c_X3_giveBidBack l D cI cII cL h ((lp1_X3_clearMarket S p1 k_1).1) (nI k_1) p1 (vp_in_nI (by omega) (by decide)) in1_8) (cwV 2 X.2.2.2.1 gX3_clearMarket_X3_giveBidBack rfl rfl rfl (by decide +kernel) ⟨Nat.le_of_ble_eq_true rfl, Nat.le_of_ble_eq_true rfl⟩) 0 3 rfl rfl wT_g0 rfl rfl (Nat.le_of_ble_eq_true rfl) dX3_clearMarket_31 ⟨Nat.le_of_ble_eq_true rfl, Nat.le_of_ble_eq_true rfl⟩ ?_
          refine v_pop X dX3_clearMarket_34 rfl ?_
          refine v_iinc (y := ((lp1_X3_clearMarket S p1 k_1).2 + 1)) (lv' := [(2, .int ((lp1_X3_clearMarket S p1 k_1).2 + 1)), (3, .int (nI k_1)), (0, .ref (h 0)), (1, .int p1)]) X dX3_clearMarket_35 rfl rfl (by decide) rfl ?_
          refine v_iinc (y := ((nI k_1) + 1)) (lv' := [(3, .int ((nI k_1) + 1)), (2, .int ((lp1_X3_clearMarket S p1 k_1).2 + 1)), (0, .ref (h 0)), (1, .int p1)]) X dX3_clearMarket_38 rfl rfl (by decide) rfl ?_
          refine v_goto (tgt := 11) X dX3_clearMarket_41 (by decide) ?_
          refine v_lv [0, 1, 2, 3] rfl ?_
          exact ih_1 (k_1 + 1) ((nI k_1) + 1) ((lp1_X3_clearMarket S p1 k_1).2 + 1) (s_X3_giveBidBack ((lp1_X3_clearMarket S p1 k_1).1) (nI k_1) p1) (by omega) (nI_1 k_1) (by rw [e_lp1_X3_clearMarket]; unfold st1_X3_clearMarket; rw [if_neg c_3]) (by rw [e_lp1_X3_clearMarket]; unfold st1_X3_clearMarket; rw [if_neg c_3])
  exact L_1 5 0 0 (r_X1_takeSalesOf S p1) (s_X1_takeSalesOf S p1) (Nat.zero_add _) (by exact nI_0.symm) rfl rfl

def r_X3_inDeck (S : St) (p1 p2 : Int32) : Int32 :=
  (if ((S 3 p1.toNatClampNeg) &&& (1 <<< (p2 &&& 31))) = 0 then 0 else 1)
theorem b_X3_inDeck (S : St) (p1 p2 : Int32) : (r_X3_inDeck S p1 p2) = 0 ∨ (r_X3_inDeck S p1 p2) = 1 := by
  unfold r_X3_inDeck
  repeat' split
  all_goals first | exact Or.inl rfl | exact Or.inr rfl
set_option maxHeartbeats 1000000 in
set_option maxRecDepth 100000 in
theorem c_X3_inDeck (l : Launch) (D : va_G) (cI cII cL : ClassId) (h : Nat → Nat) (S : St) (p1 p2 : Int32) (in1_5 : vp_in p1 5) : v_Mi l D vwCl (tyl cI cII cL) yX3_inDeck wsX3_inDeck { frames := 0, cells := 0, slots := 0, locals := 0 } [.ref (h 0), .int p1, .int p2] (wT h cI cII S) (r_X3_inDeck S p1 p2) (wT h cI cII S) := by
  refine v_ofMi (cc := cX3_inDeck) (maxL := 3) (ret := (some .boolean)) (own := RX3) (lv0 := [(0, .ref (h 0)), (1, .int p1), (2, .int p2)]) (by decide) rfl rfl rfl (Nat.le_of_ble_eq_true rfl) ?_
  intro p e s m below meth c X hr hk hin
  have iX3 : ∀ w ∈ wsX30, w ∈ wsX3_inDeck := by decide +kernel
  refine v_aload_n X dX3_inDeck_0 rfl ?_
  refine v_getfield (ref := "Trumpvault") (ci := 3) (index := 43) (v := .ref (h 3)) X iX3 0 wT_g0 rfl 5 (by decide) (by decide +kernel) (fun _ h9 => h9) rfl dX3_inDeck_1 ?_
  refine v_iload_n X dX3_inDeck_4 rfl ?_
  refine v_iald X 3 0 wT_g3 rfl in1_5 dX3_inDeck_5 ?_
  refine v_iconst (x := 1) X dX3_inDeck_6 rfl ?_
  refine v_iload_n X dX3_inDeck_7 rfl ?_
  refine v_ishl X dX3_inDeck_8 ?_
  refine v_iand X dX3_inDeck_9 ?_
  refine v_if_eq (tgt := 17) X dX3_inDeck_10 (by decide) (fun c_1 => ?_) (fun c_1 => ?_)
  · refine v_iconst (x := 0) X dX3_inDeck_17 rfl ?_
    exact v_reti X hr hk rfl (by unfold r_X3_inDeck; rw [if_pos c_1]) rfl (Nat.le_of_ble_eq_true rfl) (Nat.le_of_ble_eq_true rfl) dX3_inDeck_18
  · refine v_iconst (x := 1) X dX3_inDeck_13 rfl ?_
    refine v_goto (tgt := 18) X dX3_inDeck_14 (by decide) ?_
    exact v_reti X hr hk rfl (by unfold r_X3_inDeck; rw [if_neg c_1]) rfl (Nat.le_of_ble_eq_true rfl) (Nat.le_of_ble_eq_true rfl) dX3_inDeck_18

def r_X3_isPlayable (S : St) (p1 p2 : Int32) : Int32 :=
  (if (r_X1_holderOf S p2) = p1 then (if (S 7 p2.toNatClampNeg) = 1 then 0 else (if (S 7 p2.toNatClampNeg) = 2 then 0 else (if (r_X3_bannedToday S (S 5 p2.toNatClampNeg)) = 0 then 1 else 0))) else 0)
theorem b_X3_isPlayable (S : St) (p1 p2 : Int32) : (r_X3_isPlayable S p1 p2) = 0 ∨ (r_X3_isPlayable S p1 p2) = 1 := by
  unfold r_X3_isPlayable
  repeat' split
  all_goals first | exact Or.inl rfl | exact Or.inr rfl | exact b_X3_bannedToday _ _
set_option maxHeartbeats 1000000 in
set_option maxRecDepth 100000 in
theorem c_X3_isPlayable (l : Launch) (D : va_G) (cI cII cL : ClassId) (h : Nat → Nat) (S : St) (p1 p2 : Int32) (in2_30 : vp_in p2 30) (hkin : ∀ j, vp_in (S 5 j) 8) : v_Mi l D vwCl (tyl cI cII cL) yX3_isPlayable wsX3_isPlayable { frames := 1, cells := 0, slots := 0, locals := 21 } [.ref (h 0), .int p1, .int p2] (wT h cI cII S) (r_X3_isPlayable S p1 p2) (wT h cI cII S) := by
  refine v_ofMi (cc := cX3_isPlayable) (maxL := 4) (ret := (some .boolean)) (own := RX3) (lv0 := [(0, .ref (h 0)), (1, .int p1), (2, .int p2)]) (by decide) rfl rfl rfl (Nat.le_of_ble_eq_true rfl) ?_
  intro p e s m below meth c X hr hk hin
  have iX1 : ∀ w ∈ wsX10, w ∈ wsX3_isPlayable := by decide +kernel
  have iX3 : ∀ w ∈ wsX30, w ∈ wsX3_isPlayable := by decide +kernel
  refine v_aload_n X dX3_isPlayable_0 rfl ?_
  refine v_getfield (ref := "Trumpvault") (ci := 3) (index := 10) (v := .ref (h 4)) X iX3 0 wT_g0 rfl 0 (by decide) (by decide +kernel) (fun _ h9 => h9) rfl dX3_isPlayable_1 ?_
  refine v_getfield (ref := "Trumpvault$Cards") (ci := 1) (index := 92) (v := .ref (h 7)) X iX1 4 wT_g4 rfl 2 (by decide) (by decide +kernel) (fun _ h9 => h9) rfl dX3_isPlayable_4 ?_
  refine v_iload_n X dX3_isPlayable_7 rfl ?_
  refine v_iald X 7 0 wT_g7 rfl in2_30 dX3_isPlayable_8 ?_
  refine v_istore_n (lv' := [(3, .int (S 7 p2.toNatClampNeg)), (0, .ref (h 0)), (1, .int p1), (2, .int p2)]) X dX3_isPlayable_9 (by decide) rfl ?_
  refine v_aload_n X dX3_isPlayable_10 rfl ?_
  refine v_getfield (ref := "Trumpvault") (ci := 3) (index := 10) (v := .ref (h 4)) X iX3 0 wT_g0 rfl 0 (by decide) (by decide +kernel) (fun _ h9 => h9) rfl dX3_isPlayable_11 ?_
  refine v_iload_n X dX3_isPlayable_14 rfl ?_
  refine v_callVic (As := [.int p2]) (rest := []) (w' := (wT h cI cII S)) X (c_X1_holderOf l D cI cII cL h S p2 in2_30) (cwV 1 X.2.2.2.1 gX3_isPlayable_X1_holderOf rfl rfl rfl (by decide +kernel) ⟨Nat.le_of_ble_eq_true rfl, Nat.le_of_ble_eq_true rfl⟩) isCC isRC pmC (cutC h cI cII (fun _ _ => rfl)) 0 1 rfl rfl wC_g4 rfl rfl (Nat.le_of_ble_eq_true rfl) dX3_isPlayable_15 ⟨Nat.le_of_ble_eq_true rfl, Nat.le_of_ble_eq_true rfl⟩ ?_
  refine v_iload_n X dX3_isPlayable_18 rfl ?_
  refine v_icmp_ne (tgt := 52) X dX3_isPlayable_19 (by decide) (fun c_1 => ?_) (fun c_1 => ?_)
  · refine v_iconst (x := 0) X dX3_isPlayable_52 rfl ?_
    exact v_reti X hr hk rfl (by unfold r_X3_isPlayable; rw [if_neg c_1]) rfl (Nat.le_of_ble_eq_true rfl) (Nat.le_of_ble_eq_true rfl) dX3_isPlayable_53
  · refine v_iload_n X dX3_isPlayable_22 rfl ?_
    refine v_iconst (x := 1) X dX3_isPlayable_23 rfl ?_
    refine v_icmp_eq (tgt := 52) X dX3_isPlayable_24 (by decide) (fun c_2 => ?_) (fun c_2 => ?_)
    · refine v_iconst (x := 0) X dX3_isPlayable_52 rfl ?_
      exact v_reti X hr hk rfl (by unfold r_X3_isPlayable; rw [if_pos c_1, if_pos c_2]) rfl (Nat.le_of_ble_eq_true rfl) (Nat.le_of_ble_eq_true rfl) dX3_isPlayable_53
    · refine v_iload_n X dX3_isPlayable_27 rfl ?_
      refine v_iconst (x := 2) X dX3_isPlayable_28 rfl ?_
      refine v_icmp_eq (tgt := 52) X dX3_isPlayable_29 (by decide) (fun c_3 => ?_) (fun c_3 => ?_)
      · refine v_iconst (x := 0) X dX3_isPlayable_52 rfl ?_
        exact v_reti X hr hk rfl (by unfold r_X3_isPlayable; rw [if_pos c_1, if_neg c_2, if_pos c_3]) rfl (Nat.le_of_ble_eq_true rfl) (Nat.le_of_ble_eq_true rfl) dX3_isPlayable_53
      · refine v_aload_n X dX3_isPlayable_32 rfl ?_
        refine v_aload_n X dX3_isPlayable_33 rfl ?_
        refine v_getfield (ref := "Trumpvault") (ci := 3) (index := 10) (v := .ref (h 4)) X iX3 0 wT_g0 rfl 0 (by decide) (by decide +kernel) (fun _ h9 => h9) rfl dX3_isPlayable_34 ?_
        refine v_getfield (ref := "Trumpvault$Cards") (ci := 1) (index := 98) (v := .ref (h 5)) X iX1 4 wT_g4 rfl 0 (by decide) (by decide +kernel) (fun _ h9 => h9) rfl dX3_isPlayable_37 ?_
        refine v_iload_n X dX3_isPlayable_40 rfl ?_
        refine v_iald X 5 0 wT_g5 rfl in2_30 dX3_isPlayable_41 ?_
        refine v_callVi (As := [.int (S 5 p2.toNatClampNeg)]) (rest := []) (w' := (wT h cI cII S)) X (c_X3_bannedToday l D cI cII cL h S (S 5 p2.toNatClampNeg) (hkin _)) (cwV 1 X.2.2.2.1 gX3_isPlayable_X3_bannedToday rfl rfl rfl (by decide +kernel) ⟨Nat.le_of_ble_eq_true rfl, Nat.le_of_ble_eq_true rfl⟩) 0 3 rfl rfl wT_g0 rfl rfl (Nat.le_of_ble_eq_true rfl) dX3_isPlayable_42 ⟨Nat.le_of_ble_eq_true rfl, Nat.le_of_ble_eq_true rfl⟩ ?_
        refine v_if_ne (tgt := 52) X dX3_isPlayable_45 (by decide) (fun c_4 => ?_) (fun c_4 => ?_)
        · refine v_iconst (x := 0) X dX3_isPlayable_52 rfl ?_
          exact v_reti X hr hk rfl (by unfold r_X3_isPlayable; rw [if_pos c_1, if_neg c_2, if_neg c_3, if_neg c_4]) rfl (Nat.le_of_ble_eq_true rfl) (Nat.le_of_ble_eq_true rfl) dX3_isPlayable_53
        · refine v_iconst (x := 1) X dX3_isPlayable_48 rfl ?_
          refine v_goto (tgt := 53) X dX3_isPlayable_49 (by decide) ?_
          exact v_reti X hr hk rfl (by unfold r_X3_isPlayable; rw [if_pos c_1, if_neg c_2, if_neg c_3, if_pos c_4]) rfl (Nat.le_of_ble_eq_true rfl) (Nat.le_of_ble_eq_true rfl) dX3_isPlayable_53

def st1_X3_deckStrength (S : St) (p1 : Int32) (k : Nat) (qb2 : Int32) : Int32 :=
  (if (r_X3_inDeck S p1 (nI k)) = 0 then qb2 else (qb2 + ((S 5 (nI k).toNatClampNeg) + 1)))
def lp1_X3_deckStrength (S : St) (p1 : Int32) : Nat → Int32
  | 0 => 0
  | k + 1 => st1_X3_deckStrength S p1 k (lp1_X3_deckStrength S p1 k)
theorem e_lp1_X3_deckStrength (S : St) (p1 : Int32) (k : Nat) : lp1_X3_deckStrength S p1 (k + 1) = st1_X3_deckStrength S p1 k (lp1_X3_deckStrength S p1 k) := rfl
def r_X3_deckStrength (S : St) (p1 : Int32) : Int32 :=
  (lp1_X3_deckStrength S p1 (S 4 8).toNatClampNeg)
set_option maxHeartbeats 1000000 in
set_option maxRecDepth 100000 in
theorem c_X3_deckStrength (l : Launch) (D : va_G) (cI cII cL : ClassId) (h : Nat → Nat) (S : St) (p1 : Int32) (in1_5 : vp_in p1 5) (hcnt : cntC S) : v_Mi l D vwCl (tyl cI cII cL) yX3_deckStrength wsX3_deckStrength { frames := 1, cells := 0, slots := 0, locals := 22 } [.ref (h 0), .int p1] (wT h cI cII S) (r_X3_deckStrength S p1) (wT h cI cII S) := by
  refine v_ofMi (cc := cX3_deckStrength) (maxL := 4) (ret := (some .int)) (own := RX3) (lv0 := [(0, .ref (h 0)), (1, .int p1)]) (by decide) rfl rfl rfl (Nat.le_of_ble_eq_true rfl) ?_
  intro p e s m below meth c X hr hk hin
  have iX1 : ∀ w ∈ wsX10, w ∈ wsX3_deckStrength := by decide +kernel
  have iX3 : ∀ w ∈ wsX30, w ∈ wsX3_deckStrength := by decide +kernel
  obtain ⟨N, hN, hN30, hNc⟩ := v_num (M := 30) (by decide) hcnt
  refine v_iconst (x := 0) X dX3_deckStrength_0 rfl ?_
  refine v_istore_n (lv' := [(2, .int 0), (0, .ref (h 0)), (1, .int p1)]) X dX3_deckStrength_1 (by decide) rfl ?_
  refine v_iconst (x := 0) X dX3_deckStrength_2 rfl ?_
  refine v_istore_n (lv' := [(3, .int 0), (2, .int 0), (0, .ref (h 0)), (1, .int p1)]) X dX3_deckStrength_3 (by decide) rfl ?_
  have L_1 : ∀ (d_1 k_1 : Nat) (i_1 b2_1 : Int32), k_1 + d_1 = N → i_1 = nI k_1 → b2_1 = (lp1_X3_deckStrength S p1 k_1) → v_V p l e { frames := 1, cells := 0, slots := 0, locals := 22 } s m [.ref (h 0), .int p1].toArray below meth c D vwCl (va_A (wT h cI cII S) s.heap.size) 4 (v_Qi below s D vwCl (tyl cI cII cL) { frames := 1, cells := 0, slots := 0, locals := 22 } [.ref (h 0), .int p1] (wT h cI cII S) (r_X3_deckStrength S p1) (wT h cI cII S)) 0 0 (wT h cI cII S) 4 [(3, .int i_1), (2, .int b2_1), (0, .ref (h 0)), (1, .int p1)] [] := by
    intro d_1
    induction d_1 with
    | zero =>
      intro k_1 i_1 b2_1 hk_1 ei_1 eb2_1
      subst ei_1 eb2_1
      obtain rfl : N = k_1 := by omega
      refine v_iload_n X dX3_deckStrength_4 rfl ?_
      refine v_aload_n X dX3_deckStrength_5 rfl ?_
      refine v_getfield (ref := "Trumpvault") (ci := 3) (index := 10) (v := .ref (h 4)) X iX3 0 wT_g0 rfl 0 (by decide) (by decide +kernel) (fun _ h9 => h9) rfl dX3_deckStrength_6 ?_
      refine v_getfield (ref := "Trumpvault$Cards") (ci := 1) (index := 213) (v := .int (S 4 8)) X iX1 4 wT_g4 rfl 8 (by decide) (by decide +kernel) (fun _ h9 => h9) rfl dX3_deckStrength_9 ?_
      refine v_icmp_ge (tgt := 44) X dX3_deckStrength_12 (by decide) (fun c_1 => ?_) (fun c_1 => ?_)
      · refine v_iload_n X dX3_deckStrength_44 rfl ?_
        exact v_reti X hr hk rfl (by unfold r_X3_deckStrength; rw [hNc]) rfl (Nat.le_of_ble_eq_true rfl) (Nat.le_of_ble_eq_true rfl) dX3_deckStrength_45
      · exact absurd (by rw [hN]; exact nI_le (Nat.le_refl _) (by omega)) c_1
    | succ d_1 ih_1 =>
      intro k_1 i_1 b2_1 hk_1 ei_1 eb2_1
      subst ei_1 eb2_1
      have hlt_1 : k_1 < N := by omega
      refine v_iload_n X dX3_deckStrength_4 rfl ?_
      refine v_aload_n X dX3_deckStrength_5 rfl ?_
      refine v_getfield (ref := "Trumpvault") (ci := 3) (index := 10) (v := .ref (h 4)) X iX3 0 wT_g0 rfl 0 (by decide) (by decide +kernel) (fun _ h9 => h9) rfl dX3_deckStrength_6 ?_
      refine v_getfield (ref := "Trumpvault$Cards") (ci := 1) (index := 213) (v := .int (S 4 8)) X iX1 4 wT_g4 rfl 8 (by decide) (by decide +kernel) (fun _ h9 => h9) rfl dX3_deckStrength_9 ?_
      refine v_icmp_ge (tgt := 44) X dX3_deckStrength_12 (by decide) (fun c_2 => ?_) (fun c_2 => ?_)
      · exact absurd c_2 (by rw [hN]; exact nI_ge hlt_1 (by omega))
      · refine v_aload_n X dX3_deckStrength_15 rfl ?_
        refine v_iload_n X dX3_deckStrength_16 rfl ?_
        refine v_iload_n X dX3_deckStrength_17 rfl ?_
        refine v_callVi (As := [.int p1, .int (nI k_1)]) (rest := []) (w' := (wT h cI cII S)) X (c_X3_inDeck l D cI cII cL h S p1 (nI k_1) in1_5) (cwV 2 X.2.2.2.1 gX3_deckStrength_X3_inDeck rfl rfl rfl (by decide +kernel) ⟨Nat.le_of_ble_eq_true rfl, Nat.le_of_ble_eq_true rfl⟩) 0 3 rfl rfl wT_g0 rfl rfl (Nat.le_of_ble_eq_true rfl) dX3_deckStrength_18 ⟨Nat.le_of_ble_eq_true rfl, Nat.le_of_ble_eq_true rfl⟩ ?_
        refine v_if_eq (tgt := 38) X dX3_deckStrength_21 (by decide) (fun c_3 => ?_) (fun c_3 => ?_)
        · refine v_iinc (y := ((nI k_1) + 1)) (lv' := [(3, .int ((nI k_1) + 1)), (2, .int (lp1_X3_deckStrength S p1 k_1)), (0, .ref (h 0)), (1, .int p1)]) X dX3_deckStrength_38 rfl rfl (by decide) rfl ?_
          refine v_goto (tgt := 4) X dX3_deckStrength_41 (by decide) ?_
          refine v_lv [0, 1, 2, 3] rfl ?_
          exact ih_1 (k_1 + 1) ((nI k_1) + 1) (lp1_X3_deckStrength S p1 k_1) (by omega) (nI_1 k_1) (by rw [e_lp1_X3_deckStrength]; unfold st1_X3_deckStrength; rw [if_pos c_3])
        · refine v_iload_n X dX3_deckStrength_24 rfl ?_
          refine v_aload_n X dX3_deckStrength_25 rfl ?_
          refine v_getfield (ref := "Trumpvault") (ci := 3) (index := 10) (v := .ref (h 4)) X iX3 0 wT_g0 rfl 0 (by decide) (by decide +kernel) (fun _ h9 => h9) rfl dX3_deckStrength_26 ?_
          refine v_getfield (ref := "Trumpvault$Cards") (ci := 1) (index := 98) (v := .ref (h 5)) X iX1 4 wT_g4 rfl 0 (by decide) (by decide +kernel) (fun _ h9 => h9) rfl dX3_deckStrength_29 ?_
          refine v_iload_n X dX3_deckStrength_32 rfl ?_
          refine v_iald X 5 0 wT_g5 rfl (vp_in_nI (by omega) (by decide)) dX3_deckStrength_33 ?_
          refine v_iconst (x := 1) X dX3_deckStrength_34 rfl ?_
          refine v_iadd X dX3_deckStrength_35 ?_
          refine v_iadd X dX3_deckStrength_36 ?_
          refine v_istore_n (lv' := [(2, .int ((lp1_X3_deckStrength S p1 k_1) + ((S 5 (nI k_1).toNatClampNeg) + 1))), (3, .int (nI k_1)), (0, .ref (h 0)), (1, .int p1)]) X dX3_deckStrength_37 (by decide) rfl ?_
          refine v_iinc (y := ((nI k_1) + 1)) (lv' := [(3, .int ((nI k_1) + 1)), (2, .int ((lp1_X3_deckStrength S p1 k_1) + ((S 5 (nI k_1).toNatClampNeg) + 1))), (0, .ref (h 0)), (1, .int p1)]) X dX3_deckStrength_38 rfl rfl (by decide) rfl ?_
          refine v_goto (tgt := 4) X dX3_deckStrength_41 (by decide) ?_
          refine v_lv [0, 1, 2, 3] rfl ?_
          exact ih_1 (k_1 + 1) ((nI k_1) + 1) ((lp1_X3_deckStrength S p1 k_1) + ((S 5 (nI k_1).toNatClampNeg) + 1)) (by omega) (nI_1 k_1) (by rw [e_lp1_X3_deckStrength]; unfold st1_X3_deckStrength; rw [if_neg c_3])
  exact L_1 N 0 0 0 (Nat.zero_add _) (by exact nI_0.symm) rfl
