theorem RelK.at {S : St} (h : RelK S) {p : Int32} (hp : vp_in p 5) : bN (S 3 p.toNatClampNeg) < 2 ^ (S 4 8).toNatClampNeg := h _ (vp_lt hp)
theorem Rel.cn {n : Nat} {S M : St} (h : Rel n S M) : (S 4 8).toNatClampNeg ≤ 30 := by
  have hc := h.hcnt
  unfold cntC at hc
  have := i_nat hc.1
  omega
theorem Rel.dk {n : Nat} {S M : St} (h : Rel n S M) {p : Int32} (hp : vp_in p 5) : bN (S 3 p.toNatClampNeg) < 2147483648 := by
  have h1 := RelK.at h.2.2.2.2.2.1 hp
  have h2 : 2 ^ (S 4 8).toNatClampNeg ≤ 2 ^ 30 := Nat.pow_le_pow_right (by decide) h.cn
  omega
theorem size_lp {n : Nat} {S M : St} (h : Rel n S M) {p : Int32} (hp : vp_in p 5) (k : Nat) (hk : k ≤ 30) : lp1_X4_size M p k = nI (pop (bN (S 3 p.toNatClampNeg)) k) := by
  induction k with
  | zero => rfl
  | succ k ih =>
    rw [e_lp1_X4_size, ih (by omega), pop_step]
    unfold st1_X4_size
    rw [← h.1.2.2.2.2.2.2.2.2.2.1, bit_at _ k (by omega) (h.dk hp), nI_add]
theorem size_eq {n : Nat} {S M : St} (h : Rel n S M) {p : Int32} (hp : vp_in p 5) : r_J6_bitCount_0f7a4 (S 3 p.toNatClampNeg) = r_X4_size M p := by
  refine bN_inj ?_
  have hc := h.cn
  unfold r_X4_size
  rw [← h.1.1, size_lp h hp _ hc, bc_pop]
  have e := pop_ext (RelK.at h.2.2.2.2.2.1 hp) (32 - (S 4 8).toNatClampNeg)
  rw [show (S 4 8).toNatClampNeg + (32 - (S 4 8).toNatClampNeg) = 32 by omega] at e
  have := pop_le (bN (S 3 p.toNatClampNeg)) (S 4 8).toNatClampNeg
  rw [e, bN_nI (by omega)]
theorem in_deck {n : Nat} {S M : St} (h : Rel n S M) {p : Int32} (hp : vp_in p 5) (k : Nat) (hk : k < 30) : (r_X3_inDeck S p (nI k) = 0 ∧ (M 15 p.toNatClampNeg >>> (nI k &&& 31)) &&& 1 = 0) ∨ (r_X3_inDeck S p (nI k) = 1 ∧ (M 15 p.toNatClampNeg >>> (nI k &&& 31)) &&& 1 = 1) := by
  have e1 := bit_in (S 3 p.toNatClampNeg) k (by omega)
  have e2 := bit_at (S 3 p.toNatClampNeg) k (by omega) (h.dk hp)
  unfold r_X3_inDeck
  rw [← h.1.2.2.2.2.2.2.2.2.2.1, e2]
  by_cases q : bN (S 3 p.toNatClampNeg) / 2 ^ k % 2 = 0
  · rw [if_pos (e1.mpr q), q]; exact Or.inl ⟨rfl, rfl⟩
  · rw [if_neg (fun z => q (e1.mp z)), show bN (S 3 p.toNatClampNeg) / 2 ^ k % 2 = 1 by omega]; exact Or.inr ⟨rfl, rfl⟩
theorem right_lp {n : Nat} {S M : St} (hn : n ≤ 512) (h : Rel n S M) {p : Int32} (hp : vp_in p 5) (hb : r_X4_in (r_X4_size M p) 1 5 = 1) (k : Nat) (hk : k ≤ 30) : lp1_X3_deckIsRight S p k = lp1_X4_right M p k := by
  induction k with
  | zero => exact hb.symm
  | succ k ih =>
    rw [e_lp1_X3_deckIsRight, e_lp1_X4_right, ← ih (by omega)]
    have hd := in_deck h hp k (by omega)
    generalize lp1_X3_deckIsRight S p k = q
    unfold st1_X3_deckIsRight st1_X4_right r_X3_isPlayable r_X1_holderOf r_X4_holds
    rw [ban_eq h hn (h.hkin _), ← h.1.2.1, ← h.1.2.2.1, ← h.1.2.2.2.1, ← h.1.2.2.2.2.2.2.1]
    by_cases h0 : q = 0
    · rw [if_pos h0, if_pos h0]
    · rw [if_neg h0, if_neg h0]
      rcases hd with ⟨d1, d2⟩ | ⟨d1, d2⟩
      · rw [d1, d2]; rfl
      · rw [d1, d2, if_neg (show ¬ (1 : Int32) = 0 by decide), if_pos (show (1 : Int32) = 1 from rfl), if_neg (show ¬ (1 : Int32) = 0 by decide)]
        rcases b_X4_banned M (S 5 (nI k).toNatClampNeg) with z | z
        · rw [z]
          by_cases a1 : (if S 7 (nI k).toNatClampNeg = 3 then S 11 (nI k).toNatClampNeg else S 6 (nI k).toNatClampNeg) = p
          · by_cases a2 : S 7 (nI k).toNatClampNeg = 1
            · simp [a1, a2]
            · by_cases a3 : S 7 (nI k).toNatClampNeg = 2
              · simp [a1, a3]
              · simp [a1, a2, a3]
          · simp [a1]
        · rw [z]
          by_cases a1 : (if S 7 (nI k).toNatClampNeg = 3 then S 11 (nI k).toNatClampNeg else S 6 (nI k).toNatClampNeg) = p
          · by_cases a2 : S 7 (nI k).toNatClampNeg = 1
            · simp [a1, a2]
            · by_cases a3 : S 7 (nI k).toNatClampNeg = 2
              · simp [a1, a3]
              · simp [a1, a2, a3]
          · simp [a1]
theorem right_0 {M : St} {p : Int32} (hb : r_X4_in (r_X4_size M p) 1 5 = 0) (k : Nat) : lp1_X4_right M p k = 0 := by
  induction k with
  | zero => exact hb
  | succ k ih =>
    rw [e_lp1_X4_right, ih]
    unfold st1_X4_right
    rw [if_pos rfl]
theorem right_eq {n : Nat} {S M : St} (hn : n ≤ 512) (h : Rel n S M) {p : Int32} (hp : vp_in p 5) : r_X3_deckIsRight S p = r_X4_right M p := by
  have hs := size_eq h hp
  have hc := h.cn
  unfold r_X3_deckIsRight r_X4_right
  rw [hs, ← h.1.1]
  by_cases hb : 1 ≤ (r_X4_size M p).toInt ∧ (r_X4_size M p).toInt ≤ 5
  · rw [if_neg (by rw [i_lt, c_1]; omega), if_pos (by rw [i_le, c_5]; omega)]
    exact right_lp hn h hp (in_t (by rw [c_1]; omega) (by rw [c_5]; omega)) _ hc
  · rw [right_0 (in_f (by rw [c_1, c_5]; exact hb))]
    by_cases h1 : r_X4_size M p < 1
    · rw [if_pos h1]
    · rw [if_neg h1, if_neg (by rw [i_lt, c_1] at h1; rw [i_le, c_5]; omega)]
theorem str_lp {n : Nat} {S M : St} (h : Rel n S M) {p : Int32} (hp : vp_in p 5) (k : Nat) (hk : k ≤ 30) : lp1_X3_deckStrength S p k = lp1_X4_strengthOf M p k := by
  induction k with
  | zero => rfl
  | succ k ih =>
    rw [e_lp1_X3_deckStrength, e_lp1_X4_strengthOf, ← ih (by omega)]
    have hd := in_deck h hp k (by omega)
    generalize lp1_X3_deckStrength S p k = q
    unfold st1_X3_deckStrength st1_X4_strengthOf
    rw [← h.1.2.1]
    rcases hd with ⟨d1, d2⟩ | ⟨d1, d2⟩
    · rw [d1, d2, if_pos (show (0 : Int32) = 0 from rfl), if_neg (show ¬ (0 : Int32) = 1 by decide), Int32.add_zero]
    · rw [d1, d2, if_neg (show ¬ (1 : Int32) = 0 by decide), if_pos (show (1 : Int32) = 1 from rfl)]
theorem str_eq {n : Nat} {S M : St} (h : Rel n S M) {p : Int32} (hp : vp_in p 5) : r_X3_deckStrength S p = r_X4_strengthOf M p := by
  unfold r_X3_deckStrength r_X4_strengthOf
  rw [← h.1.1]
  exact str_lp h hp _ h.cn
theorem Rel_dk {n : Nat} {S M : St} {p : Nat} {v : Int32} (hv : bN v < 2 ^ (S 4 8).toNatClampNeg) (h : Rel n S M) : Rel n (sU S 3 p v) (sU M 15 p v) := by
  obtain ⟨⟨e1, e2, e3, e4, e5, e6, e7, e8, e9, e10, e11⟩, hR, hB, hN, hD, hK, hH⟩ := h
  refine ⟨⟨e1, e2, e3, e4, e5, e6, e7, e8, e9, ?_, e11⟩, hR, RelB_c (fun i a b => sU_ne (by omega)) rfl hB, RelN_c (fun i a b => sU_ne (by omega)) rfl rfl (fun _ q => q) rfl rfl rfl hN, RelD_c rfl rfl hD, fun q hq => ?_, RelH_c (n := n) (S := S) rfl rfl rfl rfl rfl (by rw [swc_congr (S := S) (S' := sU S 3 p v) rfl]; omega) hH⟩
  · show upd (S 3) p v = upd (M 15) p v
    rw [e10]
  · show (upd (S 3) p v q).toBitVec.toNat < 2 ^ (S 4 8).toNatClampNeg
    rw [upd_at]
    by_cases z : q = p
    · rw [if_pos z]; exact hv
    · rw [if_neg z]; exact hK q hq
theorem sim_toggleDeck {n : Nat} {S M : St} (h : Rel n S M) (hn : n < 512) (p1 p2 : Int32) : r_X4_thrown (s_X4_toggleDeck M p1 p2) = k_L_toggleDeck S p1 p2 ∧ (k_L_toggleDeck S p1 p2 = 0 → ∀ F : Nat → Int64, f_L_toggleDeck S p1 p2 F 0 = (r_X4_toggleDeck M p1 p2).toInt64) ∧ Rel (n + 1) (s_L_toggleDeck S p1 p2) (s_X4_toggleDeck M p1 p2) := by
  obtain ⟨x10, x2, x3, x4, x5, x7, x8, x9, x1, x15, x0⟩ := h.1
  by_cases hp : vp_in p1 5
  · have e1 := np_t hp
    have e2 := ip_t hp
    by_cases hc : inC S p2
    · have e3 := nc_t hc
      have e4 := ic_t h hc
      have hx : x_X3_toggleDeck S p1 p2 = none := by simp [x_X3_toggleDeck, e1, e3]
      have hM : s_X4_toggleDeck M p1 p2 = sU (sU M 0 16 0) 15 p1.toNatClampNeg (S 3 p1.toNatClampNeg ^^^ (1 <<< (p2 &&& 31))) := by
        rw [x15]
        simp [s_X4_toggleDeck, as1, ar1, e2, e4]
        rfl
      have hS : s_L_toggleDeck S p1 p2 = sU S 3 p1.toNatClampNeg (S 3 p1.toNatClampNeg ^^^ (1 <<< (p2 &&& 31))) := by
        simp [s_L_toggleDeck, hx, s_X3_toggleDeck, e1, e3]
      have hcn := h.cn
      have hcc := hc
      unfold inC at hcc
      have hci := i_nat hcc.1
      have hcj := i_nat (x := S 4 8) (by omega)
      have hv : bN (S 3 p1.toNatClampNeg ^^^ (1 <<< (p2 &&& 31))) < 2 ^ (S 4 8).toNatClampNeg := by
        rw [i_nI hcc.1]
        exact bit_xor _ (RelK.at h.2.2.2.2.2.1 hp) hcn (by omega)
      have hR := Rel_dk (p := p1.toNatClampNeg) hv (Rel_thr 0 (Rel_mono h))
      have hr : r_X3_toggleDeck S p1 p2 = r_X4_toggleDeck M p1 p2 := by
        have a1 : r_X3_toggleDeck S p1 p2 = r_J6_bitCount_0f7a4 ((sU S 3 p1.toNatClampNeg (S 3 p1.toNatClampNeg ^^^ (1 <<< (p2 &&& 31)))) 3 p1.toNatClampNeg) := by
          simp only [r_X3_toggleDeck, e1, e3, if_true]
        have a2 : r_X4_toggleDeck M p1 p2 = r_X4_size (sU (sU M 0 16 0) 15 p1.toNatClampNeg (S 3 p1.toNatClampNeg ^^^ (1 <<< (p2 &&& 31)))) p1 := by
          rw [x15]
          simp [r_X4_toggleDeck, as1, ar1, e2, e4]
          rfl
        rw [a1, a2]
        exact size_eq hR hp
      refine good3 (by simp [k_L_toggleDeck, hx]) (by rw [hM]; rfl) (fun F => by simp [f_L_toggleDeck, hx, vp_updL, hr]) ?_
      rw [hM, hS]
      exact hR
    · have e3 := nc_f hc
      have e4 := ic_f h hc
      exact fail3 h (v := 1) (by decide) (by simp [s_X4_toggleDeck, as1, ar1, e2, e4]) (by simp [k_L_toggleDeck, x_X3_toggleDeck, e1, e3]) (by simp [s_L_toggleDeck, x_X3_toggleDeck, e1, e3])
  · have e1 := np_f hp
    have e2 := ip_f hp
    exact fail3 h (v := 1) (by decide) (by simp [s_X4_toggleDeck, as1, ar1, e2]) (by simp [k_L_toggleDeck, x_X3_toggleDeck, e1]) (by simp [s_L_toggleDeck, x_X3_toggleDeck, e1])
theorem sim_isRight {n : Nat} {S M : St} (h : Rel n S M) (hn : n < 512) (p1 : Int32) : r_X4_thrown (s_X4_isRight M p1) = k_L_isRight S p1 ∧ (k_L_isRight S p1 = 0 → ∀ F : Nat → Int64, f_L_isRight S p1 F 0 = (if r_X4_isRight M p1 = 0 then 0 else 1)) ∧ Rel (n + 1) S (s_X4_isRight M p1) := by
  by_cases hc : vp_in p1 5
  · have e1 := np_t hc
    have e2 := ip_t hc
    have hx : x_X3_isRight S p1 = none := by simp [x_X3_isRight, e1]
    have hM : s_X4_isRight M p1 = sU M 0 16 0 := by simp [s_X4_isRight, as1, ar1, e2]
    have hb := right_eq (by omega) (Rel_thr 0 h) hc
    have hr : r_X3_isRight S p1 = 0 ↔ r_X4_isRight M p1 = 0 := by
      have a1 : r_X3_isRight S p1 = r_X3_deckIsRight S p1 := by simp only [r_X3_isRight, e1, if_true]
      have a2 : r_X4_isRight M p1 = if r_X4_right (sU M 0 16 0) p1 = 0 then 0 else 1 := by simp [r_X4_isRight, as1, ar1, e2]
      rw [a1, a2, hb]
      by_cases z : r_X4_right (sU M 0 16 0) p1 = 0
      · simp [z]
      · simp [z]
    refine good3 (by simp [k_L_isRight, hx]) (by rw [hM]; rfl) (fun F => ?_) ?_
    · simp only [f_L_isRight, hx, vp_updL, if_true]
      by_cases z : r_X4_isRight M p1 = 0
      · rw [if_pos z, if_pos (hr.mpr z)]
      · rw [if_neg z, if_neg (fun y => z (hr.mp y))]
    · rw [hM]; exact Rel_thr _ (Rel_mono h)
  · have e1 := np_f hc
    have e2 := ip_f hc
    exact fail3 h (v := 1) (by decide) (by simp [s_X4_isRight, as1, ar1, e2]) (by simp [k_L_isRight, x_X3_isRight, e1]) rfl
theorem sim_strength {n : Nat} {S M : St} (h : Rel n S M) (hn : n < 512) (p1 : Int32) : r_X4_thrown (s_X4_strength M p1) = k_L_strength S p1 ∧ (k_L_strength S p1 = 0 → ∀ F : Nat → Int64, f_L_strength S p1 F 0 = (r_X4_strength M p1).toInt64) ∧ Rel (n + 1) S (s_X4_strength M p1) := by
  by_cases hc : vp_in p1 5
  · have e1 := np_t hc
    have e2 := ip_t hc
    have hx : x_X3_strength S p1 = none := by simp [x_X3_strength, e1]
    have hM : s_X4_strength M p1 = sU M 0 16 0 := by simp [s_X4_strength, as1, ar1, e2]
    have hr : r_X3_strength S p1 = r_X4_strength M p1 := by
      have a1 : r_X3_strength S p1 = r_X3_deckStrength S p1 := by simp only [r_X3_strength, e1, if_true]
      have a2 : r_X4_strength M p1 = r_X4_strengthOf (sU M 0 16 0) p1 := by simp [r_X4_strength, as1, ar1, e2]
      rw [a1, a2]
      exact str_eq (Rel_thr 0 h) hc
    refine good3 (by simp [k_L_strength, hx]) (by rw [hM]; rfl) (fun F => by simp [f_L_strength, hx, vp_updL, hr]) ?_
    rw [hM]; exact Rel_thr _ (Rel_mono h)
  · have e1 := np_f hc
    have e2 := ip_f hc
    exact fail3 h (v := 1) (by decide) (by simp [s_X4_strength, as1, ar1, e2]) (by simp [k_L_strength, x_X3_strength, e1]) rfl
theorem sim_play {n : Nat} {S M : St} (h : Rel n S M) (hn : n < 512) (p1 p2 : Int32) : r_X4_thrown (s_X4_play M p1 p2) = k_L_play S p1 p2 ∧ (k_L_play S p1 p2 = 0 → ∀ F : Nat → Int64, f_L_play S p1 p2 F 0 = (r_X4_play M p1 p2).toInt64) ∧ Rel (n + 1) (s_L_play S p1 p2) (s_X4_play M p1 p2) := by
  have x1 := h.1.2.2.2.2.2.2.2.2.1
  by_cases hp : vp_in p1 5
  · have e1 := np_t hp
    have e2 := ip_t hp
    by_cases hq : vp_in p2 5
    · have e3 := np_t hq
      have e4 := ip_t hq
      by_cases he : p1 = p2
      · exact fail3 h (v := 2) (by decide) (by subst he; simp [s_X4_play, as3, ar3, e2]) (by subst he; simp [k_L_play, x_X3_play, e1, ne21]) (by subst he; simp [s_L_play, x_X3_play, e1])
      · have g1 := right_eq (by omega) h hp
        have g2 := right_eq (by omega) h hq
        by_cases r1 : r_X4_right M p1 = 0
        · rw [r1] at g1
          exact fail3 h (v := 3) (by decide) (by simp [s_X4_play, as3, ar3, e2, e4, he, r1]) (by simp [k_L_play, x_X3_play, e1, e3, he, g1, ne31, ne32]) (by simp [s_L_play, x_X3_play, e1, e3, he, g1])
        · have r1' : ¬ r_X3_deckIsRight S p1 = 0 := by rw [g1]; exact r1
          by_cases r2 : r_X4_right M p2 = 0
          · rw [r2] at g2
            exact fail3 h (v := 3) (by decide) (by simp [s_X4_play, as3, ar3, e2, e4, he, r1, r2]) (by simp [k_L_play, x_X3_play, e1, e3, he, r1', g2, ne31, ne32]) (by simp [s_L_play, x_X3_play, e1, e3, he, r1', g2])
          · have r2' : ¬ r_X3_deckIsRight S p2 = 0 := by rw [g2]; exact r2
            have hx : x_X3_play S p1 p2 = none := by simp [x_X3_play, e1, e3, he, r1', r2']
            have t1 := str_eq (Rel_thr 0 h) hp
            have t2 := str_eq (Rel_thr 0 h) hq
            by_cases g : r_X4_strengthOf (sU M 0 16 0) p2 ≤ r_X4_strengthOf (sU M 0 16 0) p1
            · have g' : r_X3_deckStrength S p2 ≤ r_X3_deckStrength S p1 := by rw [t1, t2]; exact g
              have hM : s_X4_play M p1 p2 = sU (sU M 0 16 0) 1 p1.toNatClampNeg (S 1 p1.toNatClampNeg + 5) := by
                rw [x1]
                simp [s_X4_play, as3, ar3, e2, e4, he, r1, r2, g]
                rfl
              have hS : s_L_play S p1 p2 = sU S 1 p1.toNatClampNeg (S 1 p1.toNatClampNeg + 5) := by simp [s_L_play, hx, s_X3_play, e1, e3, he, r1', r2', g']
              have hr : r_X3_play S p1 p2 = r_X4_play M p1 p2 := by simp [r_X3_play, r_X4_play, as3, ar3, e1, e2, e3, e4, he, r1, r2, r1', r2', g, g']
              refine good3 (by simp [k_L_play, hx]) (by rw [hM]; rfl) (fun F => by simp [f_L_play, hx, vp_updL, hr]) ?_
              rw [hM, hS]
              exact Rel_co (Rel_thr 0 (Rel_mono h))
            · have g' : ¬ r_X3_deckStrength S p2 ≤ r_X3_deckStrength S p1 := by rw [t1, t2]; exact g
              have hM : s_X4_play M p1 p2 = sU (sU M 0 16 0) 1 p2.toNatClampNeg (S 1 p2.toNatClampNeg + 5) := by
                rw [x1]
                simp [s_X4_play, as3, ar3, e2, e4, he, r1, r2, g]
                rfl
              have hS : s_L_play S p1 p2 = sU S 1 p2.toNatClampNeg (S 1 p2.toNatClampNeg + 5) := by simp [s_L_play, hx, s_X3_play, e1, e3, he, r1', r2', g']
              have hr : r_X3_play S p1 p2 = r_X4_play M p1 p2 := by simp [r_X3_play, r_X4_play, as3, ar3, e1, e2, e3, e4, he, r1, r2, r1', r2', g, g']
              refine good3 (by simp [k_L_play, hx]) (by rw [hM]; rfl) (fun F => by simp [f_L_play, hx, vp_updL, hr]) ?_
              rw [hM, hS]
              exact Rel_co (Rel_thr 0 (Rel_mono h))
    · have e3 := np_f hq
      have e4 := ip_f hq
      exact fail3 h (v := 1) (by decide) (by simp [s_X4_play, as3, ar3, e2, e4]) (by simp [k_L_play, x_X3_play, e1, e3]) (by simp [s_L_play, x_X3_play, e1, e3])
  · have e1 := np_f hp
    have e2 := ip_f hp
    exact fail3 h (v := 1) (by decide) (by simp [s_X4_play, as3, ar3, e2]) (by simp [k_L_play, x_X3_play, e1]) (by simp [s_L_play, x_X3_play, e1])
