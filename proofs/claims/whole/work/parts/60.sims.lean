theorem sim_toggleDeck {n : Nat} {S M : St} (h : Rel n S M) (hn : n < 512) (p1 p2 : Int32) : r_X4_thrown (s_X4_toggleDeck M p1 p2) = k_L_toggleDeck S p1 p2 ∧ (k_L_toggleDeck S p1 p2 = 0 → ∀ F : Nat → Int64, f_L_toggleDeck S p1 p2 F 0 = (r_X4_toggleDeck M p1 p2).toInt64) ∧ Rel (n + 1) (s_L_toggleDeck S p1 p2) (s_X4_toggleDeck M p1 p2) := by
  sorry
theorem sim_isRight {n : Nat} {S M : St} (h : Rel n S M) (hn : n < 512) (p1 : Int32) : r_X4_thrown (s_X4_isRight M p1) = k_L_isRight S p1 ∧ (k_L_isRight S p1 = 0 → ∀ F : Nat → Int64, f_L_isRight S p1 F 0 = (if r_X4_isRight M p1 = 0 then 0 else 1)) ∧ Rel (n + 1) S (s_X4_isRight M p1) := by
  sorry
theorem sim_strength {n : Nat} {S M : St} (h : Rel n S M) (hn : n < 512) (p1 : Int32) : r_X4_thrown (s_X4_strength M p1) = k_L_strength S p1 ∧ (k_L_strength S p1 = 0 → ∀ F : Nat → Int64, f_L_strength S p1 F 0 = (r_X4_strength M p1).toInt64) ∧ Rel (n + 1) S (s_X4_strength M p1) := by
  sorry
theorem sim_play {n : Nat} {S M : St} (h : Rel n S M) (hn : n < 512) (p1 p2 : Int32) : r_X4_thrown (s_X4_play M p1 p2) = k_L_play S p1 p2 ∧ (k_L_play S p1 p2 = 0 → ∀ F : Nat → Int64, f_L_play S p1 p2 F 0 = (r_X4_play M p1 p2).toInt64) ∧ Rel (n + 1) (s_L_play S p1 p2) (s_X4_play M p1 p2) := by
  sorry
