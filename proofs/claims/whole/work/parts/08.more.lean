/-! more of the layer: a weaker end; answers of tests -/
theorem MM.post {E : gE} {y : MethodName} {w : List Cond} {rm : Room} {as : List Value} {WS : va_W} {p1 p2 : Option Value → va_W → Prop} (h : MM E y w rm as WS p1) (hp : ∀ v u, p1 v u → p2 v u) : MM E y w rm as WS p2 := by
  intro sz p e ha hc hk s m args below hf hh hP hT
  obtain ⟨k, o, h1, h2, h3, ⟨⟨⟨v, u, e1, e2, e3⟩, e4⟩, h5⟩⟩ := h sz p e ha hc hk s m args below hf hh hP hT
  exact ⟨k, o, h1, h2, h3, ⟨⟨v, u, e1, hp v u e2, e3⟩, e4⟩, h5⟩
theorem nI_lit0 : nI 0 = 0 := rfl
theorem in_nI {x : Int32} {n : Nat} (hn : n < 2147483648) (h0 : ¬ x < 0) (h1 : ¬ nI n ≤ x) : ∃ j : Nat, j < n ∧ x = nI j := by
  rcases pk_ix x (n := n) hn with h | h | h
  · exact absurd h h0
  · exact absurd h h1
  · exact h
theorem nlt_pred {x : Int32} {n : Nat} (hn : n < 2147483647) : ¬ nI n < x ↔ ¬ nI (n + 1) ≤ x := by
  rw [fa_lt, fa_le, nI_toInt (by omega), nI_toInt (by omega)]
  omega
