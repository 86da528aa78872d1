/-! THE RULES' TEXT, read token by token: what is laid down, or which FAULT where -/
abbrev pR : Type := Except (Nat × Nat) (Nat × List Int32)
def isV (t : Int32) : Bool := decide (¬ nI 999 < t ∨ (¬ t < nI 1006 ∧ ¬ nI 1010 < t))
def sgL (s : Int32) : List Int32 := if s = nI 1012 then [] else [s]
/-- T: from token i, the sign that waits, what is laid down so far -/
def suL (K : Nat → Int32) : Nat → Nat → Int32 → List Int32 → pR
  | 0, i, _, _ => .error (1, i)
  | f + 1, i, s, C => if isV (K i) = true then (if K (i + 1) = nI 1143 ∨ K (i + 1) = nI 1145 then suL K f (i + 2) (K (i + 1)) (C ++ [K i] ++ sgL s) else .ok (i + 1, C ++ [K i] ++ sgL s)) else .error (1, i)
def pSum (K : Nat → Int32) (i : Nat) : pR := suL K 601 i (nI 1012) []
def isC (t : Int32) : Prop := t = nI 1160 ∨ t = nI 1161 ∨ t = nI 1162
def pCmp2 (K : Nat → Int32) (j : Nat) (C : List Int32) : pR := match pSum K (j + 1) with
  | .error e => .error e
  | .ok (l, D) => .ok (l, C ++ D ++ [K j])
noncomputable def pCmp (K : Nat → Int32) (i : Nat) : pR := match pSum K i with
  | .error e => .error e
  | .ok (j, C) => if K j = nI 1160 ∨ K j = nI 1161 ∨ K j = nI 1162 then pCmp2 K j C else .error (1, j)
def pNot (r : pR) : pR := match r with
  | .error e => .error e
  | .ok (j, C) => .ok (j, C ++ [nI 1005])
def pPar (K : Nat → Int32) (r : pR) : pR := match r with
  | .error e => .error e
  | .ok (j, C) => if K j = nI 1141 then .ok (j + 1, C) else .error (1, j)
/-- A {op A}: behind token i, C laid down -/
def lpO (K : Nat → Int32) (op : Int32) (f : Nat → pR) : Nat → Nat → List Int32 → pR
  | 0, i, C => .ok (i, C)
  | g + 1, i, C => if K i = op then (match f (i + 1) with
    | .error e => .error e
    | .ok (j, D) => lpO K op f g j (C ++ D ++ [op])) else .ok (i, C)
def pThen (r : pR) (f : Nat → List Int32 → pR) : pR := match r with
  | .error e => .error e
  | .ok (j, C) => f j C
def pAll (K : Nat → Int32) (c : Nat → pR) (i : Nat) : pR := pThen (c i) (fun j C => lpO K (nI 1004) c 601 j C)
def pAny (K : Nat → Int32) (c : Nat → pR) (i : Nat) : pR := pThen (pAll K c i) (fun j C => lpO K (nI 1003) (pAll K c) 601 j C)
/-- C with k more that may be open -/
noncomputable def pLv (K : Nat → Int32) : Nat → Nat → pR
  | 0, i => if K i = nI 1005 ∨ K i = nI 1140 then .error (3, i) else pCmp K i
  | k + 1, i => if K i = nI 1005 ∨ K i = nI 1140 then (if K i = nI 1005 then pNot (pLv K k (i + 1)) else pPar K (pAny K (pLv K k) (i + 1))) else pCmp K i
/-- code written from a place on -/
def cdW : (Nat → Int32) → Nat → List Int32 → (Nat → Int32)
  | co, _, [] => co
  | co, u, x :: C => cdW (upd co u x) (u + 1) C
theorem cdW_app : ∀ (C D : List Int32) (co : Nat → Int32) (u : Nat), cdW co u (C ++ D) = cdW (cdW co u C) (u + C.length) D
  | [], D, co, u => rfl
  | x :: C, D, co, u => by
    show cdW (upd co u x) (u + 1) (C ++ D) = cdW (cdW (upd co u x) (u + 1) C) (u + (C.length + 1)) D
    rw [cdW_app C D, Nat.add_right_comm u 1, Nat.add_assoc u]
theorem cdW_snoc (C : List Int32) (x : Int32) (co : Nat → Int32) (u : Nat) : cdW co u (C ++ [x]) = upd (cdW co u C) (u + C.length) x := by rw [cdW_app]; rfl
def rdQ (r : pR) (ps : Nat → Int32) (cn i us : Nat) (co : Nat → Int32) (fk fp : Int32) (ok : Bool) (j us2 : Nat) (co2 : Nat → Int32) (fk2 fp2 : Int32) : Prop :=
  (i ≤ j ∧ j < cn ∧ us2 + i ≤ us + j) ∧ match r with
    | .ok (j', C) => ok = true ∧ j = j' ∧ us2 = us + C.length ∧ co2 = cdW co us C ∧ fk2 = fk ∧ fp2 = fp
    | .error (kd, ix) => ok = false ∧ fk2 = nI kd ∧ fp2 = ps ix ∧ ix < cn
theorem rdQ_ok {r : pR} {ps : Nat → Int32} {cn i us : Nat} {co : Nat → Int32} {fk fp : Int32} {j us2 : Nat} {co2 : Nat → Int32} {C : List Int32} (hr : r = .ok (j, C)) (h1 : i ≤ j) (h2 : j < cn) (h3 : us2 + i ≤ us + j) (h4 : us2 = us + C.length) (h5 : co2 = cdW co us C) : rdQ r ps cn i us co fk fp true j us2 co2 fk fp := by
  subst hr
  exact ⟨⟨h1, h2, h3⟩, rfl, rfl, h4, h5, rfl, rfl⟩
theorem rdQ_er {r : pR} {ps : Nat → Int32} {cn i us : Nat} {co : Nat → Int32} {fk fp : Int32} {j us2 : Nat} {co2 : Nat → Int32} {kd ix : Nat} (hr : r = .error (kd, ix)) (h1 : i ≤ j) (h2 : j < cn) (h3 : us2 + i ≤ us + j) (h4 : ix < cn) : rdQ r ps cn i us co fk fp false j us2 co2 (nI kd) (ps ix) := by
  subst hr
  exact ⟨⟨h1, h2, h3⟩, rfl, rfl, rfl, h4⟩
theorem rdQ_two {r : pR} {ps : Nat → Int32} {cn i us : Nat} {co : Nat → Int32} {fk fp : Int32} {ok : Bool} {j us2 : Nat} {co2 : Nat → Int32} {fk2 fp2 : Int32} (h : rdQ r ps cn i us co fk fp ok j us2 co2 fk2 fp2) :
    (∃ C, r = .ok (j, C) ∧ ok = true ∧ us2 = us + C.length ∧ co2 = cdW co us C ∧ fk2 = fk ∧ fp2 = fp ∧ i ≤ j ∧ j < cn ∧ us2 + i ≤ us + j) ∨ (∃ kd ix, r = .error (kd, ix) ∧ ok = false ∧ fk2 = nI kd ∧ fp2 = ps ix ∧ i ≤ j ∧ j < cn ∧ us2 + i ≤ us + j ∧ ix < cn) := by
  obtain ⟨⟨h1, h2, h3⟩, h⟩ := h
  match r, h with
  | .ok (j', C), h =>
    obtain ⟨a1, rfl, a3, a4, a5, a6⟩ := h
    exact Or.inl ⟨C, rfl, a1, a3, a4, a5, a6, h1, h2, h3⟩
  | .error (kd, ix), h =>
    obtain ⟨a1, a2, a3, a4⟩ := h
    exact Or.inr ⟨kd, ix, rfl, a1, a2, a3, h1, h2, h3, a4⟩
theorem not_end {ks : Nat → Int32} {cn i : Nat} (hend : ks (cn - 1) = nI 1011) (hi : i < cn) {x : Int32} (h : ks i = x) (hx : ¬ x = nI 1011) : i + 1 < cn := by
  rcases Nat.lt_or_ge (i + 1) cn with q | q
  · exact q
  · exact absurd (by rw [← h, show i = cn - 1 by omega]; exact hend) hx
theorem isV_end {x : Int32} (h : isV x = true) : ¬ x = nI 1011 := fun e => by rw [e] at h; exact absurd h (by decide)
