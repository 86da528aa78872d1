/-! THE TEXT IN TOKENS -/
def famN (b : Int32) : Nat := if b = nI 32 ∨ b = nI 10 then 0 else if (¬ b < nI 97 ∧ b ≤ nI 122) ∨ (¬ b < nI 65 ∧ ¬ nI 90 < b) then 1 else if ¬ b < nI 48 ∧ ¬ nI 57 < b then 2 else 3
theorem famN_le (b : Int32) : famN b ≤ 3 := by
  rw [famN]
  split
  · decide
  · split
    · decide
    · split <;> decide
/-- where a run of one family that goes on at e ends -/
def ruE (t : Nat → Int32) (n f : Nat) : Nat → Nat → Nat
  | 0, e => e
  | k + 1, e => if e < n ∧ famN (t e) = f then ruE t n f k (e + 1) else e
def isE (t : Nat → Int32) (n f e r : Nat) : Prop := e ≤ r ∧ r ≤ n ∧ (∀ q, e ≤ q → q < r → famN (t q) = f) ∧ (r = n ∨ famN (t r) ≠ f)
theorem ruE_is {t : Nat → Int32} {n f : Nat} : ∀ (k e : Nat), n ≤ e + k → e ≤ n → isE t n f e (ruE t n f k e)
  | 0, e, h, h2 => ⟨Nat.le_refl e, h2, fun q h3 h4 => by rw [ruE] at h4; omega, Or.inl (by rw [ruE]; omega)⟩
  | k + 1, e, h, h2 => by
    rw [ruE]
    by_cases c : e < n ∧ famN (t e) = f
    · rw [if_pos c]
      obtain ⟨a1, a2, a3, a4⟩ := ruE_is (t := t) (n := n) (f := f) k (e + 1) (by omega) (by omega)
      refine ⟨by omega, a2, fun q h3 h4 => ?_, a4⟩
      by_cases e2 : q = e
      · rw [e2]; exact c.2
      · exact a3 q (by omega) h4
    · rw [if_neg c]
      refine ⟨Nat.le_refl e, h2, fun q h3 h4 => by omega, ?_⟩
      by_cases e2 : e = n
      · exact Or.inl e2
      · exact Or.inr (fun z => c ⟨by omega, z⟩)
theorem isE_one {t : Nat → Int32} {n f e r s : Nat} (hr : isE t n f e r) (hs : isE t n f e s) : r = s := by
  have key : ∀ a b : Nat, isE t n f e a → isE t n f e b → ¬ a < b := by
    intro a b ha hb hl
    rcases ha.2.2.2 with q | q
    · have := hb.2.1; omega
    · exact q (hb.2.2.1 a ha.1 hl)
  have h1 := key r s hr hs
  have h2 := key s r hs hr
  omega
def enR (t : Nat → Int32) (n f e : Nat) : Nat := ruE t n f 600 e
theorem enR_is {t : Nat → Int32} {n f e : Nat} (hn : n ≤ 600) (he : e ≤ n) : isE t n f e (enR t n f e) := ruE_is 600 e (by omega) he
/-- signs, numbers, words -/
def sgC (b : Int32) : Int32 := if b = nI 40 ∨ b = nI 41 ∨ b = nI 43 ∨ b = nI 45 ∨ b = nI 59 ∨ b = nI 60 ∨ b = nI 61 ∨ b = nI 62 then nI 1100 + b else nI 1012
def nuL (t : Nat → Int32) (a : Nat) : Nat → Int32
  | 0 => nI 0
  | k + 1 => nuL t a k * nI 10 + t (a + k) - nI 48
def nuC (t : Nat → Int32) (a e : Nat) : Int32 := if 3 < e - a then nI 1012 else nuL t a (e - a)
def spL (t : Nat → Int32) (a q : Nat) : Nat → Bool
  | 0 => true
  | j + 1 => spL t a q j && decide (t (a + j) = (gz_byt.getD q []).getD j 0)
theorem spL_false {t : Nat → Int32} {a q j : Nat} (h : ¬ t (a + j) = (gz_byt.getD q []).getD j 0) : ∀ {n : Nat}, j < n → spL t a q n = false
  | 0, z => absurd z (Nat.not_lt_zero j)
  | n + 1, z => by
    rw [spL]
    by_cases e : j = n
    · subst e
      rw [decide_eq_false h, Bool.and_false]
    · rw [spL_false h (show j < n by omega)]; rfl
def spB (t : Nat → Int32) (a e q : Nat) : Bool := decide (e - a = gz_len.getD q 0) && spL t a q (gz_len.getD q 0)
def kwC (t : Nat → Int32) (a e : Nat) : Int32 := if fa_first (spB t a e) 11 < 11 then nI (1000 + fa_first (spB t a e) 11) else nI 1012
/-- the token that begins at a -/
def tokC (t : Nat → Int32) (n a : Nat) : Int32 := if famN (t a) = 3 then sgC (t a) else if famN (t a) = 1 then kwC t a (enR t n (famN (t a)) a) else nuC t a (enR t n (famN (t a)) a)
/-- does a token begin at a -/
def stT (t : Nat → Int32) (a : Nat) : Bool := decide (famN (t a) ≠ 0) && !(decide (famN (t a) = 1 ∨ famN (t a) = 2) && decide (0 < a) && decide (famN (t (a - 1)) = famN (t a)))
def TKL (t : Nat → Int32) (n : Nat) : Nat → List (Int32 × Nat)
  | 0 => []
  | a + 1 => if stT t a = true then TKL t n a ++ [(tokC t n a, a)] else TKL t n a
def TKA (t : Nat → Int32) (n : Nat) : List (Int32 × Nat) := TKL t n n ++ [(nI 1011, n)]
theorem TKL_len (t : Nat → Int32) (n : Nat) : ∀ a, (TKL t n a).length ≤ a
  | 0 => Nat.le_refl 0
  | a + 1 => by
    have := TKL_len t n a
    rw [TKL]
    split
    · rw [List.length_append]
      have : [(tokC t n a, a)].length = 1 := rfl
      omega
    · omega
theorem TKA_len (t : Nat → Int32) (n : Nat) : (TKA t n).length = (TKL t n n).length + 1 := by rw [TKA, List.length_append]; rfl
def tkR (L : List (Int32 × Nat)) (ks ps : Nat → Int32) : Prop := ∀ i, i < L.length → ks i = (L.getD i (nI 0, 0)).1 ∧ ps i = nI (L.getD i (nI 0, 0)).2
theorem tkR.nil {ks ps : Nat → Int32} : tkR [] ks ps := fun i hi => absurd hi (Nat.not_lt_zero i)
theorem tkR.snoc {L : List (Int32 × Nat)} {ks ps : Nat → Int32} (h : tkR L ks ps) (k : Int32) (p : Nat) : tkR (L ++ [(k, p)]) (upd ks L.length k) (upd ps L.length (nI p)) := by
  intro i hi
  rw [List.length_append] at hi
  have hi : i < L.length + 1 := hi
  by_cases e : i = L.length
  · subst e
    simp [upd, List.getD_eq_getElem?_getD]
  · simp only [upd, if_neg e, List.getD_eq_getElem?_getD]
    rw [List.getElem?_append_left (by omega), ← List.getD_eq_getElem?_getD]
    exact h i (by omega)
theorem tk1 (L : List (Int32 × Nat)) (x : Int32 × Nat) : L.length + 1 = (L ++ [x]).length := by rw [List.length_append]; rfl
theorem stT_f0 {t : Nat → Int32} {a : Nat} (h : famN (t a) = 0) : stT t a = false := by simp [stT, h]
theorem stT_f1 {t : Nat → Int32} {a : Nat} (h : (famN (t a) = 1 ∨ famN (t a) = 2) ∧ 0 < a ∧ famN (t (a - 1)) = famN (t a)) : stT t a = false := by
  rw [stT, decide_eq_true h.1, decide_eq_true h.2.1, decide_eq_true h.2.2]
  simp
theorem stT_t {t : Nat → Int32} {a : Nat} (h0 : famN (t a) ≠ 0) (h : ¬ ((famN (t a) = 1 ∨ famN (t a) = 2) ∧ 0 < a ∧ famN (t (a - 1)) = famN (t a))) : stT t a = true := by
  rw [stT, decide_eq_true h0, Bool.true_and, Bool.not_eq_true', Bool.and_assoc, ← Bool.decide_and, ← Bool.decide_and]
  exact decide_eq_false h
