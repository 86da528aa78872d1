/-! OUT: what is written, as a list of bytes -/
def oR (W : List Int32) (o : Nat → Int32) : Prop := ∀ i, i < W.length → o i = W.getD i 0
theorem oR.nil {o : Nat → Int32} : oR [] o := fun i hi => absurd hi (Nat.not_lt_zero i)
theorem oR.put {W : List Int32} {o : Nat → Int32} (h : oR W o) (x : Int32) : oR (W ++ [x]) (upd o W.length x) := by
  intro i hi
  rw [List.length_append] at hi
  have hi : i < W.length + 1 := hi
  by_cases e : i = W.length
  · subst e
    simp [upd, List.getD_eq_getElem?_getD]
  · simp only [upd, if_neg e, List.getD_eq_getElem?_getD]
    rw [List.getElem?_append_left (by omega), ← List.getD_eq_getElem?_getD]
    exact h i (by omega)
theorem len1 (W : List Int32) (x : Int32) : W.length + 1 = (W ++ [x]).length := by rw [List.length_append]; rfl
/-- bytes from a place on -/
def wN (nb : Nat → Int32) (b : Nat) : Nat → List Int32
  | 0 => []
  | j + 1 => wN nb b j ++ [nb (b + j)]
theorem wN_len (nb : Nat → Int32) (b : Nat) : ∀ j, (wN nb b j).length = j
  | 0 => rfl
  | j + 1 => by rw [wN, List.length_append, wN_len nb b j]; rfl
/-- a share's digits -/
def wD1 (v : Int32) : List Int32 := if v < nI 100 then [] else [nI 48 + v / nI 100]
def wD2 (v : Int32) : List Int32 := if v < nI 10 then [] else [nI 48 + (v / nI 10 - v / nI 10 / nI 10 * nI 10)]
def wD3 (v : Int32) : Int32 := nI 48 + (v - v / nI 10 * nI 10)
theorem wD1_len (v : Int32) : (wD1 v).length ≤ 1 := by rw [wD1]; split <;> simp
theorem wD2_len (v : Int32) : (wD2 v).length ≤ 1 := by rw [wD2]; split <;> simp
/-- what a byte of a phrase becomes -/
def wC (c : Int32) (N : List Int32) (v : Int32) : List Int32 := if c = nI 37 then N else if c = nI 35 then wD1 v ++ wD2 v ++ [wD3 v] else [c]
def wP (pb : Nat → Int32) (N : List Int32) (v : Int32) (b : Nat) : Nat → List Int32
  | 0 => []
  | k + 1 => wP pb N v b k ++ wC (pb (b + k)) N v
theorem wC_len {c v : Int32} {N : List Int32} (h : N.length ≤ 10) : (wC c N v).length ≤ 10 := by
  rw [wC]
  split
  · exact h
  · split
    · rw [List.length_append, List.length_append]
      have := wD1_len v
      have := wD2_len v
      have : [wD3 v].length = 1 := rfl
      omega
    · exact Nat.le_of_ble_eq_true rfl
theorem wP_len {pb : Nat → Int32} {N : List Int32} {v : Int32} {b : Nat} (h : N.length ≤ 10) : ∀ k, (wP pb N v b k).length ≤ 10 * k
  | 0 => Nat.le_refl 0
  | k + 1 => by
    have ih := wP_len (pb := pb) (v := v) (b := b) h k
    have := wC_len (c := pb (b + k)) (v := v) h
    rw [wP, List.length_append]
    omega
/-- a line: saying y, skill s, tongue t -/
def wLn (phl nml : Nat → Nat) (pb nb : Nat → Int32) (v : Int32) (y s t : Nat) : List Int32 :=
  if phl (3 * y + t) = 0 then [] else wP pb (wN nb (10 * (3 * s + t)) (nml (3 * s + t))) v (20 * (3 * y + t)) (phl (3 * y + t)) ++ [nI 10]
theorem wLn_len {phl nml : Nat → Nat} {pb nb : Nat → Int32} {v : Int32} {y s t : Nat} (hp : phl (3 * y + t) ≤ 20) (hn : nml (3 * s + t) ≤ 10) : (wLn phl nml pb nb v y s t).length ≤ 201 := by
  rw [wLn]
  split
  · exact Nat.zero_le _
  · rw [List.length_append]
    have := wP_len (pb := pb) (v := v) (b := 20 * (3 * y + t)) (N := wN nb (10 * (3 * s + t)) (nml (3 * s + t))) (by rw [wN_len]; exact hn) (phl (3 * y + t))
    have : [nI 10].length = 1 := rfl
    omega
/-- the first i lines of a page -/
def wPg (phl nml sy : Nat → Nat) (pb nb : Nat → Int32) (sh : Nat → Int32) (L : List (Nat × Nat)) (t : Nat) : Nat → List Int32
  | 0 => []
  | i + 1 => wPg phl nml sy pb nb sh L t i ++ wLn phl nml pb nb (sh (L.getD i (0, 0)).2) (sy (L.getD i (0, 0)).1) (L.getD i (0, 0)).2 t
/-- texts' lengths are what they may be -/
def okT (le : Nat → Int32) (n w : Nat) (f : Nat → Nat) : Prop := ∀ q, q < n → le q = nI (f q) ∧ f q ≤ w
theorem wPg_len {phl nml sy : Nat → Nat} {pb nb : Nat → Int32} {sh : Nat → Int32} {L : List (Nat × Nat)} {t nr : Nat} (hp : ∀ q, q < 120 → phl q ≤ 20) (hn : ∀ q, q < 15 → nml q ≤ 10) (hsy : ∀ r, r < nr → sy r < 40) (hin : pgIn nr L) (ht : t < 3) : ∀ i, i ≤ L.length → (wPg phl nml sy pb nb sh L t i).length ≤ 201 * i
  | 0, _ => Nat.le_refl 0
  | i + 1, hi => by
    have ih := wPg_len (pb := pb) (nb := nb) (sh := sh) hp hn hsy hin ht i (by omega)
    have hq := hin.at (show i < L.length by omega)
    have hy := hsy _ hq.1
    have := wLn_len (phl := phl) (nml := nml) (pb := pb) (nb := nb) (v := sh (L.getD i (0, 0)).2) (y := sy (L.getD i (0, 0)).1) (s := (L.getD i (0, 0)).2) (t := t) (hp _ (by omega)) (hn _ (by omega))
    rw [wPg, List.length_append]
    omega
theorem ge_of {v : Int32} {n : Nat} (hn : n < 2147483647) : v ≤ nI n ↔ v < nI (n + 1) := by
  rw [fa_le, fa_lt, nI_toInt (by omega), nI_toInt (by omega)]
  omega
