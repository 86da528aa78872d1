/-! THE TIES: tokens read ahead and on demand; what is laid down can be judged -/
theorem TKL_flat {t : Nat → Int32} {n e : Nat} : ∀ {r : Nat}, e ≤ r → (∀ q, e ≤ q → q < r → stT t q = false) → TKL t n r = TKL t n e
  | 0, h, _ => by rw [Nat.le_zero.mp h]
  | r + 1, h, hs => by
    by_cases c : e = r + 1
    · rw [c]
    · rw [TKL, hs r (by omega) (by omega), if_neg (by decide)]
      exact TKL_flat (by omega) (fun q h1 h2 => hs q h1 (by omega))
theorem TKL_pre {t : Nat → Int32} {n e : Nat} : ∀ {r : Nat}, e ≤ r → ∃ M, TKL t n r = TKL t n e ++ M
  | 0, h => ⟨[], by rw [Nat.le_zero.mp h, List.append_nil]⟩
  | r + 1, h => by
    by_cases c : e = r + 1
    · exact ⟨[], by rw [c, List.append_nil]⟩
    · obtain ⟨M, hM⟩ := TKL_pre (t := t) (n := n) (e := e) (r := r) (by omega)
      rw [TKL]
      split
      · exact ⟨M ++ [(tokC t n r, r)], by rw [hM, List.append_assoc]⟩
      · exact ⟨M, hM⟩
def bdT (t : Nat → Int32) (n e : Nat) : Prop := e < n → (famN (t e) = 1 ∨ famN (t e) = 2) → 0 < e → famN (t (e - 1)) ≠ famN (t e)
theorem nx_skip {t : Nat → Int32} {n e : Nat} (hn : n ≤ 600) (he : e ≤ n) : TKL t n (enR t n 0 e) = TKL t n e := by
  obtain ⟨h1, h2, h3, h4⟩ := enR_is (t := t) (f := 0) hn he
  exact TKL_flat h1 (fun q q1 q2 => stT_f0 (h3 q q1 q2))
theorem nx_step {t : Nat → Int32} {n e : Nat} (hn : n ≤ 600) (he : e ≤ n) (hb : bdT t n e) (ha : enR t n 0 e < n) : TKL t n (nxE t n (enR t n 0 e)) = TKL t n e ++ [(tokC t n (enR t n 0 e), enR t n 0 e)] ∧ bdT t n (nxE t n (enR t n 0 e)) ∧ nxE t n (enR t n 0 e) ≤ n := by
  have hs := nx_skip (t := t) hn he
  obtain ⟨h1, h2, h3, h4⟩ := enR_is (t := t) (f := 0) hn he
  generalize enR t n 0 e = a at *
  have h0 : famN (t a) ≠ 0 := h4.resolve_left (by omega)
  have hst : stT t a = true := stT_t h0 (fun z => by
    by_cases c : a = e
    · subst c; exact hb ha z.1 z.2.1 z.2.2
    · have := h3 (a - 1) (by omega) (by omega)
      rw [this] at z
      exact h0 z.2.2.symm)
  have hone : TKL t n (a + 1) = TKL t n e ++ [(tokC t n a, a)] := by rw [TKL, if_pos hst, hs]
  rw [nxE, if_pos ha]
  by_cases c3 : famN (t a) = 3
  · rw [if_pos c3]
    refine ⟨hone, fun _ z _ => ?_, ha⟩
    rw [Nat.add_sub_cancel, c3]
    omega
  · rw [if_neg c3]
    obtain ⟨i1, i2, i3, i4⟩ := enR_is (t := t) (f := famN (t a)) hn (Nat.le_of_lt ha)
    generalize enR t n (famN (t a)) a = r at *
    have hr : a + 1 ≤ r := by
      by_cases c : r = a
      · subst c
        rcases i4 with z | z
        · omega
        · exact absurd rfl z
      · omega
    have hle := famN_le (t a)
    refine ⟨?_, fun hlt z z2 => ?_, i2⟩
    · rw [← hone]
      refine TKL_flat hr (fun q q1 q2 => stT_f1 ⟨?_, by omega, ?_⟩)
      · rw [i3 q (by omega) q2]; omega
      · rw [i3 q (by omega) q2, i3 (q - 1) (by omega) (by omega)]
    · rw [i3 (r - 1) (by omega) (by omega)]
      exact fun y => i4.resolve_left (by omega) y.symm
/-- ends of tokens -/
def enT (t : Nat → Int32) (n : Nat) : Nat → Nat
  | 0 => nxE t n (enR t n 0 0)
  | i + 1 => nxE t n (enR t n 0 (enT t n i))
def stP (t : Nat → Int32) (n : Nat) : Nat → Nat
  | 0 => 0
  | i + 1 => enT t n i
theorem stP_succ (t : Nat → Int32) (n i : Nat) : stP t n (i + 1) = nxE t n (enR t n 0 (stP t n i)) := by cases i <;> rfl
theorem tok_at {t : Nat → Int32} {n : Nat} (hn : n ≤ 600) : ∀ (i : Nat), i < (TKA t n).length → (stP t n i ≤ n ∧ bdT t n (stP t n i) ∧ (TKL t n (stP t n i)).length = i) ∧ (TKA t n).getD i (nI 0, 0) = (nxK t n (enR t n 0 (stP t n i)), enR t n 0 (stP t n i)) := by
  have key : ∀ i, stP t n i ≤ n → bdT t n (stP t n i) → (TKL t n (stP t n i)).length = i → (TKA t n).getD i (nI 0, 0) = (nxK t n (enR t n 0 (stP t n i)), enR t n 0 (stP t n i)) := by
    intro i h1 h2 h3
    by_cases ha : enR t n 0 (stP t n i) < n
    · obtain ⟨s1, s2, s3⟩ := nx_step hn h1 h2 ha
      obtain ⟨M, hM⟩ := TKL_pre (t := t) (n := n) s3
      rw [nxK, if_pos ha, TKA, hM, s1, List.append_assoc, List.append_assoc, List.getD_eq_getElem?_getD, List.getElem?_append_right (by omega), h3, Nat.sub_self]
      rfl
    · have hi := (enR_is (t := t) (f := 0) hn h1).2.1
      have ea : enR t n 0 (stP t n i) = n := by omega
      have hs := nx_skip (t := t) hn h1
      rw [ea] at hs
      rw [nxK, if_neg ha, TKA, hs, ea, List.getD_eq_getElem?_getD, List.getElem?_append_right (by omega), h3, Nat.sub_self]
      rfl
  intro i
  induction i with
  | zero => exact fun _ => ⟨⟨Nat.zero_le n, fun _ _ z => absurd z (Nat.lt_irrefl 0), rfl⟩, key 0 (Nat.zero_le n) (fun _ _ z => absurd z (Nat.lt_irrefl 0)) rfl⟩
  | succ i ih =>
    intro hi
    obtain ⟨⟨h1, h2, h3⟩, h4⟩ := ih (by omega)
    have ha : enR t n 0 (stP t n i) < n := by
      rcases Nat.lt_or_ge (enR t n 0 (stP t n i)) n with q | q
      · exact q
      · have hi2 := (enR_is (t := t) (f := 0) hn h1).2.1
        have ea : enR t n 0 (stP t n i) = n := by omega
        have hs := nx_skip (t := t) hn h1
        rw [ea] at hs
        rw [TKA_len, hs, h3] at hi
        omega
    obtain ⟨s1, s2, s3⟩ := nx_step hn h1 h2 ha
    rw [← stP_succ] at s1 s2 s3
    have hl : (TKL t n (stP t n (i + 1))).length = i + 1 := by rw [s1, List.length_append, h3]; rfl
    exact ⟨⟨s3, s2, hl⟩, key (i + 1) s3 s2 hl⟩
theorem twL_of {t : Nat → Int32} {n : Nat} (hn : n ≤ 600) {ks ps : Nat → Int32} (h : tkR (TKA t n) ks ps) : twL t n (TKA t n).length ks ps (enT t n) := by
  intro i hi
  obtain ⟨⟨h1, h2, h3⟩, h4⟩ := tok_at hn (i + 1) hi
  have := h (i + 1) hi
  rw [h4] at this
  exact ⟨h1, this.1, this.2, rfl⟩
theorem tw0_of {t : Nat → Int32} {n : Nat} (hn : n ≤ 600) {ks ps : Nat → Int32} (h : tkR (TKA t n) ks ps) : ks 0 = nxK t n (enR t n 0 0) ∧ ps 0 = nI (enR t n 0 0) ∧ enT t n 0 = nxE t n (enR t n 0 0) := by
  have hc := (TKA_cn (t := t) hn).1
  obtain ⟨-, h4⟩ := tok_at hn 0 hc
  have := h 0 hc
  rw [h4] at this
  exact ⟨this.1, this.2, rfl⟩
theorem TKL_ck {t : Nat → Int32} {n : Nat} (hn : n ≤ 600) : ∀ a, a ≤ n → ∀ x ∈ TKL t n a, tkC x.1
  | 0, _, x, hx => by cases hx
  | a + 1, ha, x, hx => by
    rw [TKL] at hx
    split at hx
    · next q =>
      rcases List.mem_append.mp hx with hx | hx
      · exact TKL_ck hn a (by omega) x hx
      · rw [List.mem_singleton.mp hx]
        rcases tokC_is hn (show a < n by omega) (fun z => by rw [stT_f0 z] at q; cases q) with ⟨v, h1, h2⟩ | ⟨q, h1, h2⟩ | h2 | ⟨b, h1, h3, h2⟩
        · exact Or.inl ⟨v, h1, h2⟩
        · refine Or.inr ⟨1000 + q, ?_, h2⟩
          have : q = 0 ∨ q = 1 ∨ q = 2 ∨ q = 3 ∨ q = 4 ∨ q = 5 ∨ q = 6 ∨ q = 7 ∨ q = 8 ∨ q = 9 ∨ q = 10 := by omega
          rcases this with rfl | rfl | rfl | rfl | rfl | rfl | rfl | rfl | rfl | rfl | rfl <;> decide
        · exact Or.inr ⟨1012, by decide, h2⟩
        · refine Or.inr ⟨1100 + b, ?_, h2⟩
          simp only [List.mem_cons, List.not_mem_nil, or_false] at h1
          rcases h1 with rfl | rfl | rfl | rfl | rfl | rfl | rfl | rfl <;> decide
    · exact TKL_ck hn a (by omega) x hx
theorem TKA_ck {t : Nat → Int32} {n : Nat} {ks ps : Nat → Int32} (hn : n ≤ 600) (h : tkR (TKA t n) ks ps) : ∀ q, q < (TKA t n).length → tkC (ks q) := by
  intro q hq
  rw [(h q hq).1, List.getD_eq_getElem?_getD, List.getElem?_eq_getElem hq]
  show tkC ((TKA t n)[q]).1
  rcases List.mem_append.mp (show (TKA t n)[q] ∈ TKL t n n ++ [(nI 1011, n)] from List.getElem_mem hq) with hx | hx
  · exact TKL_ck hn n (Nat.le_refl n) _ hx
  · have e : (TKA t n)[q] = (nI 1011, n) := List.mem_singleton.mp hx
    rw [e]
    exact Or.inr ⟨1011, by decide, rfl⟩
/-! kinds of what is laid down -/
def tyL : List Int32 → List Bool → Option (List Bool)
  | [], T => some T
  | x :: C, T => (tyS x T).bind (tyL C)
theorem tyL_app : ∀ (C D : List Int32) (T : List Bool), tyL (C ++ D) T = (tyL C T).bind (tyL D)
  | [], D, T => rfl
  | x :: C, D, T => by
    show (tyS x T).bind (tyL (C ++ D)) = ((tyS x T).bind (tyL C)).bind (tyL D)
    cases tyS x T with
    | none => rfl
    | some U => exact tyL_app C D U
theorem tyR_L {co : Nat → Int32} {a : Nat} : ∀ (C D : List Int32), (∀ x, x < (D ++ C).length → co (a + x) = (D ++ C).getD x 0) → tyR co a D.length = tyL D [] → tyR co a (D ++ C).length = tyL (D ++ C) []
  | [], D, _, h => by rw [List.append_nil]; exact h
  | x :: C, D, hc, h => by
    have e : D ++ x :: C = (D ++ [x]) ++ C := by simp
    rw [e] at hc ⊢
    refine tyR_L C (D ++ [x]) hc ?_
    rw [List.length_append]
    show tyR co a (D.length + 1) = _
    rw [tyR, h, tyL_app]
    have hx := hc D.length (by simp)
    rw [hx]
    congr 1
    funext T
    show _ = (tyS x T).bind some
    simp [List.getD_eq_getElem?_getD]
theorem tyS_val {x : Int32} {T : List Bool} (h : isV x = true) (h0 : ¬ x < 0) (hT : T.length < 32) : tyS x T = some (false :: T) := by
  rw [isV, decide_eq_true_iff] at h
  rw [tyS]
  by_cases c : ¬ nI 999 < x
  · rw [if_pos c, if_pos ⟨hT, h0⟩]
  · rw [if_neg c, if_pos (h.resolve_left c), if_pos hT]
theorem tyS_op {x : Int32} {T : List Bool} (h : x = nI 1143 ∨ x = nI 1145) (hT : T.length + 2 ≤ 32) : tyS x (false :: false :: T) = some (false :: T) := by
  rw [tyS, if_neg (by rcases h with rfl | rfl <;> decide), if_neg (by rcases h with rfl | rfl <;> decide), if_neg (by rcases h with rfl | rfl <;> decide), if_pos (show (false :: false :: T).length ≤ 32 from hT), tyB, if_pos ⟨h, rfl, rfl⟩]
theorem tyS_cmp {x : Int32} {T : List Bool} (h : x = nI 1160 ∨ x = nI 1161 ∨ x = nI 1162) (hT : T.length + 2 ≤ 32) : tyS x (false :: false :: T) = some (true :: T) := by
  rw [tyS, if_neg (by rcases h with rfl | rfl | rfl <;> decide), if_neg (by rcases h with rfl | rfl | rfl <;> decide), if_neg (by rcases h with rfl | rfl | rfl <;> decide), if_pos (show (false :: false :: T).length ≤ 32 from hT), tyB, if_neg (fun z => by rcases h with rfl | rfl | rfl <;> exact absurd z.1 (by decide)), if_pos ⟨h, rfl, rfl⟩]
theorem tyS_log {x : Int32} {T : List Bool} (h : x = nI 1004 ∨ x = nI 1003) (hT : T.length + 2 ≤ 32) : tyS x (true :: true :: T) = some (true :: T) := by
  rw [tyS, if_neg (by rcases h with rfl | rfl <;> decide), if_neg (by rcases h with rfl | rfl <;> decide), if_neg (by rcases h with rfl | rfl <;> decide), if_pos (show (true :: true :: T).length ≤ 32 from hT), tyB, if_neg (fun z => absurd z.2.1 (by decide)), if_neg (fun z => absurd z.2.1 (by decide)), if_pos ⟨h, rfl, rfl⟩]
theorem tyS_nt {T : List Bool} (hT : T.length + 1 ≤ 32) : tyS (nI 1005) (true :: T) = some (true :: T) := by
  rw [tyS, if_neg (by decide), if_neg (by decide), if_pos rfl, if_pos (show (true :: T).length ≤ 32 from hT), tyN]
def sgT (s : Int32) (T : List Bool) : List Bool := if s = nI 1012 then T else false :: T
theorem suL_ty {K : Nat → Int32} {cn : Nat} (hend : K (cn - 1) = nI 1011) (hnn : ∀ q, q < cn → ¬ K q < 0) : ∀ (f i : Nat) (s : Int32) (C : List Int32) (j : Nat) (D : List Int32), i < cn → (s = nI 1012 ∨ s = nI 1143 ∨ s = nI 1145) → suL K f i s C = .ok (j, D) → j < cn ∧ ∃ D', D = C ++ D' ∧ ∀ T : List Bool, T.length + 2 ≤ 32 → tyL D' (sgT s T) = some (false :: T)
  | 0, i, s, C, j, D, _, _, h => by rw [suL] at h; cases h
  | f + 1, i, s, C, j, D, hi, hs, h => by
    rw [suL] at h
    by_cases hv : isV (K i) = true
    · rw [if_pos hv] at h
      have hn1 := not_end hend hi rfl (isV_end hv)
      have step : ∀ T : List Bool, T.length + 2 ≤ 32 → tyL ([K i] ++ sgL s) (sgT s T) = some (false :: T) := by
        intro T hT
        by_cases c : s = nI 1012
        · rw [sgL, if_pos c, sgT, if_pos c, List.append_nil]
          show (tyS (K i) T).bind some = _
          rw [tyS_val hv (hnn i hi) (by omega)]; rfl
        · rw [sgL, if_neg c, sgT, if_neg c]
          show (tyS (K i) (false :: T)).bind (fun U => (tyS s U).bind some) = _
          rw [tyS_val hv (hnn i hi) (by show T.length + 1 < 32; omega), Option.bind_some, tyS_op (hs.resolve_left c) hT]; rfl
      by_cases c : K (i + 1) = nI 1143 ∨ K (i + 1) = nI 1145
      · rw [if_pos c] at h
        have hn2 : i + 2 < cn := not_end hend hn1 rfl (fun e => by rw [e] at c; exact absurd c (by decide))
        obtain ⟨j1, D', d1, d2⟩ := suL_ty hend hnn f (i + 2) (K (i + 1)) _ j D hn2 (Or.inr c) h
        refine ⟨j1, [K i] ++ sgL s ++ D', by rw [d1]; simp, fun T hT => ?_⟩
        rw [tyL_app, step T hT, Option.bind_some]
        have := d2 T hT
        rw [sgT, if_neg (fun e => by rw [e] at c; exact absurd c (by decide))] at this
        exact this
      · rw [if_neg c] at h
        cases h
        exact ⟨hn1, [K i] ++ sgL s, by simp, step⟩
    · rw [if_neg hv] at h
      cases h
theorem pSum_ty {K : Nat → Int32} {cn : Nat} (hend : K (cn - 1) = nI 1011) (hnn : ∀ q, q < cn → ¬ K q < 0) {i j : Nat} {C : List Int32} (hi : i < cn) (h : pSum K i = .ok (j, C)) : j < cn ∧ ∀ T : List Bool, T.length + 2 ≤ 32 → tyL C T = some (false :: T) := by
  obtain ⟨j1, D', d1, d2⟩ := suL_ty hend hnn 601 i (nI 1012) [] j C hi (Or.inl rfl) h
  refine ⟨j1, fun T hT => ?_⟩
  have := d2 T hT
  rw [sgT, if_pos rfl] at this
  rw [d1]; exact this
/-- a reader that lays down one truth, with room for m more -/
def prP (cn : Nat) (f : Nat → pR) (m : Nat) : Prop := ∀ (i j : Nat) (C : List Int32), i < cn → f i = .ok (j, C) → j < cn ∧ ∀ T : List Bool, T.length + m ≤ 32 → tyL C T = some (true :: T)
theorem prP.up {cn : Nat} {f : Nat → pR} {m m2 : Nat} (h : prP cn f m) (hm : m ≤ m2) : prP cn f m2 := fun i j C hi hf => ⟨(h i j C hi hf).1, fun T hT => (h i j C hi hf).2 T (by omega)⟩
theorem pCmp_ty {K : Nat → Int32} {cn : Nat} (hend : K (cn - 1) = nI 1011) (hnn : ∀ q, q < cn → ¬ K q < 0) : prP cn (pCmp K) 3 := by
  intro i j C hi h
  rw [pCmp] at h
  match hs : pSum K i, h with
  | .ok (j1, C1), h =>
    obtain ⟨a1, a2⟩ := pSum_ty hend hnn hi hs
    replace h : (if K j1 = nI 1160 ∨ K j1 = nI 1161 ∨ K j1 = nI 1162 then pCmp2 K j1 C1 else .error (1, j1)) = .ok (j, C) := h
    by_cases c : K j1 = nI 1160 ∨ K j1 = nI 1161 ∨ K j1 = nI 1162
    · rw [if_pos c, pCmp2] at h
      have hn1 := not_end hend a1 rfl (fun e => by rw [e] at c; exact absurd c (by decide))
      match hs2 : pSum K (j1 + 1), h with
      | .ok (j2, C2), h =>
        obtain ⟨b1, b2⟩ := pSum_ty hend hnn hn1 hs2
        cases h
        refine ⟨b1, fun T hT => ?_⟩
        rw [tyL_app, tyL_app, a2 T (by omega), Option.bind_some, b2 (false :: T) (by show T.length + 1 + 2 ≤ 32; omega), Option.bind_some]
        show (tyS (K j1) (false :: false :: T)).bind some = _
        rw [tyS_cmp c (by omega)]; rfl
    · rw [if_neg c] at h
      cases h
theorem lpO_ty {K : Nat → Int32} {cn : Nat} (hend : K (cn - 1) = nI 1011) {op : Int32} (hop : op = nI 1004 ∨ op = nI 1003) {f : Nat → pR} {m : Nat} (hf : prP cn f m) (hm : 2 ≤ m) : ∀ (g i : Nat) (C : List Int32) (j : Nat) (D : List Int32), i < cn → lpO K op f g i C = .ok (j, D) → j < cn ∧ ∃ D', D = C ++ D' ∧ ∀ T : List Bool, T.length + (m + 1) ≤ 32 → tyL D' (true :: T) = some (true :: T)
  | 0, i, C, j, D, hi, h => by rw [lpO] at h; cases h; exact ⟨hi, [], by simp, fun T _ => rfl⟩
  | g + 1, i, C, j, D, hi, h => by
    rw [lpO] at h
    by_cases c : K i = op
    · rw [if_pos c] at h
      have hn1 := not_end hend hi c (by rcases hop with rfl | rfl <;> decide)
      match hs : f (i + 1), h with
      | .ok (j1, C1), h =>
        obtain ⟨a1, a2⟩ := hf _ _ _ hn1 hs
        obtain ⟨b1, D', d1, d2⟩ := lpO_ty hend hop hf hm g j1 _ j D a1 h
        refine ⟨b1, C1 ++ [op] ++ D', by rw [d1]; simp, fun T hT => ?_⟩
        rw [tyL_app, tyL_app, a2 (true :: T) (by show T.length + 1 + m ≤ 32; omega), Option.bind_some]
        have e : tyL [op] (true :: true :: T) = some (true :: T) := by
          show (tyS op (true :: true :: T)).bind some = _
          rw [tyS_log hop (by omega)]; rfl
        rw [e, Option.bind_some]
        exact d2 T hT
    · rw [if_neg c] at h
      cases h
      exact ⟨hi, [], by simp, fun T _ => rfl⟩
theorem then_ty {K : Nat → Int32} {cn : Nat} (hend : K (cn - 1) = nI 1011) {op : Int32} (hop : op = nI 1004 ∨ op = nI 1003) {f : Nat → pR} {m : Nat} (hf : prP cn f m) (hm : 2 ≤ m) : prP cn (fun i => pThen (f i) (fun j C => lpO K op f 601 j C)) (m + 1) := by
  intro i j C hi h
  replace h : pThen (f i) (fun j C => lpO K op f 601 j C) = .ok (j, C) := h
  match hs : f i, h with
  | .ok (j1, C1), h =>
    obtain ⟨a1, a2⟩ := hf _ _ _ hi hs
    obtain ⟨b1, D', d1, d2⟩ := lpO_ty hend hop hf hm 601 j1 C1 j C a1 h
    refine ⟨b1, fun T hT => ?_⟩
    rw [d1, tyL_app, a2 T (by omega), Option.bind_some]
    exact d2 T hT
  | .error e, h => cases h
theorem pAny_ty {K : Nat → Int32} {cn : Nat} (hend : K (cn - 1) = nI 1011) {c : Nat → pR} {m : Nat} (hc : prP cn c m) (hm : 2 ≤ m) : prP cn (pAny K c) (m + 2) :=
  then_ty hend (Or.inr rfl) (f := pAll K c) (then_ty hend (Or.inl rfl) hc hm) (by omega)
theorem pLv_ty {K : Nat → Int32} {cn : Nat} (hend : K (cn - 1) = nI 1011) (hnn : ∀ q, q < cn → ¬ K q < 0) : ∀ k, prP cn (pLv K k) (3 + 2 * k)
  | 0 => by
    intro i j C hi h
    rw [pLv] at h
    by_cases c : K i = nI 1005 ∨ K i = nI 1140
    · rw [if_pos c] at h; cases h
    · rw [if_neg c] at h; exact pCmp_ty hend hnn i j C hi h
  | k + 1 => by
    intro i j C hi h
    have ih := pLv_ty hend hnn k
    rw [pLv] at h
    by_cases c : K i = nI 1005 ∨ K i = nI 1140
    · rw [if_pos c] at h
      have hn1 := not_end hend hi rfl (fun e => by rw [e] at c; exact absurd c (by decide))
      by_cases c5 : K i = nI 1005
      · rw [if_pos c5] at h
        match hs : pLv K k (i + 1), h with
        | .ok (j1, C1), h =>
          obtain ⟨a1, a2⟩ := ih _ _ _ hn1 hs
          cases h
          refine ⟨a1, fun T hT => ?_⟩
          rw [tyL_app, a2 T (by omega), Option.bind_some]
          show (tyS (nI 1005) (true :: T)).bind some = _
          rw [tyS_nt (by omega)]; rfl
        | .error e, h => cases h
      · rw [if_neg c5] at h
        match hs : pAny K (pLv K k) (i + 1), h with
        | .ok (j1, C1), h =>
          obtain ⟨a1, a2⟩ := pAny_ty hend ih (by omega) _ _ _ hn1 hs
          replace h : (if K j1 = nI 1141 then Except.ok (j1 + 1, C1) else .error (1, j1)) = .ok (j, C) := h
          by_cases c4 : K j1 = nI 1141
          · rw [if_pos c4] at h
            cases h
            exact ⟨not_end hend a1 c4 (by decide), fun T hT => a2 T (by omega)⟩
          · rw [if_neg c4] at h; cases h
        | .error e, h => cases h
    · rw [if_neg c] at h
      obtain ⟨a1, a2⟩ := pCmp_ty hend hnn i j C hi h
      exact ⟨a1, fun T hT => a2 T (by omega)⟩
def rlG (x : rT) : Prop := (∃ y, y < 40 ∧ x.1 = nI y) ∧ tyL x.2.2 [] = some [true]
theorem pWhen_g {K : Nat → Int32} {cn : Nat} (hend : K (cn - 1) = nI 1011) (hnn : ∀ q, q < cn → ¬ K q < 0) {i j : Nat} {sy sk : Int32} {x : rT} (hi : i < cn) (hy : ∃ y, y < 40 ∧ sy = nI y) (h : pWhen K i sy sk = .ok (j, x)) : j < cn ∧ rlG x := by
  rw [pWhen] at h
  by_cases c : K i = nI 1002
  · rw [if_pos c] at h
    have hn1 := not_end hend hi c (by decide)
    match hs : pAny K (pLv K 8) (i + 1), h with
    | .ok (j1, C1), h =>
      obtain ⟨a1, a2⟩ := pAny_ty hend (pLv_ty hend hnn 8) (by omega) _ _ _ hn1 hs
      replace h : (if K j1 = nI 1159 then Except.ok (j1 + 1, sy, sk, C1) else .error (1, j1)) = .ok (j, x) := h
      by_cases c4 : K j1 = nI 1159
      · rw [if_pos c4] at h
        cases h
        exact ⟨not_end hend a1 c4 (by decide), hy, a2 [] (by decide)⟩
      · rw [if_neg c4] at h; cases h
    | .error e, h => cases h
  · rw [if_neg c] at h; cases h
theorem pRule_g {K : Nat → Int32} {cn : Nat} (hend : K (cn - 1) = nI 1011) (hnn : ∀ q, q < cn → ¬ K q < 0) {nr i j : Nat} {x : rT} (hi : i < cn) (h : pRule K nr i = .ok (j, x)) : j < cn ∧ rlG x := by
  rw [pRule] at h
  by_cases c0 : K i = nI 1000
  · rw [if_pos c0] at h
    have hn1 := not_end hend hi c0 (by decide)
    by_cases c1 : nr < 12
    · rw [if_pos c1] at h
      by_cases c2 : nI 999 < K (i + 1)
      · rw [if_pos c2] at h; cases h
      · rw [if_neg c2] at h
        by_cases c3 : nI 39 < K (i + 1)
        · rw [if_pos c3] at h; cases h
        · rw [if_neg c3, pSkl] at h
          have hn2 := not_end hend hn1 rfl (fun e => c2 (by rw [e]; decide))
          have hy : ∃ y, y < 40 ∧ K (i + 1) = nI y := in_nI (by decide) (hnn _ hn1) ((nlt_pred (by decide)).mp c3)
          by_cases c4 : K (i + 1 + 1) = nI 1001
          · rw [if_pos c4] at h
            have hn3 := not_end hend hn2 c4 (by decide)
            by_cases c5 : nI 999 < K (i + 1 + 1 + 1)
            · rw [if_pos c5] at h; cases h
            · rw [if_neg c5] at h
              by_cases c6 : nI 4 < K (i + 1 + 1 + 1)
              · rw [if_pos c6] at h; cases h
              · rw [if_neg c6] at h
                exact pWhen_g hend hnn (not_end hend hn3 rfl (fun e => c5 (by rw [e]; decide))) hy h
          · rw [if_neg c4] at h
            exact pWhen_g hend hnn hn2 hy h
    · rw [if_neg c1] at h; cases h
  · rw [if_neg c0] at h; cases h
theorem pRs_g {K : Nat → Int32} {cn : Nat} (hend : K (cn - 1) = nI 1011) (hnn : ∀ q, q < cn → ¬ K q < 0) : ∀ (f i : Nat) (L L' : List rT), i < cn → (∀ x ∈ L, rlG x) → pRs K f i L = .ok L' → ∀ x ∈ L', rlG x
  | 0, i, L, L', _, hL, h => by rw [pRs] at h; cases h; exact hL
  | f + 1, i, L, L', hi, hL, h => by
    rw [pRs] at h
    by_cases c : K i = nI 1011
    · rw [if_pos c] at h; cases h; exact hL
    · rw [if_neg c] at h
      match hs : pRule K L.length i, h with
      | .ok (j, x), h =>
        obtain ⟨a1, a2⟩ := pRule_g hend hnn hi hs
        refine pRs_g hend hnn f j (L ++ [x]) L' a1 (fun y hy => ?_) h
        rcases List.mem_append.mp hy with q | q
        · exact hL y q
        · rw [List.mem_singleton.mp q]; exact a2
def snL (L : List rT) : Nat → Nat := fun r => (catR (L.take r)).length
theorem catR_take {L : List rT} {r : Nat} (hr : r < L.length) : catR (L.take (r + 1)) = catR (L.take r) ++ (L.getD r (0, 0, [])).2.2 := by
  rw [List.take_succ, List.getElem?_eq_getElem hr]
  show catR (L.take r ++ [L[r]]) = _
  rw [catR_snoc, List.getD_eq_getElem?_getD, List.getElem?_eq_getElem hr]
  rfl
theorem catR_split (L : List rT) (r : Nat) : catR L = catR (L.take r) ++ catR (L.drop r) := by
  rw [catR, catR, catR, ← List.flatMap_append, List.take_append_drop]
theorem okB_of {L : List rT} {sa sk st co : Nat → Int32} (h : bkR L sa sk st co) (hg : ∀ x ∈ L, rlG x) (hlen : (catR L).length ≤ 600) : okB L.length (snL L) co := by
  obtain ⟨h1, h2, co0, h3⟩ := h
  refine ⟨fun r hr => ?_, ?_⟩
  · have e := catR_take hr
    have hm : L.getD r (0, 0, []) ∈ L := by
      rw [List.getD_eq_getElem?_getD, List.getElem?_eq_getElem hr]; exact List.getElem_mem hr
    have hty := (hg _ hm).2
    have e1 : snL L (r + 1) = snL L r + (L.getD r (0, 0, [])).2.2.length := by rw [snL, snL, e, List.length_append]
    refine ⟨by omega, ?_⟩
    rw [e1, Nat.add_sub_cancel_left, ← hty]
    have hco : ∀ x, x < (L.getD r (0, 0, [])).2.2.length → co (snL L r + x) = (L.getD r (0, 0, [])).2.2.getD x 0 := by
      intro x hx
      have e2 : catR L = catR (L.take r) ++ ((L.getD r (0, 0, [])).2.2 ++ catR (L.drop (r + 1))) := by rw [← List.append_assoc, ← e]; exact catR_split L (r + 1)
      have := cdW_at (catR L) co0 0 (snL L r + x) (by rw [e2, List.length_append, List.length_append, snL]; omega)
      rw [Nat.zero_add, ← h3] at this
      rw [this, e2, List.getD_eq_getElem?_getD, List.getElem?_append_right (by rw [snL]; omega), snL, Nat.add_sub_cancel_left, List.getElem?_append_left hx, ← List.getD_eq_getElem?_getD]
    have := tyR_L (co := co) (a := snL L r) (L.getD r (0, 0, [])).2.2 [] (by simpa using hco) rfl
    simpa using this
  · rw [snL, List.take_of_length_le (Nat.le_refl _)]; exact hlen
theorem sy_of {L : List rT} {sa sk st co : Nat → Int32} (h : bkR L sa sk st co) (hg : ∀ x ∈ L, rlG x) : ∀ r, r < L.length → sa r = nI ((sa r).toNatClampNeg) ∧ (sa r).toNatClampNeg < 40 := by
  intro r hr
  have hm : L.getD r (0, 0, []) ∈ L := by
    rw [List.getD_eq_getElem?_getD, List.getElem?_eq_getElem hr]; exact List.getElem_mem hr
  obtain ⟨y, y1, y2⟩ := (hg _ hm).1
  rw [(h.1 r hr).1, y2, nI_clamp (by omega)]
  exact ⟨rfl, y1⟩
