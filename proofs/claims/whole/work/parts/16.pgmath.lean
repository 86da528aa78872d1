/-! PAGES: rows of references; the lines of a page as a list of (rule, skill) -/
section GR3
variable {E : gE} {R : Room} {nL : Nat} {X : gX} {cc : ByteArray} {Ts : List Cond} {own : String} {k n pc : Nat} {ll : List (Option Value)} {rest st : List Value} {ws : va_W}
theorem g_aaldP (C : gx E X cc nL Ts own) {a N v : Nat} {f : Nat → Option Nat} {i : Int32} (q0 j : Nat) (he : ws[q0]? = some (a, .inl (E.2.2.1.2.1, N, .inr (.inr (.inr (.inr f)))))) (hi : i = nI j) (hj : j < N) (hN : N < 2147483648) (hv : f j = some v) (d : decode cc pc = .ok (.aaload, 1)) (kk : gg E R nL X k n (pc + 1) ll (.ref v :: rest) ws) : gg E R nL X k n pc ll (.int i :: .ref a :: rest) ws := fun H locs ls a b c h => va_aldq (D := E.2.1) (C := "MarkPages$Page") C.1 C.2.1 C.2.2.2.2.2.1 a q0 1 he rfl (by rw [hi]; exact vp_in_nI hj hN) d (by rw [hi, nI_clamp (Nat.lt_trans hj hN), hv]; exact kk H locs ls a b c h)
theorem g_aaldG (C : gx E X cc nL Ts own) {a N v : Nat} {f : Nat → Option Nat} {i : Int32} (q0 j : Nat) (he : ws[q0]? = some (a, .inl (E.2.2.1.2.2, N, .inr (.inr (.inr (.inr f)))))) (hi : i = nI j) (hj : j < N) (hN : N < 2147483648) (hv : f j = some v) (d : decode cc pc = .ok (.aaload, 1)) (kk : gg E R nL X k n (pc + 1) ll (.ref v :: rest) ws) : gg E R nL X k n pc ll (.int i :: .ref a :: rest) ws := fun H locs ls hP b c h => by
  have hin : vp_in i N := by rw [hi]; exact vp_in_nI hj hN
  have hcl : i.toNatClampNeg = j := by rw [hi, nI_clamp (Nat.lt_trans hj hN)]
  have hK := C.2.2.2.2.2.1
  exact W.aald (v := .ref v) (ty := .array .int) C.1 C.2.1 (hP q0 _ he) ((hK.2 2 _ rfl).1 N (fun j => va_rf (f j))) rfl (fun q => by cases q) (by show ¬ (i < 0 ∨ (arrV _ _ _).slots.size ≤ _); rw [arrV_size]; exact hin) (by show (arrV _ _ _).slots[_]? = _; rw [hcl, arrV_read _ _ hj, hv]; rfl) rfl rfl d (kk H locs ls hP b c h)
end GR3
def pSa (bs : Nat → Int32) (L : List (Nat × Nat)) (i : Nat) : Int32 := bs (L.getD i (0, 0)).1
def pSk (L : List (Nat × Nat)) (i : Nat) : Int32 := nI (L.getD i (0, 0)).2
def pRu (L : List (Nat × Nat)) (i : Nat) : Int32 := nI (L.getD i (0, 0)).1
theorem hsS_cong {sa sk sa2 sk2 : Nat → Int32} {s t : Int32} : ∀ {n : Nat}, (∀ i, i < n → sa i = sa2 i ∧ sk i = sk2 i) → hsS sa sk s t n = hsS sa2 sk2 s t n
  | 0, _ => rfl
  | n + 1, h => by
    rw [hsS, hsS, hsS_cong (fun i hi => h i (by omega)), (h n (Nat.lt_succ_self n)).1, (h n (Nat.lt_succ_self n)).2]
/-- the page has a line of this skill and sort -/
def hasL (bs : Nat → Int32) (L : List (Nat × Nat)) (s t : Int32) : Bool := hsS (pSa bs L) (pSk L) s t L.length
/-- rows that hold the lines L -/
def pgR (bs : Nat → Int32) (L : List (Nat × Nat)) (sa ss ru : Nat → Int32) : Prop := ∀ i, i < L.length → sa i = pSa bs L i ∧ ss i = pSk L i ∧ ru i = pRu L i
theorem pgR.has {bs : Nat → Int32} {L : List (Nat × Nat)} {sa ss ru : Nat → Int32} (h : pgR bs L sa ss ru) (s t : Int32) : hsS sa ss s t L.length = hasL bs L s t := hsS_cong (fun i hi => ⟨(h i hi).1, (h i hi).2.1⟩)
theorem pgR.nil {bs sa ss ru : Nat → Int32} : pgR bs [] sa ss ru := fun i hi => absurd hi (Nat.not_lt_zero i)
theorem getD_l {L : List (Nat × Nat)} {x : Nat × Nat} {i : Nat} (h : i < L.length) : (L ++ [x]).getD i (0, 0) = L.getD i (0, 0) := by
  simp [List.getD_eq_getElem?_getD, List.getElem?_append_left h]
theorem getD_e {L : List (Nat × Nat)} {x : Nat × Nat} : (L ++ [x]).getD L.length (0, 0) = x := by
  simp [List.getD_eq_getElem?_getD]
theorem pgR.snoc {bs : Nat → Int32} {L : List (Nat × Nat)} {sa ss ru : Nat → Int32} (h : pgR bs L sa ss ru) (r s : Nat) : pgR bs (L ++ [(r, s)]) (upd sa L.length (bs r)) (upd ss L.length (nI s)) (upd ru L.length (nI r)) := by
  intro i hi
  rw [List.length_append] at hi
  have hi : i < L.length + 1 := hi
  rw [pSa, pSk, pRu]
  by_cases e : i = L.length
  · subst e
    rw [getD_e]
    simp [upd]
  · rw [getD_l (by omega)]
    simp only [upd, if_neg e]
    exact h i (by omega)
/-- the lines of rule r, skills below s, behind L -/
def pgS (bs bk : Nat → Int32) (so : Nat → Nat → Bool) (mk : Nat → Nat) (r : Nat) : Nat → List (Nat × Nat) → List (Nat × Nat)
  | 0, L => L
  | s + 1, L => if (bk r = -1 ∨ bk r = nI s) ∧ (pgS bs bk so mk r s L).length < 12 ∧ 0 < mk s ∧ hasL bs (pgS bs bk so mk r s L) (nI s) (bs r / nI 10) = false ∧ so r s = true then pgS bs bk so mk r s L ++ [(r, s)] else pgS bs bk so mk r s L
def pgA (bs bk : Nat → Int32) (so : Nat → Nat → Bool) (mk : Nat → Nat) : Nat → List (Nat × Nat)
  | 0 => []
  | r + 1 => pgS bs bk so mk r 5 (pgA bs bk so mk r)
theorem pgS_len {bs bk : Nat → Int32} {so : Nat → Nat → Bool} {mk : Nat → Nat} {r : Nat} {L : List (Nat × Nat)} (h : L.length ≤ 12) : ∀ s, (pgS bs bk so mk r s L).length ≤ 12
  | 0 => h
  | s + 1 => by
    have ih := pgS_len (bs := bs) (bk := bk) (so := so) (mk := mk) (r := r) h s
    rw [pgS]
    split
    · next q => rw [List.length_append]; exact q.2.1
    · exact ih
theorem pgA_len {bs bk : Nat → Int32} {so : Nat → Nat → Bool} {mk : Nat → Nat} : ∀ r, (pgA bs bk so mk r).length ≤ 12
  | 0 => Nat.zero_le 12
  | r + 1 => pgS_len (pgA_len r) 5
/-- every line is of a rule below nr and a skill below five -/
def pgIn (nr : Nat) (L : List (Nat × Nat)) : Prop := ∀ x ∈ L, x.1 < nr ∧ x.2 < 5
theorem pgS_in {bs bk : Nat → Int32} {so : Nat → Nat → Bool} {mk : Nat → Nat} {r nr : Nat} {L : List (Nat × Nat)} (hr : r < nr) (h : pgIn nr L) : ∀ s, s ≤ 5 → pgIn nr (pgS bs bk so mk r s L)
  | 0, _ => h
  | s + 1, hs => by
    have ih := pgS_in (bs := bs) (bk := bk) (so := so) (mk := mk) hr h s (by omega)
    rw [pgS]
    split
    · intro x hx
      rcases List.mem_append.mp hx with q | q
      · exact ih x q
      · rw [List.mem_singleton.mp q]; exact ⟨hr, hs⟩
    · exact ih
theorem pgA_in {bs bk : Nat → Int32} {so : Nat → Nat → Bool} {mk : Nat → Nat} {nr : Nat} : ∀ r, r ≤ nr → pgIn nr (pgA bs bk so mk r)
  | 0, _ => fun x hx => absurd hx (List.not_mem_nil)
  | r + 1, h => pgS_in (by omega) (pgA_in r (by omega)) 5 (Nat.le_refl 5)
theorem pgIn.at {nr : Nat} {L : List (Nat × Nat)} (h : pgIn nr L) {i : Nat} (hi : i < L.length) : (L.getD i (0, 0)).1 < nr ∧ (L.getD i (0, 0)).2 < 5 := by
  rw [List.getD_eq_getElem?_getD, List.getElem?_eq_getElem hi]
  exact h _ (List.getElem_mem hi)
/-- is rule r so by the measures io s -/
def soF (io : Nat → Nat → Int32) (co : Nat → Int32) (sn : Nat → Nat) (r s : Nat) : Bool := decide (¬ jV (io s) co (sn r) (sn (r + 1) - sn r) = 0)
/-- the rules' code can stand -/
def okB (nr : Nat) (sn : Nat → Nat) (co : Nat → Int32) : Prop := (∀ r, r < nr → sn r ≤ sn (r + 1) ∧ tyR co (sn r) (sn (r + 1) - sn r) = some [true]) ∧ sn nr ≤ 600
theorem okB.mono {nr : Nat} {sn : Nat → Nat} {co : Nat → Int32} (h : okB nr sn co) : ∀ {m : Nat}, m ≤ nr → ∀ {r : Nat}, r ≤ m → sn r ≤ sn m
  | 0, _, r, hr => by rw [Nat.le_zero.mp hr]; exact Nat.le_refl _
  | m + 1, hm, r, hr => by
    by_cases e : r = m + 1
    · rw [e]; exact Nat.le_refl _
    · exact Nat.le_trans (okB.mono h (show m ≤ nr by omega) (show r ≤ m by omega)) (h.1 m (by omega)).1
theorem jS_cong {io io2 : Nat → Int32} (h : ∀ k, k < 5 → io k = io2 k) (t : Int32) (S : List Int32) : jS io t S = jS io2 t S := by
  rw [jS, jS]
  split
  · rfl
  · split
    · next q =>
      obtain ⟨k, hk1, hk2, rfl⟩ := mea_k q.1 q.2
      rw [nI_clamp (by omega), h (k - 1006) (by omega)]
    · rfl
theorem jR_cong {io io2 co : Nat → Int32} {a : Nat} (h : ∀ k, k < 5 → io k = io2 k) : ∀ n, jR io co a n = jR io2 co a n
  | 0 => rfl
  | n + 1 => by rw [jR, jR, jR_cong h n, jS_cong h]
theorem jV_cong {io io2 co : Nat → Int32} {a n : Nat} (h : ∀ k, k < 5 → io k = io2 k) : jV io co a n = jV io2 co a n := by rw [jV, jV, jR_cong h]
theorem pgS_no {bs bk : Nat → Int32} {so : Nat → Nat → Bool} {mk : Nat → Nat} {r s : Nat} {L : List (Nat × Nat)} (h : ¬ ((bk r = -1 ∨ bk r = nI s) ∧ 0 < mk s ∧ hasL bs (pgS bs bk so mk r s L) (nI s) (bs r / nI 10) = false ∧ so r s = true)) : pgS bs bk so mk r (s + 1) L = pgS bs bk so mk r s L := by
  rw [pgS, if_neg (fun z => h ⟨z.1, z.2.2⟩)]
theorem pgS_full {bs bk : Nat → Int32} {so : Nat → Nat → Bool} {mk : Nat → Nat} {r s : Nat} {L : List (Nat × Nat)} (h : ¬ (pgS bs bk so mk r s L).length < 12) : pgS bs bk so mk r (s + 1) L = pgS bs bk so mk r s L := by
  rw [pgS, if_neg (fun z => h z.2.1)]
theorem pgS_yes {bs bk : Nat → Int32} {so : Nat → Nat → Bool} {mk : Nat → Nat} {r s : Nat} {L : List (Nat × Nat)} (h0 : bk r = -1 ∨ bk r = nI s) (h1 : (pgS bs bk so mk r s L).length < 12) (h2 : 0 < mk s) (h3 : hasL bs (pgS bs bk so mk r s L) (nI s) (bs r / nI 10) = false) (h4 : so r s = true) : pgS bs bk so mk r (s + 1) L = pgS bs bk so mk r s L ++ [(r, s)] := by
  rw [pgS, if_pos ⟨h0, h1, h2, h3, h4⟩]
/-- Page.add where the line may stand -/
theorem pg_add {bs bk : Nat → Int32} {so : Nat → Nat → Bool} {mk : Nat → Nat} {r s n : Nat} {L : List (Nat × Nat)} {sa ss ru : Nat → Int32} (hn : n = (pgS bs bk so mk r s L).length) (hp : pgR bs (pgS bs bk so mk r s L) sa ss ru) (h0 : bk r = -1 ∨ bk r = nI s) (h2 : 0 < mk s) (h3 : hasL bs (pgS bs bk so mk r s L) (nI s) (bs r / nI 10) = false) (h4 : so r s = true) :
    (if n < 12 then n + 1 else n) = (pgS bs bk so mk r (s + 1) L).length ∧ pgR bs (pgS bs bk so mk r (s + 1) L) (if n < 12 then upd sa n (bs r) else sa) (if n < 12 then upd ss n (nI s) else ss) (if n < 12 then upd ru n (nI r) else ru) := by
  by_cases h1 : n < 12
  · rw [if_pos h1, if_pos h1, if_pos h1, if_pos h1, pgS_yes h0 (by omega) h2 h3 h4, List.length_append, hn]
    exact ⟨rfl, hp.snoc r s⟩
  · rw [if_neg h1, if_neg h1, if_neg h1, if_neg h1, pgS_full (by omega)]
    exact ⟨hn, hp⟩
theorem bcN_0 : ∀ M, M < 1024 → (bcN M 10 = 0 ↔ M = 0) := by decide +kernel
/-- measured rows hold what the reference knows -/
theorem msr_kno {io : Nat → Int32} {ms pt : Nat → Int32} {P M cnt : Nat} {mid : Int32} (h : okM ms cnt) : ∀ k, k < 5 → msr io (nI (bcN M 10)) (shV ms pt P M cnt) (nI (miN pt P M cnt)) (shV ms pt P (laS M cnt) cnt) mid k = kno ms pt P M cnt mid (k + 1001) := by
  intro k hk
  rw [shV_last h]
  rcases (show k = 0 ∨ k = 1 ∨ k = 2 ∨ k = 3 ∨ k = 4 by omega) with rfl | rfl | rfl | rfl | rfl <;> rfl
/-- what is measured of pupil P by skill s -/
def ioF (ms sk pt : Nat → Int32) (cnt P s k : Nat) : Int32 := kno ms pt P (mkN sk pt P s cnt) cnt (meV ms sk pt cnt s) (k + 1001)
