/-! THE WORDS OF THE PAPERS: sets of QUESTIONS as numbers (bit q is question q), shares, medians: what class and reference both reckon -/
/-- the marked QUESTIONS of pupil P for skill S, among the first n -/
def mkN (sk pt : Nat → Int32) (P S : Nat) : Nat → Nat
  | 0 => 0
  | q + 1 => if (sk q >>> (nI S &&& 31)) &&& nI 1 = nI 1 ∧ pt (10 * P + q) ≠ -1 then mkN sk pt P S q ||| 2 ^ q else mkN sk pt P S q
theorem mkN_lt (sk pt : Nat → Int32) (P S : Nat) : ∀ n, mkN sk pt P S n < 2 ^ n
  | 0 => by simp [mkN]
  | q + 1 => by
    have ih := mkN_lt sk pt P S q
    have h1 : 2 ^ q < 2 ^ (q + 1) := Nat.pow_lt_pow_right (by decide) (Nat.lt_succ_self q)
    rw [mkN]
    split
    · exact Nat.or_lt_two_pow (Nat.lt_trans ih h1) h1
    · exact Nat.lt_trans ih h1
theorem pw_le {a b : Nat} (h : a ≤ b) : 2 ^ a ≤ 2 ^ b := Nat.pow_le_pow_right (by decide) h
theorem mkN_1024 (sk pt : Nat → Int32) (P S : Nat) {n : Nat} (h : n ≤ 10) : mkN sk pt P S n < 1024 := Nat.lt_of_lt_of_le (mkN_lt sk pt P S n) (pw_le h)
/-- points reached and reachable by a set, the share -/
def shG (pt : Nat → Int32) (P M : Nat) : Nat → Int32
  | 0 => nI 0
  | q + 1 => if M / 2 ^ q % 2 = 1 then shG pt P M q + pt (10 * P + q) else shG pt P M q
def shA (ms : Nat → Int32) (M : Nat) : Nat → Int32
  | 0 => nI 0
  | q + 1 => if M / 2 ^ q % 2 = 1 then shA ms M q + ms q else shA ms M q
def shV (ms pt : Nat → Int32) (P M n : Nat) : Int32 := if shA ms M n = 0 then nI 0 else nI 100 * shG pt P M n / shA ms M n
/-- the most of a question is one to twenty -/
def okM (ms : Nat → Int32) (n : Nat) : Prop := ∀ q, q < n → 0 < (ms q).toInt ∧ (ms q).toInt ≤ 20
theorem okM.less {ms : Nat → Int32} {n m : Nat} (h : okM ms n) (hm : m ≤ n) : okM ms m := fun q hq => h q (Nat.lt_of_lt_of_le hq hm)
theorem shA_in {ms : Nat → Int32} {M : Nat} : ∀ {n : Nat}, n ≤ 10 → okM ms n → 0 ≤ (shA ms M n).toInt ∧ (shA ms M n).toInt ≤ 20 * n
  | 0, _, _ => by rw [shA]; decide
  | q + 1, hn, h => by
    have ih := shA_in (ms := ms) (M := M) (n := q) (by omega) (h.less (Nat.le_succ q))
    have hq := h q (Nat.lt_succ_self q)
    rw [shA]
    split
    · rw [fb_addI (by omega) (by omega)]
      omega
    · omega
theorem shA_le0 {ms : Nat → Int32} {M n : Nat} (hn : n ≤ 10) (h : okM ms n) : shA ms M n ≤ 0 ↔ shA ms M n = 0 := by
  have hi := shA_in (M := M) hn h
  rw [fa_le, fa_eq]
  have e : (0 : Int32).toInt = 0 := rfl
  rw [e]
  omega
/-- the questions of a set that were missed; the share of its last one -/
def miN (pt : Nat → Int32) (P M : Nat) : Nat → Nat
  | 0 => 0
  | q + 1 => if M / 2 ^ q % 2 = 1 ∧ pt (10 * P + q) = 0 then miN pt P M q + 1 else miN pt P M q
theorem miN_le (pt : Nat → Int32) (P M : Nat) : ∀ n, miN pt P M n ≤ n
  | 0 => Nat.le_refl 0
  | q + 1 => by
    have ih := miN_le pt P M q
    rw [miN]
    split <;> omega
def laS (M : Nat) : Nat → Nat
  | 0 => 0
  | q + 1 => if M / 2 ^ q % 2 = 1 then 2 ^ q else laS M q
def laV (ms pt : Nat → Int32) (P M : Nat) : Nat → Int32
  | 0 => nI 0
  | q + 1 => if M / 2 ^ q % 2 = 1 then nI 100 * pt (10 * P + q) / ms q else laV ms pt P M q
theorem laS_lt (M : Nat) : ∀ n, laS M n < 2 ^ n
  | 0 => by simp [laS]
  | q + 1 => by
    have ih := laS_lt M q
    have h1 : 2 ^ q < 2 ^ (q + 1) := Nat.pow_lt_pow_right (by decide) (Nat.lt_succ_self q)
    rw [laS]
    split <;> omega
/-- a share put where it belongs among the first k, rising -/
def insL (v : Int32) : (Nat → Int32) → Nat → (Nat → Int32)
  | r, 0 => upd r 0 v
  | r, k + 1 => if v < r k then insL v (upd r (k + 1) (r k)) k else upd r (k + 1) v
/-- the shares of those of the first p pupils that have a mark for S, rising, and how many -/
def mdR (ms sk pt : Nat → Int32) (n S : Nat) (r : Nat → Int32) : Nat → (Nat → Int32) × Nat
  | 0 => (r, 0)
  | p + 1 => if mkN sk pt p S n = 0 then mdR ms sk pt n S r p else (insL (shV ms pt p (mkN sk pt p S n) n) (mdR ms sk pt n S r p).1 (mdR ms sk pt n S r p).2, (mdR ms sk pt n S r p).2 + 1)
theorem mdR_le (ms sk pt : Nat → Int32) (n S : Nat) (r : Nat → Int32) : ∀ p, (mdR ms sk pt n S r p).2 ≤ p
  | 0 => Nat.le_refl 0
  | p + 1 => by
    have ih := mdR_le ms sk pt n S r p
    rw [mdR]
    split
    · omega
    · show (mdR ms sk pt n S r p).2 + 1 ≤ p + 1
      omega
theorem insL_same {v : Int32} : ∀ (k : Nat) (r r' : Nat → Int32), (∀ j, j < k → r j = r' j) → ∀ j, j < k + 1 → insL v r k j = insL v r' k j
  | 0, r, r', _, j, hj => by
    have e : j = 0 := by omega
    subst e
    simp [insL, upd]
  | k + 1, r, r', h, j, hj => by
    have hk := h k (Nat.lt_succ_self k)
    rw [insL, insL, hk]
    split
    · by_cases e : j = k + 1
      · subst e
        have go : ∀ (i : Nat) (a : Nat → Int32), i < k + 1 → insL v a i (k + 1) = a (k + 1) := by
          intro i
          induction i with
          | zero => intro a _; simp [insL, upd]
          | succ i ih =>
            intro a hi
            rw [insL]
            split
            · rw [ih _ (by omega)]
              simp [upd, show k ≠ i by omega, show ¬ k + 1 = i + 1 by omega]
            · simp [upd, show k ≠ i by omega]
        rw [go k _ (by omega), go k _ (by omega)]
        simp [upd]
      · refine insL_same k _ _ (fun i hi => ?_) j (by omega)
        simp [upd, show ¬ i = k + 1 by omega, h i (by omega)]
    · by_cases e : j = k + 1
      · subst e
        simp [upd]
      · simp [upd, e, h j (by omega)]
theorem mdR_same (ms sk pt : Nat → Int32) (n S : Nat) (r r' : Nat → Int32) : ∀ p, (mdR ms sk pt n S r p).2 = (mdR ms sk pt n S r' p).2 ∧ ∀ j, j < (mdR ms sk pt n S r p).2 → (mdR ms sk pt n S r p).1 j = (mdR ms sk pt n S r' p).1 j
  | 0 => ⟨rfl, fun j hj => absurd hj (Nat.not_lt_zero j)⟩
  | p + 1 => by
    obtain ⟨h1, h2⟩ := mdR_same ms sk pt n S r r' p
    rw [mdR, mdR]
    split
    · exact ⟨h1, h2⟩
    · refine ⟨by show _ + 1 = _ + 1; rw [h1], fun j hj => ?_⟩
      show insL _ _ _ j = insL _ _ _ j
      rw [← h1]
      exact insL_same _ _ _ h2 j hj
/-- the MEDIAN of the class for S -/
def meV (ms sk pt : Nat → Int32) (n S : Nat) : Int32 := if (mdR ms sk pt n S (fun _ => 0) 8).2 = 0 then nI 0 else (mdR ms sk pt n S (fun _ => 0) 8).1 (((mdR ms sk pt n S (fun _ => 0) 8).2 - 1) / 2)
theorem meV_any (ms sk pt : Nat → Int32) (n S : Nat) (r : Nat → Int32) : meV ms sk pt n S = if (mdR ms sk pt n S r 8).2 = 0 then nI 0 else (mdR ms sk pt n S r 8).1 (((mdR ms sk pt n S r 8).2 - 1) / 2) := by
  obtain ⟨h1, h2⟩ := mdR_same ms sk pt n S r (fun _ => 0) 8
  rw [meV, ← h1]
  split
  · rfl
  · next h => exact (h2 _ (by omega)).symm
/-- how many of ten -/
def bcN (M : Nat) : Nat → Nat
  | 0 => 0
  | q + 1 => bcN M q + M / 2 ^ q % 2
theorem bcN_le (M : Nat) : ∀ n, bcN M n ≤ n
  | 0 => Nat.le_refl 0
  | q + 1 => by
    have ih := bcN_le M q
    have h : M / 2 ^ q % 2 < 2 := Nat.mod_lt _ (by decide)
    rw [bcN]
    omega
def b2i (b : Bool) : Int32 := if b then nI 1 else nI 0
/-- has pupil P a mark among the first n -/
def haM (pt : Nat → Int32) (P : Nat) : Nat → Bool
  | 0 => false
  | q + 1 => haM pt P q || decide (pt (10 * P + q) ≠ -1)
theorem bit_pw (k q : Nat) : 2 ^ k / 2 ^ q % 2 = 1 ↔ k = q := by
  have h := Nat.testBit_two_pow (n := k) (m := q)
  rw [Nat.testBit_eq_decide_div_mod_eq] at h
  simpa using h
theorem shG_pw (pt : Nat → Int32) (P k : Nat) : ∀ n, shG pt P (2 ^ k) n = if k < n then pt (10 * P + k) else nI 0
  | 0 => by simp [shG]
  | n + 1 => by
    rw [shG, shG_pw pt P k n]
    by_cases e : k = n
    · subst e
      rw [if_pos ((bit_pw k k).mpr rfl), if_neg (Nat.lt_irrefl k), if_pos (Nat.lt_succ_self k), nI_0, Int32.zero_add]
    · rw [if_neg (fun z => e ((bit_pw k n).mp z))]
      by_cases h : k < n
      · rw [if_pos h, if_pos (by omega)]
      · rw [if_neg h, if_neg (by omega)]
theorem shA_pw (ms : Nat → Int32) (k : Nat) : ∀ n, shA ms (2 ^ k) n = if k < n then ms k else nI 0
  | 0 => by simp [shA]
  | n + 1 => by
    rw [shA, shA_pw ms k n]
    by_cases e : k = n
    · subst e
      rw [if_pos ((bit_pw k k).mpr rfl), if_neg (Nat.lt_irrefl k), if_pos (Nat.lt_succ_self k), nI_0, Int32.zero_add]
    · rw [if_neg (fun z => e ((bit_pw k n).mp z))]
      by_cases h : k < n
      · rw [if_pos h, if_pos (by omega)]
      · rw [if_neg h, if_neg (by omega)]
theorem shA_none (ms : Nat → Int32) : ∀ n, shA ms 0 n = nI 0
  | 0 => rfl
  | n + 1 => by rw [shA, if_neg (by simp), shA_none ms n]
theorem la_two (ms pt : Nat → Int32) (P M : Nat) : ∀ n, (laS M n = 0 ∧ laV ms pt P M n = nI 0) ∨ ∃ k, k < n ∧ laS M n = 2 ^ k ∧ laV ms pt P M n = nI 100 * pt (10 * P + k) / ms k
  | 0 => Or.inl ⟨rfl, rfl⟩
  | n + 1 => by
    rw [laS, laV]
    by_cases h : M / 2 ^ n % 2 = 1
    · rw [if_pos h, if_pos h]
      exact Or.inr ⟨n, Nat.lt_succ_self n, rfl, rfl⟩
    · rw [if_neg h, if_neg h]
      rcases la_two ms pt P M n with h1 | ⟨k, h1, h2, h3⟩
      · exact Or.inl h1
      · exact Or.inr ⟨k, by omega, h2, h3⟩
/-- the share of the last alone is what the reference calls last -/
theorem shV_last {ms pt : Nat → Int32} {P M n : Nat} (h : okM ms n) : shV ms pt P (laS M n) n = laV ms pt P M n := by
  rcases la_two ms pt P M n with ⟨h1, h2⟩ | ⟨k, hk, h1, h2⟩
  · rw [h1, h2, shV, shA_none, if_pos nI_0]
  · rw [h1, h2, shV, shA_pw, shG_pw, if_pos hk, if_pos hk, if_neg]
    intro e
    have := (h k hk).1
    rw [e] at this
    exact absurd this (by decide)
