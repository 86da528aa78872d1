/-! WHAT BEARS A LINE: the least set, by how many and then by number -/
theorem sub_iff {a b : Nat} (ha : a < 1024) : nI a &&& (nI b ^^^ (-1)) = 0 ↔ a &&& b = a := by
  rw [← Int32.toBitVec_inj, Int32.toBitVec_and, Int32.toBitVec_xor, nI_bv, nI_bv]
  have e1 : (-1 : Int32).toBitVec = BitVec.allOnes 32 := by decide
  have e0 : (0 : Int32).toBitVec = 0#32 := rfl
  rw [e1, e0]
  constructor
  · intro h
    apply Nat.eq_of_testBit_eq
    intro i
    rw [Nat.testBit_and]
    by_cases hi : i < 32
    · have h1 := congrArg (fun v => v.getLsbD i) h
      simp only [BitVec.getLsbD_and, BitVec.getLsbD_xor, BitVec.getLsbD_ofNat, BitVec.getLsbD_allOnes, BitVec.getLsbD_zero, Nat.zero_testBit, hi, decide_true, Bool.true_and] at h1
      revert h1
      cases a.testBit i <;> cases b.testBit i <;> decide
    · have h2 : a.testBit i = false := Nat.testBit_lt_two_pow (Nat.lt_of_lt_of_le ha (Nat.le_trans (show 1024 ≤ 2 ^ 10 by decide) (pw_le (by omega))))
      rw [h2]
      rfl
  · intro h
    apply BitVec.eq_of_getLsbD_eq
    intro i hi
    have h1 := congrArg (fun v => v.testBit i) h
    simp only [Nat.testBit_and] at h1
    simp only [BitVec.getLsbD_and, BitVec.getLsbD_xor, BitVec.getLsbD_ofNat, BitVec.getLsbD_allOnes, BitVec.getLsbD_zero, Nat.zero_testBit, hi, decide_true, Bool.true_and]
    revert h1
    cases a.testBit i <;> cases b.testBit i <;> decide
theorem bit_tb (x q : Nat) : x / 2 ^ q % 2 = if x.testBit q then 1 else 0 := by
  rw [Nat.testBit_eq_decide_div_mod_eq]
  have h : x / 2 ^ q % 2 < 2 := Nat.mod_lt _ (by decide)
  by_cases e : x / 2 ^ q % 2 = 1
  · simp [e]
  · simp [e]; omega
theorem bc_sub {y M : Nat} (h : y &&& M = y) : ∀ n, bcN y n ≤ bcN M n ∧ (bcN y n = bcN M n → ∀ q, q < n → y.testBit q = M.testBit q)
  | 0 => ⟨Nat.le_refl 0, fun _ q hq => absurd hq (Nat.not_lt_zero q)⟩
  | n + 1 => by
    obtain ⟨h1, h2⟩ := bc_sub h n
    have hb : y.testBit n = true → M.testBit n = true := fun e => by
      have h3 := congrArg (fun v => v.testBit n) h
      simp only [Nat.testBit_and, e, Bool.true_and] at h3
      exact h3
    rw [bcN, bcN, bit_tb, bit_tb]
    cases hy : y.testBit n <;> cases hM : M.testBit n
    · refine ⟨by simpa using h1, fun e q hq => ?_⟩
      by_cases e2 : q = n
      · rw [e2, hy, hM]
      · exact h2 (by simpa using e) q (by omega)
    · refine ⟨by simp; omega, fun e q hq => ?_⟩
      simp at e
      omega
    · rw [hb hy] at hM; cases hM
    · refine ⟨by simpa using h1, fun e q hq => ?_⟩
      by_cases e2 : q = n
      · rw [e2, hy, hM]
      · exact h2 (by simpa using e) q (by omega)
theorem bc_lt {y M : Nat} (hM : M < 1024) (h : y &&& M = y) (hne : y ≠ M) : bcN y 10 < bcN M 10 := by
  obtain ⟨h1, h2⟩ := bc_sub h 10
  rcases Nat.lt_or_ge (bcN y 10) (bcN M 10) with q | q
  · exact q
  · refine absurd (Nat.eq_of_testBit_eq (fun i => ?_)) hne
    by_cases hi : i < 10
    · exact h2 (by omega) i hi
    · have hy : y ≤ M := by rw [← h]; exact Nat.and_le_right
      have h3 : 1024 ≤ 2 ^ i := Nat.le_trans (show 1024 ≤ 2 ^ 10 by decide) (pw_le (by omega))
      rw [Nat.testBit_lt_two_pow (show y < 2 ^ i by omega), Nat.testBit_lt_two_pow (show M < 2 ^ i by omega)]
def kLt (y x : Nat) : Prop := bcN y 10 < bcN x 10 ∨ (bcN y 10 = bcN x 10 ∧ y < x)
def leB (M : Nat) (be : Nat → Bool) (x : Nat) : Prop := (x = M ∨ (0 < x ∧ x &&& M = x ∧ be x = true)) ∧ ∀ y, 0 < y → y &&& M = y → be y = true → ¬ kLt y x
theorem leB_one {M : Nat} {be : Nat → Bool} {x z : Nat} (hM : M < 1024) (hx : leB M be x) (hz : leB M be z) : x = z := by
  have key : ∀ a b : Nat, leB M be a → leB M be b → ¬ kLt a b := by
    intro a b ha hb hk
    rcases ha.1 with e | e
    · rcases hb.1 with f | f
      · subst e; subst f
        rcases hk with q | q
        · omega
        · omega
      · by_cases e2 : b = M
        · subst e; subst e2
          rcases hk with q | q
          · omega
          · omega
        · have h1 := bc_lt hM f.2.1 e2
          subst e
          rcases hk with q | q
          · omega
          · omega
    · exact hb.2 a e.1 e.2.1 e.2.2 hk
  have h1 := key x z hx hz
  have h2 := key z x hz hx
  rw [kLt] at h1 h2
  omega
theorem sub_lt {y M : Nat} (hM : M < 1024) (h : y &&& M = y) : y < 1024 := by
  have hy : y ≤ M := by rw [← h]; exact Nat.and_le_right
  omega
/-- does the set M bear rule r for pupil P and skill s -/
def beF (ms sk pt : Nat → Int32) (cnt P s : Nat) (co : Nat → Int32) (sn : Nat → Nat) (r M : Nat) : Bool := decide (¬ jV (fun k => kno ms pt P M cnt (meV ms sk pt cnt s) (k + 1001)) co (sn r) (sn (r + 1) - sn r) = 0)
