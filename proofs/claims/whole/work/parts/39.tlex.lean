/-! THE REFERENCE'S TOKENS -/
def seV (t : Nat → Int32) (n k : Nat) : Int32 := if k < n then t k else -1
def isL (c : Int32) : Bool := decide (¬ c < nI 97 ∧ ¬ nI 122 < c) || decide (¬ c < nI 65 ∧ ¬ nI 90 < c)
def isD (c : Int32) : Bool := decide (¬ c < nI 48 ∧ ¬ nI 57 < c)
theorem fam_bl {b : Int32} : famN b = 0 ↔ (b = nI 32 ∨ b = nI 10) := by
  rw [famN]
  split
  · next h => exact ⟨fun _ => h, fun _ => rfl⟩
  · next h =>
    refine ⟨fun z => ?_, fun z => absurd z h⟩
    split at z
    · cases z
    · split at z <;> cases z
theorem fam_L {b : Int32} : isL b = true ↔ famN b = 1 := by
  rw [isL, Bool.or_eq_true, decide_eq_true_iff, decide_eq_true_iff, famN]
  by_cases h0 : b = nI 32 ∨ b = nI 10
  · rw [if_pos h0]
    rcases h0 with rfl | rfl <;> decide
  · rw [if_neg h0, Int32.not_lt (a := nI 122)]
    by_cases h1 : (¬ b < nI 97 ∧ b ≤ nI 122) ∨ (¬ b < nI 65 ∧ ¬ nI 90 < b)
    · rw [if_pos h1]; exact ⟨fun _ => rfl, fun _ => h1⟩
    · rw [if_neg h1]
      refine ⟨fun z => absurd z h1, fun z => ?_⟩
      split at z <;> cases z
theorem fam_D {b : Int32} : isD b = true ↔ famN b = 2 := by
  refine ⟨fun h => ?_, fun h => ?_⟩
  · rw [isD, decide_eq_true_iff] at h
    obtain ⟨d, h1, h2, rfl⟩ := rng (a := 48) (b := 58) (by decide) h.1 ((nlt_pred (by decide)).mp h.2) (by decide)
    have : d = 48 ∨ d = 49 ∨ d = 50 ∨ d = 51 ∨ d = 52 ∨ d = 53 ∨ d = 54 ∨ d = 55 ∨ d = 56 ∨ d = 57 := by omega
    rcases this with rfl | rfl | rfl | rfl | rfl | rfl | rfl | rfl | rfl | rfl <;> decide
  · obtain ⟨d, h1, h2, rfl⟩ := fam2 h
    rw [isD, decide_eq_true_iff]
    exact ⟨nI_nlt h1 (by omega), nI_nlt (by omega) (by omega)⟩
theorem fam1 {b : Int32} (h : famN b = 1) : ∃ d, 65 ≤ d ∧ d < 123 ∧ b = nI d := by
  have h := fam_L.mpr h
  rw [isL, Bool.or_eq_true, decide_eq_true_iff, decide_eq_true_iff] at h
  rcases h with h | h
  · obtain ⟨d, h1, h2, h3⟩ := rng (a := 97) (b := 123) (by decide) h.1 ((nlt_pred (by decide)).mp h.2) (by decide)
    exact ⟨d, by omega, h2, h3⟩
  · obtain ⟨d, h1, h2, h3⟩ := rng (a := 65) (b := 91) (by decide) h.1 ((nlt_pred (by decide)).mp h.2) (by decide)
    exact ⟨d, h1, by omega, h3⟩
theorem seV_y {t : Nat → Int32} {n k : Nat} (h : k < n) : seV t n k = t k := if_pos h
theorem seV_lt {t : Nat → Int32} {n k : Nat} (h : ¬ seV t n k = -1) : k < n := by
  rcases Nat.lt_or_ge k n with q | q
  · exact q
  · exact absurd (if_neg (Nat.not_lt.mpr q)) h
def okY (t : Nat → Int32) (n : Nat) : Prop := ∀ q, q < n → ∃ b, b < 256 ∧ t q = nI b
theorem seV_no {t : Nat → Int32} {n k : Nat} (hb : okY t n) (h : seV t n k = -1) : ¬ k < n := fun z => by
  obtain ⟨b, h1, h2⟩ := hb k z
  rw [seV_y z, h2] at h
  exact nI_pos (show b < 2147483648 by omega) (by rw [h]; decide)
theorem seV_bl {t : Nat → Int32} {n k : Nat} (h : seV t n k = nI 32 ∨ seV t n k = nI 10) : k < n ∧ famN (t k) = 0 := by
  have hl : k < n := seV_lt (fun z => by rw [z] at h; exact absurd h (by decide))
  rw [seV_y hl] at h
  exact ⟨hl, fam_bl.mpr h⟩
theorem seV_L {t : Nat → Int32} {n k : Nat} (h : isL (seV t n k) = true) : k < n ∧ famN (t k) = 1 := by
  have hl : k < n := seV_lt (fun z => by rw [z] at h; exact absurd h (by decide))
  rw [seV_y hl] at h
  exact ⟨hl, fam_L.mp h⟩
theorem seV_D {t : Nat → Int32} {n k : Nat} (h : isD (seV t n k) = true) : k < n ∧ famN (t k) = 2 := by
  have hl : k < n := seV_lt (fun z => by rw [z] at h; exact absurd h (by decide))
  rw [seV_y hl] at h
  exact ⟨hl, fam_D.mp h⟩
theorem nfam {t : Nat → Int32} {n k f : Nat} (hk : k ≤ n) (h : k < n → ¬ famN (t k) = f) : k = n ∨ famN (t k) ≠ f := by
  rcases Nat.lt_or_ge k n with q | q
  · exact Or.inr (h q)
  · exact Or.inl (by omega)
/-- numbers of letters -/
def pkF (f : Nat → Nat) : Nat → Nat
  | 0 => 0
  | k + 1 => pkF f k * 256 + f k
theorem pkF_inj {f g : Nat → Nat} : ∀ (k l : Nat), (∀ j, j < k → 0 < f j ∧ f j < 256) → (∀ j, j < l → 0 < g j ∧ g j < 256) → pkF f k = pkF g l → k = l ∧ ∀ j, j < k → f j = g j
  | 0, 0, _, _, _ => ⟨rfl, fun j hj => absurd hj (Nat.not_lt_zero j)⟩
  | k + 1, 0, hf, _, h => by
    have := hf k (Nat.lt_succ_self k)
    rw [pkF, pkF] at h
    omega
  | 0, l + 1, _, hg, h => by
    have := hg l (Nat.lt_succ_self l)
    rw [pkF, pkF] at h
    omega
  | k + 1, l + 1, hf, hg, h => by
    have h1 := hf k (Nat.lt_succ_self k)
    have h2 := hg l (Nat.lt_succ_self l)
    rw [pkF, pkF] at h
    obtain ⟨e1, e2⟩ := pkF_inj k l (fun j hj => hf j (by omega)) (fun j hj => hg j (by omega)) (by omega)
    subst e1
    refine ⟨rfl, fun j hj => ?_⟩
    by_cases e : j = k
    · subst e; omega
    · exact e2 j (by omega)
theorem pkF_cong {f g : Nat → Nat} : ∀ (k : Nat), (∀ j, j < k → f j = g j) → pkF f k = pkF g k
  | 0, _ => rfl
  | k + 1, h => by rw [pkF, pkF, pkF_cong k (fun j hj => h j (by omega)), h k (Nat.lt_succ_self k)]
theorem pkF_lt {f : Nat → Nat} : ∀ (k : Nat), (∀ j, j < k → f j < 256) → pkF f k < 256 ^ k
  | 0, _ => Nat.one_pos
  | k + 1, h => by
    have h1 := pkF_lt k (fun j hj => h j (by omega))
    have h2 := h k (Nat.lt_succ_self k)
    rw [pkF, Nat.pow_succ]
    omega
def clF (t : Nat → Int32) (a : Nat) : Nat → Nat := fun j => (t (a + j)).toNatClampNeg
def wcs : List Nat := [7561593, 495723310188, 2003330414, 28530, 6385252, 7237492, 120265298896228, 495672455781, 120299675936100, 1818325876, 427020088179]
def wdN (W : Nat) : Int32 := if W = 7561593 then nI 3 else if W = 495723310188 then nI 4 else if W = 2003330414 then nI 5 else if W = 28530 then nI 6 else if W = 6385252 then nI 7 else if W = 7237492 then nI 8 else if W = 120265298896228 then nI 1001 else if W = 495672455781 then nI 1002 else if W = 120299675936100 then nI 1003 else if W = 1818325876 then nI 1004 else if W = 427020088179 then nI 1005 else nI 1
def gzF (q : Nat) : Nat → Nat := fun j => ((gz_byt.getD q []).getD j 0).toNatClampNeg
theorem gz_w : ∀ q, q < 11 → wcs.getD q 0 = pkF (gzF q) (gz_len.getD q 0) := by decide
theorem gz_b : ∀ q, q < 11 → ∀ j, j < gz_len.getD q 0 → (0 < gzF q j ∧ gzF q j < 256) ∧ (gz_byt.getD q []).getD j 0 = nI (gzF q j) := by decide
theorem spL_iff {t : Nat → Int32} {a q : Nat} : ∀ (n : Nat), spL t a q n = true ↔ ∀ j, j < n → t (a + j) = (gz_byt.getD q []).getD j 0
  | 0 => ⟨fun _ j hj => absurd hj (Nat.not_lt_zero j), fun _ => rfl⟩
  | n + 1 => by
    rw [spL, Bool.and_eq_true, spL_iff n, decide_eq_true_iff]
    refine ⟨fun h j hj => ?_, fun h => ⟨fun j hj => h j (by omega), h n (Nat.lt_succ_self n)⟩⟩
    by_cases e : j = n
    · rw [e]; exact h.2
    · exact h.1 j (by omega)
theorem clF_in {t : Nat → Int32} {a k : Nat} (h : ∀ j, j < k → famN (t (a + j)) = 1) : ∀ j, j < k → (0 < clF t a j ∧ clF t a j < 256) ∧ t (a + j) = nI (clF t a j) := by
  intro j hj
  obtain ⟨d, h1, h2, h3⟩ := fam1 (h j hj)
  rw [clF, h3, nI_clamp (by omega)]
  exact ⟨by omega, rfl⟩
theorem spB_iff {t : Nat → Int32} {a k q : Nat} (hq : q < 11) (h : ∀ j, j < k → famN (t (a + j)) = 1) : spB t a (a + k) q = decide (pkF (clF t a) k = wcs.getD q 0) := by
  rw [spB, show a + k - a = k by omega, Bool.eq_iff_iff, Bool.and_eq_true, decide_eq_true_iff, decide_eq_true_iff, spL_iff, gz_w q hq]
  constructor
  · intro ⟨h1, h2⟩
    rw [← h1]
    refine pkF_cong k (fun j hj => ?_)
    rw [clF, gzF, h2 j (by omega)]
  · intro h1
    obtain ⟨e1, e2⟩ := pkF_inj _ _ (fun j hj => (clF_in h j hj).1) (fun j hj => (gz_b q hq j hj).1) h1
    refine ⟨e1, fun j hj => ?_⟩
    rw [(clF_in h j (by omega)).2, (gz_b q hq j hj).2, e2 j (by omega)]
theorem first_cong {p q : Nat → Bool} : ∀ (n : Nat), (∀ i, i < n → p i = q i) → fa_first p n = fa_first q n
  | 0, _ => rfl
  | n + 1, h => by rw [fa_first, fa_first, first_cong n (fun i hi => h i (by omega)), h n (Nat.lt_succ_self n)]
def tkT (x : Int32) : Int32 := if ¬ nI 999 < x then nI 2 else if x < nI 1006 then x - nI 997 else if x < nI 1011 then x - nI 5 else if x = nI 1011 then nI 0 else if x = nI 1012 then nI 1 else x - nI 1100
theorem wd_first (W : Nat) : wdN W = tkT (if fa_first (fun q => decide (W = wcs.getD q 0)) 11 < 11 then nI (1000 + fa_first (fun q => decide (W = wcs.getD q 0)) 11) else nI 1012) := by
  by_cases w0 : W = 7561593
  · subst w0; decide
  by_cases w1 : W = 495723310188
  · subst w1; decide
  by_cases w2 : W = 2003330414
  · subst w2; decide
  by_cases w3 : W = 28530
  · subst w3; decide
  by_cases w4 : W = 6385252
  · subst w4; decide
  by_cases w5 : W = 7237492
  · subst w5; decide
  by_cases w6 : W = 120265298896228
  · subst w6; decide
  by_cases w7 : W = 495672455781
  · subst w7; decide
  by_cases w8 : W = 120299675936100
  · subst w8; decide
  by_cases w9 : W = 1818325876
  · subst w9; decide
  by_cases w10 : W = 427020088179
  · subst w10; decide
  rw [show fa_first (fun q => decide (W = wcs.getD q 0)) 11 = 11 by simp [fa_first, wcs, w0, w1, w2, w3, w4, w5, w6, w7, w8, w9, w10]]
  rw [wdN, if_neg w0, if_neg w1, if_neg w2, if_neg w3, if_neg w4, if_neg w5, if_neg w6, if_neg w7, if_neg w8, if_neg w9, if_neg w10]
  decide
theorem wd_kw {t : Nat → Int32} {a k : Nat} (h : ∀ j, j < k → famN (t (a + j)) = 1) : wdN (pkF (clF t a) k) = tkT (kwC t a (a + k)) := by
  rw [kwC, first_cong 11 (fun i hi => spB_iff (t := t) (a := a) (k := k) hi h)]
  exact wd_first _
theorem kw_long {t : Nat → Int32} {a k : Nat} (hk : 7 ≤ k) : kwC t a (a + k) = nI 1012 := by
  have : fa_first (spB t a (a + k)) 11 = 11 := first_eq (Nat.le_refl 11) (fun i hi => by
    have := gz_small i hi
    rw [spB, decide_eq_false (by omega)]; rfl) (fun z => absurd z (Nat.lt_irrefl 11))
  rw [kwC, this]; rfl
theorem lgN {W k : Nat} (hW : W < 72057594037927936) (hk : k < 72057594037927936) : lg_cmp (Int64.ofNat W) (Int64.ofNat k) = 0 ↔ W = k := by
  rw [lg_cmp_eq, fa_eq64, Int64.toInt_ofNat_of_lt (by omega), Int64.toInt_ofNat_of_lt (by omega)]
  omega
theorem pk_step {W b : Nat} (hW : W < 281474976710656) (hb : b < 256) : (Int64.ofNat W <<< ((nI 8).toInt64 &&& 63)) ||| (nI b).toInt64 = Int64.ofNat (W * 256 + b) := by
  have e2 : (nI b).toInt64 = Int64.ofNat b := by
    rw [fa_eq64, Int32.toInt_toInt64, nI_toInt (by omega), Int64.toInt_ofNat_of_lt (by omega)]
  have e1 : ((nI 8).toInt64 &&& 63) = 8 := by decide
  rw [e1, e2]
  apply Int64.toBitVec_inj.mp
  rw [Int64.toBitVec_or, Int64.toBitVec_shiftLeft]
  apply BitVec.eq_of_toNat_eq
  rw [BitVec.toNat_or]
  have e3 : ((8 : Int64).toBitVec.smod 64) = 8#64 := by decide
  rw [e3]
  simp only [Int64.toBitVec_ofNat', BitVec.toNat_ofNat, BitVec.shiftLeft_eq', BitVec.toNat_shiftLeft]
  rw [Nat.mod_eq_of_lt (show W < 2 ^ 64 by omega), Nat.mod_eq_of_lt (show b < 2 ^ 64 by omega), Nat.mod_eq_of_lt (show W * 256 + b < 2 ^ 64 by omega), Nat.shiftLeft_eq]
  rw [show 8 % 2 ^ 64 = 8 from rfl, Nat.mod_eq_of_lt (show W * 2 ^ 8 < 2 ^ 64 by omega)]
  have := Nat.shiftLeft_add_eq_or_of_lt (show b < 2 ^ 8 from hb) W
  rw [Nat.shiftLeft_eq] at this
  exact this.symm
/-- the next token from place e on: its kind, place, end -/
def nxK (t : Nat → Int32) (n a : Nat) : Int32 := if a < n then tokC t n a else nI 1011
def nxE (t : Nat → Int32) (n a : Nat) : Nat := if a < n then (if famN (t a) = 3 then a + 1 else enR t n (famN (t a)) a) else a
def nxQ (t : Nat → Int32) (n e a r : Nat) (tok vl : Int32) : Prop := a = enR t n 0 e ∧ r = nxE t n a ∧ tok = tkT (nxK t n a) ∧ (¬ nI 999 < nxK t n a → vl = nxK t n a)
theorem kwC_big {t : Nat → Int32} {a e : Nat} : nI 999 < kwC t a e := by
  have := fa_first_le (spB t a e) 11
  rw [kwC]
  split
  · exact nI_lt (by omega) (by omega)
  · decide
theorem sgC_big {b : Int32} : nI 999 < sgC b := by
  rw [sgC]
  split
  · next h => rcases h with e | e | e | e | e | e | e | e <;> rw [e] <;> decide
  · decide
theorem nxQ_e {t : Nat → Int32} {n e a : Nat} {vl : Int32} (hn : n ≤ 600) (he : e ≤ n) (hA : isE t n 0 e a) (ha : ¬ a < n) : nxQ t n e a a (nI 0) vl :=
  ⟨isE_one hA (enR_is hn he), by rw [nxE, if_neg ha], by rw [nxK, if_neg ha]; decide, fun z => absurd (by rw [nxK, if_neg ha]; decide) z⟩
theorem nxQ_s {t : Nat → Int32} {n e a : Nat} {tok vl : Int32} (hn : n ≤ 600) (he : e ≤ n) (hA : isE t n 0 e a) (ha : a < n) (h3 : famN (t a) = 3) (htok : tok = tkT (sgC (t a))) : nxQ t n e a (a + 1) tok vl := by
  have hk : nxK t n a = sgC (t a) := by rw [nxK, if_pos ha, tokC, if_pos h3]
  exact ⟨isE_one hA (enR_is hn he), by rw [nxE, if_pos ha, if_pos h3], by rw [hk, htok], fun z => absurd (by rw [hk]; exact sgC_big) z⟩
theorem nxQ_l {t : Nat → Int32} {n e a r : Nat} {tok vl : Int32} (hn : n ≤ 600) (he : e ≤ n) (hA : isE t n 0 e a) (ha : a < n) (h1 : famN (t a) = 1) (hE : isE t n 1 a r) (htok : tok = tkT (kwC t a r)) : nxQ t n e a r tok vl := by
  have hr : r = enR t n 1 a := isE_one hE (enR_is hn (Nat.le_of_lt ha))
  have hk : nxK t n a = kwC t a r := by rw [nxK, if_pos ha, tokC, if_neg (by omega), if_pos h1, h1, hr]
  exact ⟨isE_one hA (enR_is hn he), by rw [nxE, if_pos ha, if_neg (by omega), h1, hr], by rw [hk, htok], fun z => absurd (by rw [hk]; exact kwC_big) z⟩
theorem nxQ_d {t : Nat → Int32} {n e a r : Nat} {tok vl : Int32} (hn : n ≤ 600) (he : e ≤ n) (hA : isE t n 0 e a) (ha : a < n) (h2 : famN (t a) = 2) (hE : isE t n 2 a r) (htok : tok = if r - a < 4 then nI 2 else nI 1) (hv : r - a ≤ 3 → vl = nuL t a (r - a)) : nxQ t n e a r tok vl := by
  have hr : r = enR t n 2 a := isE_one hE (enR_is hn (Nat.le_of_lt ha))
  have hk : nxK t n a = nuC t a r := by rw [nxK, if_pos ha, tokC, if_neg (by omega), if_neg (by omega), h2, hr]
  refine ⟨isE_one hA (enR_is hn he), by rw [nxE, if_pos ha, if_neg (by omega), h2, hr], ?_, ?_⟩
  · rw [hk, htok, nuC]
    by_cases q : r - a < 4
    · rw [if_pos q, if_neg (by omega)]
      obtain ⟨v, v1, v2⟩ := nuL_in (t := t) (a := a) (r - a) (fun q hq => hE.2.2.1 (a + q) (by omega) (by omega))
      have : 10 ^ (r - a) ≤ 10 ^ 3 := Nat.pow_le_pow_right (by decide) (by omega)
      rw [v2, tkT, if_pos (nI_nlt (by omega) (by decide))]
    · rw [if_neg q, if_pos (by omega)]; decide
  · intro z
    rw [hk, nuC] at z ⊢
    split at z
    · exact absurd (by decide) z
    · next q => rw [if_neg q]; exact hv (by omega)

abbrev rm_c_X10_see : Room := { frames := 0, cells := 0, slots := 0, locals := 0 }
set_option maxHeartbeats 4000000 in
set_option maxRecDepth 100000 in
theorem c_X10_see (E : gE) (h : Nat) (ad : Nat → Nat) (iv : Nat → Int32) (n k : Nat) (t : Nat → Int32) (hn : n ≤ 600) (hk : k ≤ 600) : MM E yX10_see wsX10_see rm_c_X10_see [.ref h, .int (nI k)] [gO h 10 (tF ad (upd iv 18 (nI n))), gA E (ad 17) 600 t] (fun rv_ ru_ => rv_ = some (.int (seV t n k)) ∧ ru_ = [gO h 10 (tF ad (upd iv 18 (nI n))), gA E (ad 17) 600 t]) := by
  refine MM.ofG (cc := cX10_see) (maxL := 2) (ret := (some .int)) (by decide) rfl (Nat.le_of_ble_eq_true rfl) (ll := [some (.ref h), some (.int (nI k))]) rfl ?_
  intro X C Rt
  have C : gx E X cX10_see 2 wsX10_see RX10 := C
  have i_X10 : ∀ w ∈ u_ws RX10 TX10 40, w ∈ wsX10_see := by decide +kernel
  have f_120 : Cond.fieldLink RX10 120 "MarkPagesModel" "taped" "I" ∈ wsX10_see := by decide +kernel
  have f_49 : Cond.fieldLink RX10 49 "MarkPagesModel" "tape" "[I" ∈ wsX10_see := by decide +kernel
  refine g_iload_n C dX10_see_0 rfl ?_
  refine g_aload_n C dX10_see_1 rfl ?_
  refine g_get C i_X10 0 18 f_120 rfl rfl (by decide) rfl rfl dX10_see_2 ?_
  refine g_icmp_ge_n (tgt := 17) C dX10_see_5 (by decide) (by omega) (by omega) (fun c5 => ?_) (fun c5 => ?_)
  · refine g_iconst (v := -1) C dX10_see_17 (by decide) ?_
    exact g_iret C Rt dX10_see_18 (by decide) (by decide) (⟨by rw [seV, if_neg (by omega)], rfl⟩)
  · refine g_aload_n C dX10_see_8 rfl ?_
    refine g_get C i_X10 0 17 f_49 rfl rfl (by decide) rfl rfl dX10_see_9 ?_
    refine g_iload_n C dX10_see_12 rfl ?_
    refine g_iald C 1 k rfl rfl (by omega) (by decide) dX10_see_13 ?_
    refine g_goto (tgt := 18) C dX10_see_14 (by decide) ?_
    exact g_iret C Rt dX10_see_18 (by decide) (by decide) (⟨by rw [seV, if_pos (by omega)], rfl⟩)

abbrev rm_c_X10_see_y : Room := { frames := 0, cells := 0, slots := 0, locals := 0 }
theorem c_X10_see_y (E : gE) (h : Nat) (ad : Nat → Nat) (iv : Nat → Int32) (n k : Nat) (t : Nat → Int32) (hn : n ≤ 600) (hk : k < n) : MM E yX10_see wsX10_see rm_c_X10_see_y [.ref h, .int (nI k)] [gO h 10 (tF ad (upd iv 18 (nI n))), gA E (ad 17) 600 t] (fun rv_ ru_ => rv_ = some (.int (t k)) ∧ ru_ = [gO h 10 (tF ad (upd iv 18 (nI n))), gA E (ad 17) 600 t]) := by
  refine (c_X10_see E h ad iv n k t hn (by omega)).post ?_
  rintro v u ⟨rfl, rfl⟩
  exact ⟨by rw [seV_y hk], rfl⟩

abbrev rm_c_X10_isLetter : Room := { frames := 1, cells := 0, slots := 0, locals := 22 }
set_option maxHeartbeats 4000000 in
set_option maxRecDepth 100000 in
theorem c_X10_isLetter (E : gE) (c : Int32)  : MM E yX10_isLetter wsX10_isLetter rm_c_X10_isLetter [.int c] [] (fun rv_ ru_ => rv_ = some (.int (b2i (isL c))) ∧ ru_ = []) := by
  refine MM.ofG (cc := cX10_isLetter) (maxL := 1) (ret := (some .boolean)) (by decide) rfl (Nat.le_of_ble_eq_true rfl) (ll := [some (.int c)]) rfl ?_
  intro X C Rt
  have C : gx E X cX10_isLetter 1 wsX10_isLetter RX10 := C
  refine g_iload_n C dX10_isLetter_0 rfl ?_
  refine g_bipush (v := nI 97) C dX10_isLetter_1 (by decide) ?_
  refine g_bipush (v := nI 122) C dX10_isLetter_3 (by decide) ?_
  refine g_callS C (c_X10_isIn E c (nI 97) (nI 122) ) gX10_isLetter_X10_isIn rfl 3 (by decide +kernel) ⟨by decide, by decide⟩ ⟨by decide, by decide⟩ [] [] (wr := []) rfl (by decide) rfl (by decide) (by decide) rfl rfl (Nat.le_of_ble_eq_true rfl) dX10_isLetter_5 ?_
  rintro _ _ ⟨rfl, rfl⟩
  show gg E _ 1 X 0 0 8 [some (.int c)] [.int (b2i (decide (¬ c < (nI 97) ∧ ¬ (nI 122) < c)))] []
  refine g_if_ne (tgt := 22) C dX10_isLetter_8 (by decide) (fun c8 => ?_) (fun c8 => ?_)
  · refine g_iconst (v := nI 1) C dX10_isLetter_22 (by decide) ?_
    refine g_goto (tgt := 27) C dX10_isLetter_23 (by decide) ?_
    exact g_zret C Rt dX10_isLetter_27 (by decide) (by decide) (by decide) (⟨by rw [isL, b2i_t.mp c8]; rfl, rfl⟩)
  · refine g_iload_n C dX10_isLetter_11 rfl ?_
    refine g_bipush (v := nI 65) C dX10_isLetter_12 (by decide) ?_
    refine g_bipush (v := nI 90) C dX10_isLetter_14 (by decide) ?_
    refine g_callS C (c_X10_isIn E c (nI 65) (nI 90) ) gX10_isLetter_X10_isIn rfl 3 (by decide +kernel) ⟨by decide, by decide⟩ ⟨by decide, by decide⟩ [] [] (wr := []) rfl (by decide) rfl (by decide) (by decide) rfl rfl (Nat.le_of_ble_eq_true rfl) dX10_isLetter_16 ?_
    rintro _ _ ⟨rfl, rfl⟩
    show gg E _ 1 X 0 0 19 [some (.int c)] [.int (b2i (decide (¬ c < (nI 65) ∧ ¬ (nI 90) < c)))] []
    refine g_if_eq (tgt := 26) C dX10_isLetter_19 (by decide) (fun c19 => ?_) (fun c19 => ?_)
    · refine g_iconst (v := nI 0) C dX10_isLetter_26 (by decide) ?_
      exact g_zret C Rt dX10_isLetter_27 (by decide) (by decide) (by decide) (⟨by rw [isL, b2i_f.mp c8, b2i_f.mp c19]; rfl, rfl⟩)
    · refine g_iconst (v := nI 1) C dX10_isLetter_22 (by decide) ?_
      refine g_goto (tgt := 27) C dX10_isLetter_23 (by decide) ?_
      exact g_zret C Rt dX10_isLetter_27 (by decide) (by decide) (by decide) (⟨by rw [isL, b2i_f.mp c8, b2i_t.mp c19]; rfl, rfl⟩)

abbrev rm_c_X10_isDigit : Room := { frames := 1, cells := 0, slots := 0, locals := 22 }
set_option maxHeartbeats 4000000 in
set_option maxRecDepth 100000 in
theorem c_X10_isDigit (E : gE) (c : Int32)  : MM E yX10_isDigit wsX10_isDigit rm_c_X10_isDigit [.int c] [] (fun rv_ ru_ => rv_ = some (.int (b2i (isD c))) ∧ ru_ = []) := by
  refine MM.ofG (cc := cX10_isDigit) (maxL := 1) (ret := (some .boolean)) (by decide) rfl (Nat.le_of_ble_eq_true rfl) (ll := [some (.int c)]) rfl ?_
  intro X C Rt
  have C : gx E X cX10_isDigit 1 wsX10_isDigit RX10 := C
  refine g_iload_n C dX10_isDigit_0 rfl ?_
  refine g_bipush (v := nI 48) C dX10_isDigit_1 (by decide) ?_
  refine g_bipush (v := nI 57) C dX10_isDigit_3 (by decide) ?_
  refine g_callS C (c_X10_isIn E c (nI 48) (nI 57) ) gX10_isDigit_X10_isIn rfl 3 (by decide +kernel) ⟨by decide, by decide⟩ ⟨by decide, by decide⟩ [] [] (wr := []) rfl (by decide) rfl (by decide) (by decide) rfl rfl (Nat.le_of_ble_eq_true rfl) dX10_isDigit_5 ?_
  rintro _ _ ⟨rfl, rfl⟩
  show gg E _ 1 X 0 0 8 [some (.int c)] [.int (b2i (decide (¬ c < (nI 48) ∧ ¬ (nI 57) < c)))] []
  exact g_zret C Rt dX10_isDigit_8 (by decide) (by decide) (b2i_01 _) (⟨rfl, rfl⟩)

abbrev rm_c_X10_word : Room := { frames := 0, cells := 0, slots := 0, locals := 0 }
set_option maxHeartbeats 4000000 in
set_option maxRecDepth 100000 in
theorem c_X10_word (E : gE) (W : Nat) (hW : W < 72057594037927936) : MM E yX10_word wsX10_word rm_c_X10_word [.long (Int64.ofNat W)] [] (fun rv_ ru_ => rv_ = some (.int (wdN W)) ∧ ru_ = []) := by
  refine MM.ofG (cc := cX10_word) (maxL := 2) (ret := (some .int)) (by decide) rfl (Nat.le_of_ble_eq_true rfl) (ll := [some (.long (Int64.ofNat W)), none]) rfl ?_
  intro X C Rt
  have C : gx E X cX10_word 2 wsX10_word RX10 := C
  have k_123 : Cond.constantLong RX10 123 (7561593) ∈ wsX10_word := by decide +kernel
  have k_125 : Cond.constantLong RX10 125 (495723310188) ∈ wsX10_word := by decide +kernel
  have k_127 : Cond.constantLong RX10 127 (2003330414) ∈ wsX10_word := by decide +kernel
  have k_129 : Cond.constantLong RX10 129 (28530) ∈ wsX10_word := by decide +kernel
  have k_131 : Cond.constantLong RX10 131 (6385252) ∈ wsX10_word := by decide +kernel
  have k_133 : Cond.constantLong RX10 133 (7237492) ∈ wsX10_word := by decide +kernel
  have k_135 : Cond.constantLong RX10 135 (120265298896228) ∈ wsX10_word := by decide +kernel
  have k_137 : Cond.constantLong RX10 137 (495672455781) ∈ wsX10_word := by decide +kernel
  have k_139 : Cond.constantLong RX10 139 (120299675936100) ∈ wsX10_word := by decide +kernel
  have k_141 : Cond.constantLong RX10 141 (1818325876) ∈ wsX10_word := by decide +kernel
  have k_143 : Cond.constantLong RX10 143 (427020088179) ∈ wsX10_word := by decide +kernel
  refine g_lload_n C dX10_word_0 rfl ?_
  refine g_ldc2 C k_123 dX10_word_1 ?_
  refine g_lcmp C dX10_word_4 ?_
  refine g_if_ne (tgt := 10) C dX10_word_5 (by decide) (fun c5 => ?_) (fun c5 => ?_)
  · refine g_lload_n C dX10_word_10 rfl ?_
    refine g_ldc2 C k_125 dX10_word_11 ?_
    refine g_lcmp C dX10_word_14 ?_
    refine g_if_ne (tgt := 20) C dX10_word_15 (by decide) (fun c15 => ?_) (fun c15 => ?_)
    · refine g_lload_n C dX10_word_20 rfl ?_
      refine g_ldc2 C k_127 dX10_word_21 ?_
      refine g_lcmp C dX10_word_24 ?_
      refine g_if_ne (tgt := 30) C dX10_word_25 (by decide) (fun c25 => ?_) (fun c25 => ?_)
      · refine g_lload_n C dX10_word_30 rfl ?_
        refine g_ldc2 C k_129 dX10_word_31 ?_
        refine g_lcmp C dX10_word_34 ?_
        refine g_if_ne (tgt := 41) C dX10_word_35 (by decide) (fun c35 => ?_) (fun c35 => ?_)
        · refine g_lload_n C dX10_word_41 rfl ?_
          refine g_ldc2 C k_131 dX10_word_42 ?_
          refine g_lcmp C dX10_word_45 ?_
          refine g_if_ne (tgt := 52) C dX10_word_46 (by decide) (fun c46 => ?_) (fun c46 => ?_)
          · refine g_lload_n C dX10_word_52 rfl ?_
            refine g_ldc2 C k_133 dX10_word_53 ?_
            refine g_lcmp C dX10_word_56 ?_
            refine g_if_ne (tgt := 63) C dX10_word_57 (by decide) (fun c57 => ?_) (fun c57 => ?_)
            · refine g_lload_n C dX10_word_63 rfl ?_
              refine g_ldc2 C k_135 dX10_word_64 ?_
              refine g_lcmp C dX10_word_67 ?_
              refine g_if_ne (tgt := 75) C dX10_word_68 (by decide) (fun c68 => ?_) (fun c68 => ?_)
              · refine g_lload_n C dX10_word_75 rfl ?_
                refine g_ldc2 C k_137 dX10_word_76 ?_
                refine g_lcmp C dX10_word_79 ?_
                refine g_if_ne (tgt := 87) C dX10_word_80 (by decide) (fun c80 => ?_) (fun c80 => ?_)
                · refine g_lload_n C dX10_word_87 rfl ?_
                  refine g_ldc2 C k_139 dX10_word_88 ?_
                  refine g_lcmp C dX10_word_91 ?_
                  refine g_if_ne (tgt := 99) C dX10_word_92 (by decide) (fun c92 => ?_) (fun c92 => ?_)
                  · refine g_lload_n C dX10_word_99 rfl ?_
                    refine g_ldc2 C k_141 dX10_word_100 ?_
                    refine g_lcmp C dX10_word_103 ?_
                    refine g_if_ne (tgt := 111) C dX10_word_104 (by decide) (fun c104 => ?_) (fun c104 => ?_)
                    · refine g_lload_n C dX10_word_111 rfl ?_
                      refine g_ldc2 C k_143 dX10_word_112 ?_
                      refine g_lcmp C dX10_word_115 ?_
                      refine g_if_ne (tgt := 125) C dX10_word_116 (by decide) (fun c116 => ?_) (fun c116 => ?_)
                      · refine g_iconst (v := nI 1) C dX10_word_125 (by decide) ?_
                        exact g_iret C Rt dX10_word_126 (by decide) (by decide) (⟨by rw [wdN, if_neg (fun z => c5 ((lgN (k := 7561593) hW (by decide)).mpr z)), if_neg (fun z => c15 ((lgN (k := 495723310188) hW (by decide)).mpr z)), if_neg (fun z => c25 ((lgN (k := 2003330414) hW (by decide)).mpr z)), if_neg (fun z => c35 ((lgN (k := 28530) hW (by decide)).mpr z)), if_neg (fun z => c46 ((lgN (k := 6385252) hW (by decide)).mpr z)), if_neg (fun z => c57 ((lgN (k := 7237492) hW (by decide)).mpr z)), if_neg (fun z => c68 ((lgN (k := 120265298896228) hW (by decide)).mpr z)), if_neg (fun z => c80 ((lgN (k := 495672455781) hW (by decide)).mpr z)), if_neg (fun z => c92 ((lgN (k := 120299675936100) hW (by decide)).mpr z)), if_neg (fun z => c104 ((lgN (k := 1818325876) hW (by decide)).mpr z)), if_neg (fun z => c116 ((lgN (k := 427020088179) hW (by decide)).mpr z))], rfl⟩)
                      · refine g_sipush (v := nI 1005) C dX10_word_119 (by decide) ?_
                        refine g_goto (tgt := 126) C dX10_word_122 (by decide) ?_
                        exact g_iret C Rt dX10_word_126 (by decide) (by decide) (⟨by rw [wdN, if_neg (fun z => c5 ((lgN (k := 7561593) hW (by decide)).mpr z)), if_neg (fun z => c15 ((lgN (k := 495723310188) hW (by decide)).mpr z)), if_neg (fun z => c25 ((lgN (k := 2003330414) hW (by decide)).mpr z)), if_neg (fun z => c35 ((lgN (k := 28530) hW (by decide)).mpr z)), if_neg (fun z => c46 ((lgN (k := 6385252) hW (by decide)).mpr z)), if_neg (fun z => c57 ((lgN (k := 7237492) hW (by decide)).mpr z)), if_neg (fun z => c68 ((lgN (k := 120265298896228) hW (by decide)).mpr z)), if_neg (fun z => c80 ((lgN (k := 495672455781) hW (by decide)).mpr z)), if_neg (fun z => c92 ((lgN (k := 120299675936100) hW (by decide)).mpr z)), if_neg (fun z => c104 ((lgN (k := 1818325876) hW (by decide)).mpr z)), if_pos ((lgN (k := 427020088179) hW (by decide)).mp c116)], rfl⟩)
                    · refine g_sipush (v := nI 1004) C dX10_word_107 (by decide) ?_
                      exact g_iret C Rt dX10_word_110 (by decide) (by decide) (⟨by rw [wdN, if_neg (fun z => c5 ((lgN (k := 7561593) hW (by decide)).mpr z)), if_neg (fun z => c15 ((lgN (k := 495723310188) hW (by decide)).mpr z)), if_neg (fun z => c25 ((lgN (k := 2003330414) hW (by decide)).mpr z)), if_neg (fun z => c35 ((lgN (k := 28530) hW (by decide)).mpr z)), if_neg (fun z => c46 ((lgN (k := 6385252) hW (by decide)).mpr z)), if_neg (fun z => c57 ((lgN (k := 7237492) hW (by decide)).mpr z)), if_neg (fun z => c68 ((lgN (k := 120265298896228) hW (by decide)).mpr z)), if_neg (fun z => c80 ((lgN (k := 495672455781) hW (by decide)).mpr z)), if_neg (fun z => c92 ((lgN (k := 120299675936100) hW (by decide)).mpr z)), if_pos ((lgN (k := 1818325876) hW (by decide)).mp c104)], rfl⟩)
                  · refine g_sipush (v := nI 1003) C dX10_word_95 (by decide) ?_
                    exact g_iret C Rt dX10_word_98 (by decide) (by decide) (⟨by rw [wdN, if_neg (fun z => c5 ((lgN (k := 7561593) hW (by decide)).mpr z)), if_neg (fun z => c15 ((lgN (k := 495723310188) hW (by decide)).mpr z)), if_neg (fun z => c25 ((lgN (k := 2003330414) hW (by decide)).mpr z)), if_neg (fun z => c35 ((lgN (k := 28530) hW (by decide)).mpr z)), if_neg (fun z => c46 ((lgN (k := 6385252) hW (by decide)).mpr z)), if_neg (fun z => c57 ((lgN (k := 7237492) hW (by decide)).mpr z)), if_neg (fun z => c68 ((lgN (k := 120265298896228) hW (by decide)).mpr z)), if_neg (fun z => c80 ((lgN (k := 495672455781) hW (by decide)).mpr z)), if_pos ((lgN (k := 120299675936100) hW (by decide)).mp c92)], rfl⟩)
                · refine g_sipush (v := nI 1002) C dX10_word_83 (by decide) ?_
                  exact g_iret C Rt dX10_word_86 (by decide) (by decide) (⟨by rw [wdN, if_neg (fun z => c5 ((lgN (k := 7561593) hW (by decide)).mpr z)), if_neg (fun z => c15 ((lgN (k := 495723310188) hW (by decide)).mpr z)), if_neg (fun z => c25 ((lgN (k := 2003330414) hW (by decide)).mpr z)), if_neg (fun z => c35 ((lgN (k := 28530) hW (by decide)).mpr z)), if_neg (fun z => c46 ((lgN (k := 6385252) hW (by decide)).mpr z)), if_neg (fun z => c57 ((lgN (k := 7237492) hW (by decide)).mpr z)), if_neg (fun z => c68 ((lgN (k := 120265298896228) hW (by decide)).mpr z)), if_pos ((lgN (k := 495672455781) hW (by decide)).mp c80)], rfl⟩)
              · refine g_sipush (v := nI 1001) C dX10_word_71 (by decide) ?_
                exact g_iret C Rt dX10_word_74 (by decide) (by decide) (⟨by rw [wdN, if_neg (fun z => c5 ((lgN (k := 7561593) hW (by decide)).mpr z)), if_neg (fun z => c15 ((lgN (k := 495723310188) hW (by decide)).mpr z)), if_neg (fun z => c25 ((lgN (k := 2003330414) hW (by decide)).mpr z)), if_neg (fun z => c35 ((lgN (k := 28530) hW (by decide)).mpr z)), if_neg (fun z => c46 ((lgN (k := 6385252) hW (by decide)).mpr z)), if_neg (fun z => c57 ((lgN (k := 7237492) hW (by decide)).mpr z)), if_pos ((lgN (k := 120265298896228) hW (by decide)).mp c68)], rfl⟩)
            · refine g_bipush (v := nI 8) C dX10_word_60 (by decide) ?_
              exact g_iret C Rt dX10_word_62 (by decide) (by decide) (⟨by rw [wdN, if_neg (fun z => c5 ((lgN (k := 7561593) hW (by decide)).mpr z)), if_neg (fun z => c15 ((lgN (k := 495723310188) hW (by decide)).mpr z)), if_neg (fun z => c25 ((lgN (k := 2003330414) hW (by decide)).mpr z)), if_neg (fun z => c35 ((lgN (k := 28530) hW (by decide)).mpr z)), if_neg (fun z => c46 ((lgN (k := 6385252) hW (by decide)).mpr z)), if_pos ((lgN (k := 7237492) hW (by decide)).mp c57)], rfl⟩)
          · refine g_bipush (v := nI 7) C dX10_word_49 (by decide) ?_
            exact g_iret C Rt dX10_word_51 (by decide) (by decide) (⟨by rw [wdN, if_neg (fun z => c5 ((lgN (k := 7561593) hW (by decide)).mpr z)), if_neg (fun z => c15 ((lgN (k := 495723310188) hW (by decide)).mpr z)), if_neg (fun z => c25 ((lgN (k := 2003330414) hW (by decide)).mpr z)), if_neg (fun z => c35 ((lgN (k := 28530) hW (by decide)).mpr z)), if_pos ((lgN (k := 6385252) hW (by decide)).mp c46)], rfl⟩)
        · refine g_bipush (v := nI 6) C dX10_word_38 (by decide) ?_
          exact g_iret C Rt dX10_word_40 (by decide) (by decide) (⟨by rw [wdN, if_neg (fun z => c5 ((lgN (k := 7561593) hW (by decide)).mpr z)), if_neg (fun z => c15 ((lgN (k := 495723310188) hW (by decide)).mpr z)), if_neg (fun z => c25 ((lgN (k := 2003330414) hW (by decide)).mpr z)), if_pos ((lgN (k := 28530) hW (by decide)).mp c35)], rfl⟩)
      · refine g_iconst (v := nI 5) C dX10_word_28 (by decide) ?_
        exact g_iret C Rt dX10_word_29 (by decide) (by decide) (⟨by rw [wdN, if_neg (fun z => c5 ((lgN (k := 7561593) hW (by decide)).mpr z)), if_neg (fun z => c15 ((lgN (k := 495723310188) hW (by decide)).mpr z)), if_pos ((lgN (k := 2003330414) hW (by decide)).mp c25)], rfl⟩)
    · refine g_iconst (v := nI 4) C dX10_word_18 (by decide) ?_
      exact g_iret C Rt dX10_word_19 (by decide) (by decide) (⟨by rw [wdN, if_neg (fun z => c5 ((lgN (k := 7561593) hW (by decide)).mpr z)), if_pos ((lgN (k := 495723310188) hW (by decide)).mp c15)], rfl⟩)
  · refine g_iconst (v := nI 3) C dX10_word_8 (by decide) ?_
    exact g_iret C Rt dX10_word_9 (by decide) (by decide) (⟨by rw [wdN, if_pos ((lgN (k := 7561593) hW (by decide)).mp c5)], rfl⟩)

abbrev rm_c_X10_next0 : Room := { frames := 2, cells := 0, slots := 0, locals := 42 }
set_option maxHeartbeats 4000000 in
set_option maxRecDepth 100000 in
theorem c_X10_next0 (E : gE) (h : Nat) (ad : Nat → Nat) (iv : Nat → Int32) (n e : Nat) (tok0 ta0 vl0 : Int32) (t : Nat → Int32) (hn : n ≤ 600) (he : e ≤ n) (hb : okY t n) : MM E yX10_next0 wsX10_next0 rm_c_X10_next0 [.ref h] [gO h 10 (tF ad (upd (upd (upd (upd (upd iv 18 (nI n)) 19 (nI e)) 20 tok0) 21 ta0) 22 vl0)), gA E (ad 17) 600 t] (fun rv_ ru_ => ∃ (a r : Nat) (tok vl : Int32), rv_ = none ∧ ru_ = [gO h 10 (tF ad (upd (upd (upd (upd (upd iv 18 (nI n)) 19 (nI r)) 20 tok) 21 (nI a)) 22 vl)), gA E (ad 17) 600 t] ∧ (nxQ t n e a r tok vl)) := by
  refine MM.ofG (cc := cX10_next0) (maxL := 5) (ret := none) (by decide) rfl (Nat.le_of_ble_eq_true rfl) (ll := [some (.ref h), none, none, none, none]) rfl ?_
  intro X C Rt
  have C : gx E X cX10_next0 5 wsX10_next0 RX10 := C
  have i_X10 : ∀ w ∈ u_ws RX10 TX10 40, w ∈ wsX10_next0 := by decide +kernel
  have f_145 : Cond.fieldLink RX10 145 "MarkPagesModel" "at" "I" ∈ wsX10_next0 := by decide +kernel
  have f_151 : Cond.fieldLink RX10 151 "MarkPagesModel" "tokenAt" "I" ∈ wsX10_next0 := by decide +kernel
  have f_154 : Cond.fieldLink RX10 154 "MarkPagesModel" "token" "I" ∈ wsX10_next0 := by decide +kernel
  have f_167 : Cond.fieldLink RX10 167 "MarkPagesModel" "value" "I" ∈ wsX10_next0 := by decide +kernel
  have L0 : ∀ (n0 : Nat) (j : Nat), n - j < n0 → (e + j ≤ n) → (∀ q, e ≤ q → q < e + j → famN (t q) = 0) → gg E rm_c_X10_next0 5 X 0 0 0 [some (.ref h), none, none, none, none] [] [gO h 10 (tF ad (upd (upd (upd (upd (upd iv 18 (nI n)) 19 (nI (e + j))) 20 tok0) 21 ta0) 22 vl0)), gA E (ad 17) 600 t] := by
    intro n0
    induction n0 with
    | zero => intro j hm0; exact absurd hm0 (Nat.not_lt_zero _)
    | succ n0 ih0 =>
      intro j hm0 hj hr
      refine g_aload_n C dX10_next0_0 rfl ?_
      refine g_aload_n C dX10_next0_1 rfl ?_
      refine g_get C i_X10 0 19 f_145 rfl rfl (by decide) rfl rfl dX10_next0_2 ?_
      refine g_callV C (c_X10_see E h ad (upd (upd (upd (upd iv 19 (nI (e + j))) 20 tok0) 21 ta0) 22 vl0) n (e + j) t (by omega) (by omega)) gX10_next0_X10_see rfl 1 (by decide +kernel) ⟨by decide, by decide⟩ ⟨by decide, by decide⟩ 0 rfl rfl [0, 1] [] (wr := []) rfl (by decide) rfl (by decide) (by decide) rfl rfl (Nat.le_of_ble_eq_true rfl) dX10_next0_5 ?_
      rintro _ _ ⟨rfl, rfl⟩
      show gg E _ 5 X 0 0 8 [some (.ref h), none, none, none, none] [.int (seV t n (e + j))] [gO h 10 (tF ad (upd (upd (upd (upd (upd iv 18 (nI n)) 19 (nI (e + j))) 20 tok0) 21 ta0) 22 vl0)), gA E (ad 17) 600 t]
      refine g_bipush (v := nI 32) C dX10_next0_8 (by decide) ?_
      refine g_icmp_eq (tgt := 26) C dX10_next0_10 (by decide) (fun c10 => ?_) (fun c10 => ?_)
      · have hbl := seV_bl (t := t) (n := n) (k := e + j) (Or.inl c10)
        refine g_aload_n C dX10_next0_26 rfl ?_
        refine g_dup C dX10_next0_27 rfl ?_
        refine g_get C i_X10 0 19 f_145 rfl rfl (by decide) rfl rfl dX10_next0_28 ?_
        refine g_iconst (v := nI 1) C dX10_next0_31 (by decide) ?_
        refine g_iadd_n C dX10_next0_32 ?_
        refine g_put C i_X10 tyX10 tyX10_ok nmX10 0 19 f_145 rfl rfl (by decide) rfl rfl rfl rfl rfl (Nat.le_of_ble_eq_true rfl) dX10_next0_33 (ws' := [gO h 10 (tF ad (upd (upd (upd (upd (upd iv 18 (nI n)) 19 (nI ((e + j) + 1))) 20 tok0) 21 ta0) 22 vl0)), gA E (ad 17) 600 t]) rfl ?_
        refine g_goto (tgt := 0) C dX10_next0_36 (by decide) ?_
        exact ih0 (j + 1) (by have := hbl.1; omega) (by have := (seV_bl (t := t) (n := n) (k := e + j) (Or.inl c10)).1; omega) (fun q h1 h2 => by
        by_cases e2 : q = e + j
        · rw [e2]; exact hbl.2
        · exact hr q h1 (by omega))
      · refine g_aload_n C dX10_next0_13 rfl ?_
        refine g_aload_n C dX10_next0_14 rfl ?_
        refine g_get C i_X10 0 19 f_145 rfl rfl (by decide) rfl rfl dX10_next0_15 ?_
        refine g_callV C (c_X10_see E h ad (upd (upd (upd (upd iv 19 (nI (e + j))) 20 tok0) 21 ta0) 22 vl0) n (e + j) t (by omega) (by omega)) gX10_next0_X10_see rfl 1 (by decide +kernel) ⟨by decide, by decide⟩ ⟨by decide, by decide⟩ 0 rfl rfl [0, 1] [] (wr := []) rfl (by decide) rfl (by decide) (by decide) rfl rfl (Nat.le_of_ble_eq_true rfl) dX10_next0_18 ?_
        rintro _ _ ⟨rfl, rfl⟩
        show gg E _ 5 X 0 0 21 [some (.ref h), none, none, none, none] [.int (seV t n (e + j))] [gO h 10 (tF ad (upd (upd (upd (upd (upd iv 18 (nI n)) 19 (nI (e + j))) 20 tok0) 21 ta0) 22 vl0)), gA E (ad 17) 600 t]
        refine g_bipush (v := nI 10) C dX10_next0_21 (by decide) ?_
        refine g_icmp_ne (tgt := 39) C dX10_next0_23 (by decide) (fun c23 => ?_) (fun c23 => ?_)
        · have hA : isE t n 0 e (e + j) := ⟨by omega, hj, hr, nfam hj (fun z y => (fam_bl.mp y).elim (fun w => c10 (by rw [seV_y z]; exact w)) (fun w => c23 (by rw [seV_y z]; exact w)))⟩
          refine g_aload_n C dX10_next0_39 rfl ?_
          refine g_aload_n C dX10_next0_40 rfl ?_
          refine g_get C i_X10 0 19 f_145 rfl rfl (by decide) rfl rfl dX10_next0_41 ?_
          refine g_put C i_X10 tyX10 tyX10_ok nmX10 0 21 f_151 rfl rfl (by decide) rfl rfl rfl rfl rfl (Nat.le_of_ble_eq_true rfl) dX10_next0_44 (ws' := [gO h 10 (tF ad (upd (upd (upd (upd (upd iv 18 (nI n)) 19 (nI (e + j))) 20 tok0) 21 (nI (e + j))) 22 vl0)), gA E (ad 17) 600 t]) rfl ?_
          refine g_aload_n C dX10_next0_47 rfl ?_
          refine g_aload_n C dX10_next0_48 rfl ?_
          refine g_get C i_X10 0 19 f_145 rfl rfl (by decide) rfl rfl dX10_next0_49 ?_
          refine g_callV C (c_X10_see E h ad (upd (upd (upd (upd iv 19 (nI (e + j))) 20 tok0) 21 (nI (e + j))) 22 vl0) n (e + j) t (by omega) (by omega)) gX10_next0_X10_see rfl 1 (by decide +kernel) ⟨by decide, by decide⟩ ⟨by decide, by decide⟩ 0 rfl rfl [0, 1] [] (wr := []) rfl (by decide) rfl (by decide) (by decide) rfl rfl (Nat.le_of_ble_eq_true rfl) dX10_next0_52 ?_
          rintro _ _ ⟨rfl, rfl⟩
          show gg E _ 5 X 0 0 55 [some (.ref h), none, none, none, none] [.int (seV t n (e + j))] [gO h 10 (tF ad (upd (upd (upd (upd (upd iv 18 (nI n)) 19 (nI (e + j))) 20 tok0) 21 (nI (e + j))) 22 vl0)), gA E (ad 17) 600 t]
          refine g_istore_n C dX10_next0_55 (by decide) rfl (ll' := [some (.ref h), some (.int (seV t n (e + j))), none, none, none]) rfl ?_
          refine g_iconst (v := nI 0) C dX10_next0_56 (by decide) ?_
          refine g_istore_n C dX10_next0_57 (by decide) rfl (ll' := [some (.ref h), some (.int (seV t n (e + j))), some (.int (nI 0)), none, none]) rfl ?_
          refine g_iload_n C dX10_next0_58 rfl ?_
          refine g_iconst (v := -1) C dX10_next0_59 (by decide) ?_
          refine g_icmp_ne (tgt := 71) C dX10_next0_60 (by decide) (fun c60 => ?_) (fun c60 => ?_)
          · have hlt := seV_lt c60
            have hta : seV t n (e + j) = t (e + j) := seV_y hlt
            refine g_iload_n C dX10_next0_71 rfl ?_
            refine g_callS C (c_X10_isLetter E (seV t n (e + j)) ) gX10_next0_X10_isLetter rfl 1 (by decide +kernel) ⟨by decide, by decide⟩ ⟨by decide, by decide⟩ [] [0, 1] (wr := [gO h 10 (tF ad (upd (upd (upd (upd (upd iv 18 (nI n)) 19 (nI (e + j))) 20 tok0) 21 (nI (e + j))) 22 vl0)), gA E (ad 17) 600 t]) rfl (by decide) rfl (by decide) (by decide) rfl rfl (Nat.le_of_ble_eq_true rfl) dX10_next0_72 ?_
            rintro _ _ ⟨rfl, rfl⟩
            show gg E _ 5 X 0 0 75 [some (.ref h), some (.int (seV t n (e + j))), some (.int (nI 0)), none, none] [.int (b2i (isL (seV t n (e + j))))] [gO h 10 (tF ad (upd (upd (upd (upd (upd iv 18 (nI n)) 19 (nI (e + j))) 20 tok0) 21 (nI (e + j))) 22 vl0)), gA E (ad 17) 600 t]
            refine g_if_eq (tgt := 152) C dX10_next0_75 (by decide) (fun c75 => ?_) (fun c75 => ?_)
            · refine g_iload_n C dX10_next0_152 rfl ?_
              refine g_callS C (c_X10_isDigit E (seV t n (e + j)) ) gX10_next0_X10_isDigit rfl 1 (by decide +kernel) ⟨by decide, by decide⟩ ⟨by decide, by decide⟩ [] [0, 1] (wr := [gO h 10 (tF ad (upd (upd (upd (upd (upd iv 18 (nI n)) 19 (nI (e + j))) 20 tok0) 21 (nI (e + j))) 22 vl0)), gA E (ad 17) 600 t]) rfl (by decide) rfl (by decide) (by decide) rfl rfl (Nat.le_of_ble_eq_true rfl) dX10_next0_153 ?_
              rintro _ _ ⟨rfl, rfl⟩
              show gg E _ 5 X 0 0 156 [some (.ref h), some (.int (seV t n (e + j))), some (.int (nI 0)), none, none] [.int (b2i (isD (seV t n (e + j))))] [gO h 10 (tF ad (upd (upd (upd (upd (upd iv 18 (nI n)) 19 (nI (e + j))) 20 tok0) 21 (nI (e + j))) 22 vl0)), gA E (ad 17) 600 t]
              refine g_if_eq (tgt := 239) C dX10_next0_156 (by decide) (fun c156 => ?_) (fun c156 => ?_)
              · have h3 : famN (t (e + j)) = 3 := by
                  have q0 : ¬ famN (t (e + j)) = 0 := hA.2.2.2.resolve_left (by omega)
                  have q1 : ¬ famN (t (e + j)) = 1 := fun y => absurd (b2i_f.mp c75) (by rw [hta, fam_L.mpr y]; decide)
                  have q2 : ¬ famN (t (e + j)) = 2 := fun y => absurd (b2i_f.mp c156) (by rw [hta, fam_D.mpr y]; decide)
                  have := famN_le (t (e + j)); omega
                refine g_aload_n C dX10_next0_239 rfl ?_
                refine g_dup C dX10_next0_240 rfl ?_
                refine g_get C i_X10 0 19 f_145 rfl rfl (by decide) rfl rfl dX10_next0_241 ?_
                refine g_iconst (v := nI 1) C dX10_next0_244 (by decide) ?_
                refine g_iadd_n C dX10_next0_245 ?_
                refine g_put C i_X10 tyX10 tyX10_ok nmX10 0 19 f_145 rfl rfl (by decide) rfl rfl rfl rfl rfl (Nat.le_of_ble_eq_true rfl) dX10_next0_246 (ws' := [gO h 10 (tF ad (upd (upd (upd (upd (upd iv 18 (nI n)) 19 (nI ((e + j) + 1))) 20 tok0) 21 (nI (e + j))) 22 vl0)), gA E (ad 17) 600 t]) rfl ?_
                refine g_iload_n C dX10_next0_249 rfl ?_
                refine g_bipush (v := nI 59) C dX10_next0_250 (by decide) ?_
                refine g_icmp_eq (tgt := 297) C dX10_next0_252 (by decide) (fun c252 => ?_) (fun c252 => ?_)
                · refine g_iconst (v := nI 1) C dX10_next0_297 (by decide) ?_
                  refine g_goto (tgt := 302) C dX10_next0_298 (by decide) ?_
                  refine g_istore_n C dX10_next0_302 (by decide) rfl (ll' := [some (.ref h), some (.int (seV t n (e + j))), some (.int (nI 0)), some (.int (nI 1)), none]) rfl ?_
                  refine g_aload_n C dX10_next0_303 rfl ?_
                  refine g_iload_n C dX10_next0_304 rfl ?_
                  refine g_if_eq (tgt := 312) C dX10_next0_305 (by decide) (fun c305 => absurd c305 (by decide)) (fun c305 => ?_)
                  refine g_iload_n C dX10_next0_308 rfl ?_
                  refine g_goto (tgt := 313) C dX10_next0_309 (by decide) ?_
                  refine g_put C i_X10 tyX10 tyX10_ok nmX10 0 20 f_154 rfl rfl (by decide) rfl rfl rfl rfl rfl (Nat.le_of_ble_eq_true rfl) dX10_next0_313 (ws' := [gO h 10 (tF ad (upd (upd (upd (upd (upd iv 18 (nI n)) 19 (nI ((e + j) + 1))) 20 (seV t n (e + j))) 21 (nI (e + j))) 22 vl0)), gA E (ad 17) 600 t]) rfl ?_
                  exact g_vret C Rt dX10_next0_316 (by decide) (by decide) (⟨_, _, _, _, rfl, rfl, nxQ_s hn he hA hlt h3 (by rw [← hta, c252]; decide)⟩)
                · refine g_iload_n C dX10_next0_255 rfl ?_
                  refine g_bipush (v := nI 40) C dX10_next0_256 (by decide) ?_
                  refine g_icmp_eq (tgt := 297) C dX10_next0_258 (by decide) (fun c258 => ?_) (fun c258 => ?_)
                  · refine g_iconst (v := nI 1) C dX10_next0_297 (by decide) ?_
                    refine g_goto (tgt := 302) C dX10_next0_298 (by decide) ?_
                    refine g_istore_n C dX10_next0_302 (by decide) rfl (ll' := [some (.ref h), some (.int (seV t n (e + j))), some (.int (nI 0)), some (.int (nI 1)), none]) rfl ?_
                    refine g_aload_n C dX10_next0_303 rfl ?_
                    refine g_iload_n C dX10_next0_304 rfl ?_
                    refine g_if_eq (tgt := 312) C dX10_next0_305 (by decide) (fun c305 => absurd c305 (by decide)) (fun c305 => ?_)
                    refine g_iload_n C dX10_next0_308 rfl ?_
                    refine g_goto (tgt := 313) C dX10_next0_309 (by decide) ?_
                    refine g_put C i_X10 tyX10 tyX10_ok nmX10 0 20 f_154 rfl rfl (by decide) rfl rfl rfl rfl rfl (Nat.le_of_ble_eq_true rfl) dX10_next0_313 (ws' := [gO h 10 (tF ad (upd (upd (upd (upd (upd iv 18 (nI n)) 19 (nI ((e + j) + 1))) 20 (seV t n (e + j))) 21 (nI (e + j))) 22 vl0)), gA E (ad 17) 600 t]) rfl ?_
                    exact g_vret C Rt dX10_next0_316 (by decide) (by decide) (⟨_, _, _, _, rfl, rfl, nxQ_s hn he hA hlt h3 (by rw [← hta, c258]; decide)⟩)
                  · refine g_iload_n C dX10_next0_261 rfl ?_
                    refine g_bipush (v := nI 41) C dX10_next0_262 (by decide) ?_
                    refine g_icmp_eq (tgt := 297) C dX10_next0_264 (by decide) (fun c264 => ?_) (fun c264 => ?_)
                    · refine g_iconst (v := nI 1) C dX10_next0_297 (by decide) ?_
                      refine g_goto (tgt := 302) C dX10_next0_298 (by decide) ?_
                      refine g_istore_n C dX10_next0_302 (by decide) rfl (ll' := [some (.ref h), some (.int (seV t n (e + j))), some (.int (nI 0)), some (.int (nI 1)), none]) rfl ?_
                      refine g_aload_n C dX10_next0_303 rfl ?_
                      refine g_iload_n C dX10_next0_304 rfl ?_
                      refine g_if_eq (tgt := 312) C dX10_next0_305 (by decide) (fun c305 => absurd c305 (by decide)) (fun c305 => ?_)
                      refine g_iload_n C dX10_next0_308 rfl ?_
                      refine g_goto (tgt := 313) C dX10_next0_309 (by decide) ?_
                      refine g_put C i_X10 tyX10 tyX10_ok nmX10 0 20 f_154 rfl rfl (by decide) rfl rfl rfl rfl rfl (Nat.le_of_ble_eq_true rfl) dX10_next0_313 (ws' := [gO h 10 (tF ad (upd (upd (upd (upd (upd iv 18 (nI n)) 19 (nI ((e + j) + 1))) 20 (seV t n (e + j))) 21 (nI (e + j))) 22 vl0)), gA E (ad 17) 600 t]) rfl ?_
                      exact g_vret C Rt dX10_next0_316 (by decide) (by decide) (⟨_, _, _, _, rfl, rfl, nxQ_s hn he hA hlt h3 (by rw [← hta, c264]; decide)⟩)
                    · refine g_iload_n C dX10_next0_267 rfl ?_
                      refine g_bipush (v := nI 60) C dX10_next0_268 (by decide) ?_
                      refine g_icmp_eq (tgt := 297) C dX10_next0_270 (by decide) (fun c270 => ?_) (fun c270 => ?_)
                      · refine g_iconst (v := nI 1) C dX10_next0_297 (by decide) ?_
                        refine g_goto (tgt := 302) C dX10_next0_298 (by decide) ?_
                        refine g_istore_n C dX10_next0_302 (by decide) rfl (ll' := [some (.ref h), some (.int (seV t n (e + j))), some (.int (nI 0)), some (.int (nI 1)), none]) rfl ?_
                        refine g_aload_n C dX10_next0_303 rfl ?_
                        refine g_iload_n C dX10_next0_304 rfl ?_
                        refine g_if_eq (tgt := 312) C dX10_next0_305 (by decide) (fun c305 => absurd c305 (by decide)) (fun c305 => ?_)
                        refine g_iload_n C dX10_next0_308 rfl ?_
                        refine g_goto (tgt := 313) C dX10_next0_309 (by decide) ?_
                        refine g_put C i_X10 tyX10 tyX10_ok nmX10 0 20 f_154 rfl rfl (by decide) rfl rfl rfl rfl rfl (Nat.le_of_ble_eq_true rfl) dX10_next0_313 (ws' := [gO h 10 (tF ad (upd (upd (upd (upd (upd iv 18 (nI n)) 19 (nI ((e + j) + 1))) 20 (seV t n (e + j))) 21 (nI (e + j))) 22 vl0)), gA E (ad 17) 600 t]) rfl ?_
                        exact g_vret C Rt dX10_next0_316 (by decide) (by decide) (⟨_, _, _, _, rfl, rfl, nxQ_s hn he hA hlt h3 (by rw [← hta, c270]; decide)⟩)
                      · refine g_iload_n C dX10_next0_273 rfl ?_
                        refine g_bipush (v := nI 61) C dX10_next0_274 (by decide) ?_
                        refine g_icmp_eq (tgt := 297) C dX10_next0_276 (by decide) (fun c276 => ?_) (fun c276 => ?_)
                        · refine g_iconst (v := nI 1) C dX10_next0_297 (by decide) ?_
                          refine g_goto (tgt := 302) C dX10_next0_298 (by decide) ?_
                          refine g_istore_n C dX10_next0_302 (by decide) rfl (ll' := [some (.ref h), some (.int (seV t n (e + j))), some (.int (nI 0)), some (.int (nI 1)), none]) rfl ?_
                          refine g_aload_n C dX10_next0_303 rfl ?_
                          refine g_iload_n C dX10_next0_304 rfl ?_
                          refine g_if_eq (tgt := 312) C dX10_next0_305 (by decide) (fun c305 => absurd c305 (by decide)) (fun c305 => ?_)
                          refine g_iload_n C dX10_next0_308 rfl ?_
                          refine g_goto (tgt := 313) C dX10_next0_309 (by decide) ?_
                          refine g_put C i_X10 tyX10 tyX10_ok nmX10 0 20 f_154 rfl rfl (by decide) rfl rfl rfl rfl rfl (Nat.le_of_ble_eq_true rfl) dX10_next0_313 (ws' := [gO h 10 (tF ad (upd (upd (upd (upd (upd iv 18 (nI n)) 19 (nI ((e + j) + 1))) 20 (seV t n (e + j))) 21 (nI (e + j))) 22 vl0)), gA E (ad 17) 600 t]) rfl ?_
                          exact g_vret C Rt dX10_next0_316 (by decide) (by decide) (⟨_, _, _, _, rfl, rfl, nxQ_s hn he hA hlt h3 (by rw [← hta, c276]; decide)⟩)
                        · refine g_iload_n C dX10_next0_279 rfl ?_
                          refine g_bipush (v := nI 62) C dX10_next0_280 (by decide) ?_
                          refine g_icmp_eq (tgt := 297) C dX10_next0_282 (by decide) (fun c282 => ?_) (fun c282 => ?_)
                          · refine g_iconst (v := nI 1) C dX10_next0_297 (by decide) ?_
                            refine g_goto (tgt := 302) C dX10_next0_298 (by decide) ?_
                            refine g_istore_n C dX10_next0_302 (by decide) rfl (ll' := [some (.ref h), some (.int (seV t n (e + j))), some (.int (nI 0)), some (.int (nI 1)), none]) rfl ?_
                            refine g_aload_n C dX10_next0_303 rfl ?_
                            refine g_iload_n C dX10_next0_304 rfl ?_
                            refine g_if_eq (tgt := 312) C dX10_next0_305 (by decide) (fun c305 => absurd c305 (by decide)) (fun c305 => ?_)
                            refine g_iload_n C dX10_next0_308 rfl ?_
                            refine g_goto (tgt := 313) C dX10_next0_309 (by decide) ?_
                            refine g_put C i_X10 tyX10 tyX10_ok nmX10 0 20 f_154 rfl rfl (by decide) rfl rfl rfl rfl rfl (Nat.le_of_ble_eq_true rfl) dX10_next0_313 (ws' := [gO h 10 (tF ad (upd (upd (upd (upd (upd iv 18 (nI n)) 19 (nI ((e + j) + 1))) 20 (seV t n (e + j))) 21 (nI (e + j))) 22 vl0)), gA E (ad 17) 600 t]) rfl ?_
                            exact g_vret C Rt dX10_next0_316 (by decide) (by decide) (⟨_, _, _, _, rfl, rfl, nxQ_s hn he hA hlt h3 (by rw [← hta, c282]; decide)⟩)
                          · refine g_iload_n C dX10_next0_285 rfl ?_
                            refine g_bipush (v := nI 43) C dX10_next0_286 (by decide) ?_
                            refine g_icmp_eq (tgt := 297) C dX10_next0_288 (by decide) (fun c288 => ?_) (fun c288 => ?_)
                            · refine g_iconst (v := nI 1) C dX10_next0_297 (by decide) ?_
                              refine g_goto (tgt := 302) C dX10_next0_298 (by decide) ?_
                              refine g_istore_n C dX10_next0_302 (by decide) rfl (ll' := [some (.ref h), some (.int (seV t n (e + j))), some (.int (nI 0)), some (.int (nI 1)), none]) rfl ?_
                              refine g_aload_n C dX10_next0_303 rfl ?_
                              refine g_iload_n C dX10_next0_304 rfl ?_
                              refine g_if_eq (tgt := 312) C dX10_next0_305 (by decide) (fun c305 => absurd c305 (by decide)) (fun c305 => ?_)
                              refine g_iload_n C dX10_next0_308 rfl ?_
                              refine g_goto (tgt := 313) C dX10_next0_309 (by decide) ?_
                              refine g_put C i_X10 tyX10 tyX10_ok nmX10 0 20 f_154 rfl rfl (by decide) rfl rfl rfl rfl rfl (Nat.le_of_ble_eq_true rfl) dX10_next0_313 (ws' := [gO h 10 (tF ad (upd (upd (upd (upd (upd iv 18 (nI n)) 19 (nI ((e + j) + 1))) 20 (seV t n (e + j))) 21 (nI (e + j))) 22 vl0)), gA E (ad 17) 600 t]) rfl ?_
                              exact g_vret C Rt dX10_next0_316 (by decide) (by decide) (⟨_, _, _, _, rfl, rfl, nxQ_s hn he hA hlt h3 (by rw [← hta, c288]; decide)⟩)
                            · refine g_iload_n C dX10_next0_291 rfl ?_
                              refine g_bipush (v := nI 45) C dX10_next0_292 (by decide) ?_
                              refine g_icmp_ne (tgt := 301) C dX10_next0_294 (by decide) (fun c294 => ?_) (fun c294 => ?_)
                              · refine g_iconst (v := nI 0) C dX10_next0_301 (by decide) ?_
                                refine g_istore_n C dX10_next0_302 (by decide) rfl (ll' := [some (.ref h), some (.int (seV t n (e + j))), some (.int (nI 0)), some (.int (nI 0)), none]) rfl ?_
                                refine g_aload_n C dX10_next0_303 rfl ?_
                                refine g_iload_n C dX10_next0_304 rfl ?_
                                refine g_if_eq (tgt := 312) C dX10_next0_305 (by decide) (fun c305 => ?_) (fun c305 => absurd c305 (by decide))
                                refine g_iconst (v := nI 1) C dX10_next0_312 (by decide) ?_
                                refine g_put C i_X10 tyX10 tyX10_ok nmX10 0 20 f_154 rfl rfl (by decide) rfl rfl rfl rfl rfl (Nat.le_of_ble_eq_true rfl) dX10_next0_313 (ws' := [gO h 10 (tF ad (upd (upd (upd (upd (upd iv 18 (nI n)) 19 (nI ((e + j) + 1))) 20 (nI 1)) 21 (nI (e + j))) 22 vl0)), gA E (ad 17) 600 t]) rfl ?_
                                exact g_vret C Rt dX10_next0_316 (by decide) (by decide) (⟨_, _, _, _, rfl, rfl, nxQ_s hn he hA hlt h3 (by rw [← hta, sgC, if_neg (fun z => z.elim (fun z => c258 z) (fun z => z.elim (fun z => c264 z) (fun z => z.elim (fun z => c288 z) (fun z => z.elim (fun z => c294 z) (fun z => z.elim (fun z => c252 z) (fun z => z.elim (fun z => c270 z) (fun z => z.elim (fun z => c276 z) (fun z => c282 z))))))))]; decide)⟩)
                              · refine g_iconst (v := nI 1) C dX10_next0_297 (by decide) ?_
                                refine g_goto (tgt := 302) C dX10_next0_298 (by decide) ?_
                                refine g_istore_n C dX10_next0_302 (by decide) rfl (ll' := [some (.ref h), some (.int (seV t n (e + j))), some (.int (nI 0)), some (.int (nI 1)), none]) rfl ?_
                                refine g_aload_n C dX10_next0_303 rfl ?_
                                refine g_iload_n C dX10_next0_304 rfl ?_
                                refine g_if_eq (tgt := 312) C dX10_next0_305 (by decide) (fun c305 => absurd c305 (by decide)) (fun c305 => ?_)
                                refine g_iload_n C dX10_next0_308 rfl ?_
                                refine g_goto (tgt := 313) C dX10_next0_309 (by decide) ?_
                                refine g_put C i_X10 tyX10 tyX10_ok nmX10 0 20 f_154 rfl rfl (by decide) rfl rfl rfl rfl rfl (Nat.le_of_ble_eq_true rfl) dX10_next0_313 (ws' := [gO h 10 (tF ad (upd (upd (upd (upd (upd iv 18 (nI n)) 19 (nI ((e + j) + 1))) 20 (seV t n (e + j))) 21 (nI (e + j))) 22 vl0)), gA E (ad 17) 600 t]) rfl ?_
                                exact g_vret C Rt dX10_next0_316 (by decide) (by decide) (⟨_, _, _, _, rfl, rfl, nxQ_s hn he hA hlt h3 (by rw [← hta, c294]; decide)⟩)
              · have h2 := (seV_D (b2i_t.mp c156)).2
                refine g_aload_n C dX10_next0_159 rfl ?_
                refine g_iconst (v := nI 0) C dX10_next0_160 (by decide) ?_
                refine g_put C i_X10 tyX10 tyX10_ok nmX10 0 22 f_167 rfl rfl (by decide) rfl rfl rfl rfl rfl (Nat.le_of_ble_eq_true rfl) dX10_next0_161 (ws' := [gO h 10 (tF ad (upd (upd (upd (upd (upd iv 18 (nI n)) 19 (nI (e + j))) 20 tok0) 21 (nI (e + j))) 22 (nI 0))), gA E (ad 17) 600 t]) rfl ?_
                have L164 : ∀ (n164 : Nat) (j3 : Nat) (v3 : Int32), n - j3 < n164 → (e + j + j3 ≤ n) → (∀ q, e + j ≤ q → q < e + j + j3 → famN (t q) = 2) → (j3 ≤ 3 → v3 = nuL t (e + j) j3) → gg E rm_c_X10_next0 5 X 0 0 164 [some (.ref h), some (.int (seV t n (e + j))), some (.int (nI j3)), none, none] [] [gO h 10 (tF ad (upd (upd (upd (upd (upd iv 18 (nI n)) 19 (nI (e + j + j3))) 20 tok0) 21 (nI (e + j))) 22 v3)), gA E (ad 17) 600 t] := by
                  intro n164
                  induction n164 with
                  | zero => intro j3 v3 hm164; exact absurd hm164 (Nat.not_lt_zero _)
                  | succ n164 ih164 =>
                    intro j3 v3 hm164 hj3 hr3 hv
                    refine g_aload_n C dX10_next0_164 rfl ?_
                    refine g_aload_n C dX10_next0_165 rfl ?_
                    refine g_get C i_X10 0 19 f_145 rfl rfl (by decide) rfl rfl dX10_next0_166 ?_
                    refine g_callV C (c_X10_see E h ad (upd (upd (upd (upd iv 19 (nI (e + j + j3))) 20 tok0) 21 (nI (e + j))) 22 v3) n (e + j + j3) t (by omega) (by omega)) gX10_next0_X10_see rfl 1 (by decide +kernel) ⟨by decide, by decide⟩ ⟨by decide, by decide⟩ 0 rfl rfl [0, 1] [] (wr := []) rfl (by decide) rfl (by decide) (by decide) rfl rfl (Nat.le_of_ble_eq_true rfl) dX10_next0_169 ?_
                    rintro _ _ ⟨rfl, rfl⟩
                    show gg E _ 5 X 0 0 172 [some (.ref h), some (.int (seV t n (e + j))), some (.int (nI j3)), none, none] [.int (seV t n (e + j + j3))] [gO h 10 (tF ad (upd (upd (upd (upd (upd iv 18 (nI n)) 19 (nI (e + j + j3))) 20 tok0) 21 (nI (e + j))) 22 v3)), gA E (ad 17) 600 t]
                    refine g_callS C (c_X10_isDigit E (seV t n (e + j + j3)) ) gX10_next0_X10_isDigit rfl 1 (by decide +kernel) ⟨by decide, by decide⟩ ⟨by decide, by decide⟩ [] [0, 1] (wr := [gO h 10 (tF ad (upd (upd (upd (upd (upd iv 18 (nI n)) 19 (nI (e + j + j3))) 20 tok0) 21 (nI (e + j))) 22 v3)), gA E (ad 17) 600 t]) rfl (by decide) rfl (by decide) (by decide) rfl rfl (Nat.le_of_ble_eq_true rfl) dX10_next0_172 ?_
                    rintro _ _ ⟨rfl, rfl⟩
                    show gg E _ 5 X 0 0 175 [some (.ref h), some (.int (seV t n (e + j))), some (.int (nI j3)), none, none] [.int (b2i (isD (seV t n (e + j + j3))))] [gO h 10 (tF ad (upd (upd (upd (upd (upd iv 18 (nI n)) 19 (nI (e + j + j3))) 20 tok0) 21 (nI (e + j))) 22 v3)), gA E (ad 17) 600 t]
                    refine g_if_eq (tgt := 222) C dX10_next0_175 (by decide) (fun c175 => ?_) (fun c175 => ?_)
                    · have hE3 := nfam (f := 2) hj3 (fun z y => absurd (b2i_f.mp c175) (by rw [seV_y z, fam_D.mpr y]; decide))
                      refine g_aload_n C dX10_next0_222 rfl ?_
                      refine g_iload_n C dX10_next0_223 rfl ?_
                      refine g_iconst (v := nI 4) C dX10_next0_224 (by decide) ?_
                      refine g_icmp_ge_n (tgt := 232) C dX10_next0_225 (by decide) (by omega) (by omega) (fun c225 => ?_) (fun c225 => ?_)
                      · refine g_iconst (v := nI 1) C dX10_next0_232 (by decide) ?_
                        refine g_put C i_X10 tyX10 tyX10_ok nmX10 0 20 f_154 rfl rfl (by decide) rfl rfl rfl rfl rfl (Nat.le_of_ble_eq_true rfl) dX10_next0_233 (ws' := [gO h 10 (tF ad (upd (upd (upd (upd (upd iv 18 (nI n)) 19 (nI (e + j + j3))) 20 (nI 1)) 21 (nI (e + j))) 22 v3)), gA E (ad 17) 600 t]) rfl ?_
                        refine g_goto (tgt := 316) C dX10_next0_236 (by decide) ?_
                        exact g_vret C Rt dX10_next0_316 (by decide) (by decide) (⟨_, _, _, _, rfl, rfl, nxQ_d hn he hA hlt h2 (r := e + j + j3) ⟨by omega, hj3, hr3, hE3⟩ (by rw [if_neg (by omega)]) (fun z => by rw [hv (by omega), show e + j + j3 - (e + j) = j3 by omega])⟩)
                      · refine g_iconst (v := nI 2) C dX10_next0_228 (by decide) ?_
                        refine g_goto (tgt := 233) C dX10_next0_229 (by decide) ?_
                        refine g_put C i_X10 tyX10 tyX10_ok nmX10 0 20 f_154 rfl rfl (by decide) rfl rfl rfl rfl rfl (Nat.le_of_ble_eq_true rfl) dX10_next0_233 (ws' := [gO h 10 (tF ad (upd (upd (upd (upd (upd iv 18 (nI n)) 19 (nI (e + j + j3))) 20 (nI 2)) 21 (nI (e + j))) 22 v3)), gA E (ad 17) 600 t]) rfl ?_
                        refine g_goto (tgt := 316) C dX10_next0_236 (by decide) ?_
                        exact g_vret C Rt dX10_next0_316 (by decide) (by decide) (⟨_, _, _, _, rfl, rfl, nxQ_d hn he hA hlt h2 (r := e + j + j3) ⟨by omega, hj3, hr3, hE3⟩ (by rw [if_pos (by omega)]) (fun z => by rw [hv (by omega), show e + j + j3 - (e + j) = j3 by omega])⟩)
                    · have hl3 := seV_D (b2i_t.mp c175)
                      refine g_iload_n C dX10_next0_178 rfl ?_
                      refine g_iconst (v := nI 3) C dX10_next0_179 (by decide) ?_
                      refine g_icmp_ge_n (tgt := 206) C dX10_next0_180 (by decide) (by omega) (by omega) (fun c180 => ?_) (fun c180 => ?_)
                      · refine g_iinc_n (y := 1) C dX10_next0_206 rfl (by decide) (by decide) rfl (ll' := [some (.ref h), some (.int (seV t n (e + j))), some (.int (nI (j3 + 1))), none, none]) rfl ?_
                        refine g_aload_n C dX10_next0_209 rfl ?_
                        refine g_dup C dX10_next0_210 rfl ?_
                        refine g_get C i_X10 0 19 f_145 rfl rfl (by decide) rfl rfl dX10_next0_211 ?_
                        refine g_iconst (v := nI 1) C dX10_next0_214 (by decide) ?_
                        refine g_iadd_n C dX10_next0_215 ?_
                        refine g_put C i_X10 tyX10 tyX10_ok nmX10 0 19 f_145 rfl rfl (by decide) rfl rfl rfl rfl rfl (Nat.le_of_ble_eq_true rfl) dX10_next0_216 (ws' := [gO h 10 (tF ad (upd (upd (upd (upd (upd iv 18 (nI n)) 19 (nI ((e + j + j3) + 1))) 20 tok0) 21 (nI (e + j))) 22 v3)), gA E (ad 17) 600 t]) rfl ?_
                        refine g_goto (tgt := 164) C dX10_next0_219 (by decide) ?_
                        exact ih164 (j3 + 1) v3 (by have := hl3.1; omega) (hl3.1) (fun q h1 h2 => by
        by_cases e2 : q = e + j + j3
        · rw [e2]; exact hl3.2
        · exact hr3 q h1 (by omega)) (fun z => absurd z (by omega))
                      · refine g_aload_n C dX10_next0_183 rfl ?_
                        refine g_bipush (v := nI 10) C dX10_next0_184 (by decide) ?_
                        refine g_aload_n C dX10_next0_186 rfl ?_
                        refine g_get C i_X10 0 22 f_167 rfl rfl (by decide) rfl rfl dX10_next0_187 ?_
                        refine g_imul C dX10_next0_190 ?_
                        refine g_aload_n C dX10_next0_191 rfl ?_
                        refine g_aload_n C dX10_next0_192 rfl ?_
                        refine g_get C i_X10 0 19 f_145 rfl rfl (by decide) rfl rfl dX10_next0_193 ?_
                        refine g_callV C (c_X10_see_y E h ad (upd (upd (upd (upd iv 19 (nI (e + j + j3))) 20 tok0) 21 (nI (e + j))) 22 v3) n (e + j + j3) t (by omega) (hl3.1)) gX10_next0_X10_see rfl 1 (by decide +kernel) ⟨by decide, by decide⟩ ⟨by decide, by decide⟩ 0 rfl rfl [0, 1] [] (wr := []) rfl (by decide) rfl (by decide) (by decide) rfl rfl (Nat.le_of_ble_eq_true rfl) dX10_next0_196 ?_
                        rintro _ _ ⟨rfl, rfl⟩
                        show gg E _ 5 X 0 0 199 [some (.ref h), some (.int (seV t n (e + j))), some (.int (nI j3)), none, none] [.int (t (e + j + j3)), .int ((nI 10) * v3), .ref h] [gO h 10 (tF ad (upd (upd (upd (upd (upd iv 18 (nI n)) 19 (nI (e + j + j3))) 20 tok0) 21 (nI (e + j))) 22 v3)), gA E (ad 17) 600 t]
                        refine g_iadd C dX10_next0_199 ?_
                        refine g_bipush (v := nI 48) C dX10_next0_200 (by decide) ?_
                        refine g_isub C dX10_next0_202 ?_
                        refine g_put C i_X10 tyX10 tyX10_ok nmX10 0 22 f_167 rfl rfl (by decide) rfl rfl rfl rfl rfl (Nat.le_of_ble_eq_true rfl) dX10_next0_203 (ws' := [gO h 10 (tF ad (upd (upd (upd (upd (upd iv 18 (nI n)) 19 (nI (e + j + j3))) 20 tok0) 21 (nI (e + j))) 22 ((((nI 10) * v3) + (t (e + j + j3))) - (nI 48)))), gA E (ad 17) 600 t]) rfl ?_
                        refine g_iinc_n (y := 1) C dX10_next0_206 rfl (by decide) (by decide) rfl (ll' := [some (.ref h), some (.int (seV t n (e + j))), some (.int (nI (j3 + 1))), none, none]) rfl ?_
                        refine g_aload_n C dX10_next0_209 rfl ?_
                        refine g_dup C dX10_next0_210 rfl ?_
                        refine g_get C i_X10 0 19 f_145 rfl rfl (by decide) rfl rfl dX10_next0_211 ?_
                        refine g_iconst (v := nI 1) C dX10_next0_214 (by decide) ?_
                        refine g_iadd_n C dX10_next0_215 ?_
                        refine g_put C i_X10 tyX10 tyX10_ok nmX10 0 19 f_145 rfl rfl (by decide) rfl rfl rfl rfl rfl (Nat.le_of_ble_eq_true rfl) dX10_next0_216 (ws' := [gO h 10 (tF ad (upd (upd (upd (upd (upd iv 18 (nI n)) 19 (nI ((e + j + j3) + 1))) 20 tok0) 21 (nI (e + j))) 22 ((((nI 10) * v3) + (t (e + j + j3))) - (nI 48)))), gA E (ad 17) 600 t]) rfl ?_
                        refine g_goto (tgt := 164) C dX10_next0_219 (by decide) ?_
                        exact ih164 (j3 + 1) ((((nI 10) * v3) + (t (e + j + j3))) - (nI 48)) (by have := hl3.1; omega) (hl3.1) (fun q h1 h2 => by
        by_cases e2 : q = e + j + j3
        · rw [e2]; exact hl3.2
        · exact hr3 q h1 (by omega)) (fun z => by rw [hv (by omega), nuL, Int32.mul_comm])
                exact L164 _ 0 (nI 0) (Nat.lt_succ_self _) (by omega) (fun q h1 h2 => by omega) (fun _ => rfl)
            · have h1 := (seV_L (b2i_t.mp c75)).2
              refine g_lconst (v := 0) C dX10_next0_78 (by decide) ?_
              refine g_lstore_n C dX10_next0_79 (by decide) rfl (ll' := [some (.ref h), some (.int (seV t n (e + j))), some (.int (nI 0)), some (.long 0), none]) rfl ?_
              have L80 : ∀ (n80 : Nat) (j2 : Nat) (wv : Int64), n - j2 < n80 → (e + j + j2 ≤ n) → (∀ q, e + j ≤ q → q < e + j + j2 → famN (t q) = 1) → (j2 ≤ 7 → wv = Int64.ofNat (pkF (clF t (e + j)) j2)) → gg E rm_c_X10_next0 5 X 0 0 80 [some (.ref h), some (.int (seV t n (e + j))), some (.int (nI j2)), some (.long wv), none] [] [gO h 10 (tF ad (upd (upd (upd (upd (upd iv 18 (nI n)) 19 (nI (e + j + j2))) 20 tok0) 21 (nI (e + j))) 22 vl0)), gA E (ad 17) 600 t] := by
                intro n80
                induction n80 with
                | zero => intro j2 wv hm80; exact absurd hm80 (Nat.not_lt_zero _)
                | succ n80 ih80 =>
                  intro j2 wv hm80 hj2 hr2 hw
                  refine g_aload_n C dX10_next0_80 rfl ?_
                  refine g_aload_n C dX10_next0_81 rfl ?_
                  refine g_get C i_X10 0 19 f_145 rfl rfl (by decide) rfl rfl dX10_next0_82 ?_
                  refine g_callV C (c_X10_see E h ad (upd (upd (upd (upd iv 19 (nI (e + j + j2))) 20 tok0) 21 (nI (e + j))) 22 vl0) n (e + j + j2) t (by omega) (by omega)) gX10_next0_X10_see rfl 1 (by decide +kernel) ⟨by decide, by decide⟩ ⟨by decide, by decide⟩ 0 rfl rfl [0, 1] [] (wr := []) rfl (by decide) rfl (by decide) (by decide) rfl rfl (Nat.le_of_ble_eq_true rfl) dX10_next0_85 ?_
                  rintro _ _ ⟨rfl, rfl⟩
                  show gg E _ 5 X 0 0 88 [some (.ref h), some (.int (seV t n (e + j))), some (.int (nI j2)), some (.long wv), none] [.int (seV t n (e + j + j2))] [gO h 10 (tF ad (upd (upd (upd (upd (upd iv 18 (nI n)) 19 (nI (e + j + j2))) 20 tok0) 21 (nI (e + j))) 22 vl0)), gA E (ad 17) 600 t]
                  refine g_callS C (c_X10_isLetter E (seV t n (e + j + j2)) ) gX10_next0_X10_isLetter rfl 1 (by decide +kernel) ⟨by decide, by decide⟩ ⟨by decide, by decide⟩ [] [0, 1] (wr := [gO h 10 (tF ad (upd (upd (upd (upd (upd iv 18 (nI n)) 19 (nI (e + j + j2))) 20 tok0) 21 (nI (e + j))) 22 vl0)), gA E (ad 17) 600 t]) rfl (by decide) rfl (by decide) (by decide) rfl rfl (Nat.le_of_ble_eq_true rfl) dX10_next0_88 ?_
                  rintro _ _ ⟨rfl, rfl⟩
                  show gg E _ 5 X 0 0 91 [some (.ref h), some (.int (seV t n (e + j))), some (.int (nI j2)), some (.long wv), none] [.int (b2i (isL (seV t n (e + j + j2))))] [gO h 10 (tF ad (upd (upd (upd (upd (upd iv 18 (nI n)) 19 (nI (e + j + j2))) 20 tok0) 21 (nI (e + j))) 22 vl0)), gA E (ad 17) 600 t]
                  refine g_if_eq (tgt := 131) C dX10_next0_91 (by decide) (fun c91 => ?_) (fun c91 => ?_)
                  · have hE2 := nfam (f := 1) hj2 (fun z y => absurd (b2i_f.mp c91) (by rw [seV_y z, fam_L.mpr y]; decide))
                    refine g_aload_n C dX10_next0_131 rfl ?_
                    refine g_iload_n C dX10_next0_132 rfl ?_
                    refine g_bipush (v := nI 7) C dX10_next0_133 (by decide) ?_
                    refine g_icmp_ge_n (tgt := 145) C dX10_next0_135 (by decide) (by omega) (by omega) (fun c135 => ?_) (fun c135 => ?_)
                    · refine g_iconst (v := nI 1) C dX10_next0_145 (by decide) ?_
                      refine g_put C i_X10 tyX10 tyX10_ok nmX10 0 20 f_154 rfl rfl (by decide) rfl rfl rfl rfl rfl (Nat.le_of_ble_eq_true rfl) dX10_next0_146 (ws' := [gO h 10 (tF ad (upd (upd (upd (upd (upd iv 18 (nI n)) 19 (nI (e + j + j2))) 20 (nI 1)) 21 (nI (e + j))) 22 vl0)), gA E (ad 17) 600 t]) rfl ?_
                      refine g_goto (tgt := 316) C dX10_next0_149 (by decide) ?_
                      exact g_vret C Rt dX10_next0_316 (by decide) (by decide) (⟨_, _, _, _, rfl, rfl, nxQ_l hn he hA hlt h1 (r := e + j + j2) ⟨by omega, hj2, hr2, hE2⟩ (by rw [kw_long (by omega)]; decide)⟩)
                    · have hWl : pkF (clF t (e + j)) j2 < 72057594037927936 := by
                        have q1 := pkF_lt (f := clF t (e + j)) j2 (fun q hq => ((clF_in (k := j2) (fun i hi => hr2 _ (by omega) (by omega))) q hq).1.2)
                        have q2 : 256 ^ j2 ≤ 256 ^ 6 := Nat.pow_le_pow_right (by decide) (by omega)
                        omega
                      obtain rfl := hw (by omega)
                      refine g_lload_n C dX10_next0_138 rfl ?_
                      refine g_callS C (c_X10_word E (pkF (clF t (e + j)) j2) (hWl)) gX10_next0_X10_word rfl 1 (by decide +kernel) ⟨by decide, by decide⟩ ⟨by decide, by decide⟩ [] [0, 1] (wr := [gO h 10 (tF ad (upd (upd (upd (upd (upd iv 18 (nI n)) 19 (nI (e + j + j2))) 20 tok0) 21 (nI (e + j))) 22 vl0)), gA E (ad 17) 600 t]) rfl (by decide) rfl (by decide) (by decide) rfl rfl (Nat.le_of_ble_eq_true rfl) dX10_next0_139 ?_
                      rintro _ _ ⟨rfl, rfl⟩
                      show gg E _ 5 X 0 0 142 [some (.ref h), some (.int (seV t n (e + j))), some (.int (nI j2)), some (.long (Int64.ofNat (pkF (clF t (e + j)) j2))), none] [.int (wdN (pkF (clF t (e + j)) j2)), .ref h] [gO h 10 (tF ad (upd (upd (upd (upd (upd iv 18 (nI n)) 19 (nI (e + j + j2))) 20 tok0) 21 (nI (e + j))) 22 vl0)), gA E (ad 17) 600 t]
                      refine g_goto (tgt := 146) C dX10_next0_142 (by decide) ?_
                      refine g_put C i_X10 tyX10 tyX10_ok nmX10 0 20 f_154 rfl rfl (by decide) rfl rfl rfl rfl rfl (Nat.le_of_ble_eq_true rfl) dX10_next0_146 (ws' := [gO h 10 (tF ad (upd (upd (upd (upd (upd iv 18 (nI n)) 19 (nI (e + j + j2))) 20 (wdN (pkF (clF t (e + j)) j2))) 21 (nI (e + j))) 22 vl0)), gA E (ad 17) 600 t]) rfl ?_
                      refine g_goto (tgt := 316) C dX10_next0_149 (by decide) ?_
                      exact g_vret C Rt dX10_next0_316 (by decide) (by decide) (⟨_, _, _, _, rfl, rfl, nxQ_l hn he hA hlt h1 (r := e + j + j2) ⟨by omega, hj2, hr2, hE2⟩ (wd_kw (fun q hq => hr2 _ (by omega) (by omega)))⟩)
                  · have hl2 := seV_L (b2i_t.mp c91)
                    refine g_iload_n C dX10_next0_94 rfl ?_
                    refine g_bipush (v := nI 7) C dX10_next0_95 (by decide) ?_
                    refine g_icmp_ge_n (tgt := 115) C dX10_next0_97 (by decide) (by omega) (by omega) (fun c97 => ?_) (fun c97 => ?_)
                    · skip
                      refine g_iinc_n (y := 1) C dX10_next0_115 rfl (by decide) (by decide) rfl (ll' := [some (.ref h), some (.int (seV t n (e + j))), some (.int (nI (j2 + 1))), some (.long wv), none]) rfl ?_
                      refine g_aload_n C dX10_next0_118 rfl ?_
                      refine g_dup C dX10_next0_119 rfl ?_
                      refine g_get C i_X10 0 19 f_145 rfl rfl (by decide) rfl rfl dX10_next0_120 ?_
                      refine g_iconst (v := nI 1) C dX10_next0_123 (by decide) ?_
                      refine g_iadd_n C dX10_next0_124 ?_
                      refine g_put C i_X10 tyX10 tyX10_ok nmX10 0 19 f_145 rfl rfl (by decide) rfl rfl rfl rfl rfl (Nat.le_of_ble_eq_true rfl) dX10_next0_125 (ws' := [gO h 10 (tF ad (upd (upd (upd (upd (upd iv 18 (nI n)) 19 (nI ((e + j + j2) + 1))) 20 tok0) 21 (nI (e + j))) 22 vl0)), gA E (ad 17) 600 t]) rfl ?_
                      refine g_goto (tgt := 80) C dX10_next0_128 (by decide) ?_
                      exact ih80 (j2 + 1) wv (by have := hl2.1; omega) (hl2.1) (fun q h1 h2 => by
        by_cases e2 : q = e + j + j2
        · rw [e2]; exact hl2.2
        · exact hr2 q h1 (by omega)) (fun z => absurd z (by omega))
                    · refine g_lload_n C dX10_next0_100 rfl ?_
                      refine g_bipush (v := nI 8) C dX10_next0_101 (by decide) ?_
                      refine g_lshl C dX10_next0_103 ?_
                      refine g_aload_n C dX10_next0_104 rfl ?_
                      refine g_aload_n C dX10_next0_105 rfl ?_
                      refine g_get C i_X10 0 19 f_145 rfl rfl (by decide) rfl rfl dX10_next0_106 ?_
                      refine g_callV C (c_X10_see_y E h ad (upd (upd (upd (upd iv 19 (nI (e + j + j2))) 20 tok0) 21 (nI (e + j))) 22 vl0) n (e + j + j2) t (by omega) (hl2.1)) gX10_next0_X10_see rfl 1 (by decide +kernel) ⟨by decide, by decide⟩ ⟨by decide, by decide⟩ 0 rfl rfl [0, 1] [] (wr := []) rfl (by decide) rfl (by decide) (by decide) rfl rfl (Nat.le_of_ble_eq_true rfl) dX10_next0_109 ?_
                      rintro _ _ ⟨rfl, rfl⟩
                      show gg E _ 5 X 0 0 112 [some (.ref h), some (.int (seV t n (e + j))), some (.int (nI j2)), some (.long wv), none] [.int (t (e + j + j2)), .long (wv <<< ((nI 8).toInt64 &&& 63))] [gO h 10 (tF ad (upd (upd (upd (upd (upd iv 18 (nI n)) 19 (nI (e + j + j2))) 20 tok0) 21 (nI (e + j))) 22 vl0)), gA E (ad 17) 600 t]
                      refine g_i2l C dX10_next0_112 ?_
                      refine g_lor C dX10_next0_113 ?_
                      refine g_lstore_n C dX10_next0_114 (by decide) rfl (ll' := [some (.ref h), some (.int (seV t n (e + j))), some (.int (nI j2)), some (.long ((wv <<< ((nI 8).toInt64 &&& 63)) ||| ((t (e + j + j2)).toInt64))), none]) rfl ?_
                      have hstep : (wv <<< ((nI 8).toInt64 &&& 63)) ||| (t (e + j + j2)).toInt64 = Int64.ofNat (pkF (clF t (e + j)) (j2 + 1)) := by
                        obtain ⟨b, b1, b2⟩ := hb _ hl2.1
                        have q1 := pkF_lt (f := clF t (e + j)) j2 (fun q hq => ((clF_in (k := j2) (fun i hi => hr2 _ (by omega) (by omega))) q hq).1.2)
                        have q2 : 256 ^ j2 ≤ 256 ^ 6 := Nat.pow_le_pow_right (by decide) (by omega)
                        rw [hw (by omega), b2, pk_step (by omega) b1, pkF, show clF t (e + j) j2 = b by rw [clF, b2, nI_clamp (by omega)]]
                      refine g_iinc_n (y := 1) C dX10_next0_115 rfl (by decide) (by decide) rfl (ll' := [some (.ref h), some (.int (seV t n (e + j))), some (.int (nI (j2 + 1))), some (.long ((wv <<< ((nI 8).toInt64 &&& 63)) ||| ((t (e + j + j2)).toInt64))), none]) rfl ?_
                      refine g_aload_n C dX10_next0_118 rfl ?_
                      refine g_dup C dX10_next0_119 rfl ?_
                      refine g_get C i_X10 0 19 f_145 rfl rfl (by decide) rfl rfl dX10_next0_120 ?_
                      refine g_iconst (v := nI 1) C dX10_next0_123 (by decide) ?_
                      refine g_iadd_n C dX10_next0_124 ?_
                      refine g_put C i_X10 tyX10 tyX10_ok nmX10 0 19 f_145 rfl rfl (by decide) rfl rfl rfl rfl rfl (Nat.le_of_ble_eq_true rfl) dX10_next0_125 (ws' := [gO h 10 (tF ad (upd (upd (upd (upd (upd iv 18 (nI n)) 19 (nI ((e + j + j2) + 1))) 20 tok0) 21 (nI (e + j))) 22 vl0)), gA E (ad 17) 600 t]) rfl ?_
                      refine g_goto (tgt := 80) C dX10_next0_128 (by decide) ?_
                      exact ih80 (j2 + 1) ((wv <<< ((nI 8).toInt64 &&& 63)) ||| ((t (e + j + j2)).toInt64)) (by have := hl2.1; omega) (hl2.1) (fun q h1 h2 => by
        by_cases e2 : q = e + j + j2
        · rw [e2]; exact hl2.2
        · exact hr2 q h1 (by omega)) (fun z => hstep)
              exact L80 _ 0 0 (Nat.lt_succ_self _) (by omega) (fun q h1 h2 => by omega) (fun _ => rfl)
          · refine g_aload_n C dX10_next0_63 rfl ?_
            refine g_iconst (v := nI 0) C dX10_next0_64 (by decide) ?_
            refine g_put C i_X10 tyX10 tyX10_ok nmX10 0 20 f_154 rfl rfl (by decide) rfl rfl rfl rfl rfl (Nat.le_of_ble_eq_true rfl) dX10_next0_65 (ws' := [gO h 10 (tF ad (upd (upd (upd (upd (upd iv 18 (nI n)) 19 (nI (e + j))) 20 (nI 0)) 21 (nI (e + j))) 22 vl0)), gA E (ad 17) 600 t]) rfl ?_
            refine g_goto (tgt := 316) C dX10_next0_68 (by decide) ?_
            exact g_vret C Rt dX10_next0_316 (by decide) (by decide) (⟨_, _, _, _, rfl, rfl, nxQ_e hn he hA (seV_no hb c60)⟩)
        · have hbl := seV_bl (t := t) (n := n) (k := e + j) (Or.inr c23)
          refine g_aload_n C dX10_next0_26 rfl ?_
          refine g_dup C dX10_next0_27 rfl ?_
          refine g_get C i_X10 0 19 f_145 rfl rfl (by decide) rfl rfl dX10_next0_28 ?_
          refine g_iconst (v := nI 1) C dX10_next0_31 (by decide) ?_
          refine g_iadd_n C dX10_next0_32 ?_
          refine g_put C i_X10 tyX10 tyX10_ok nmX10 0 19 f_145 rfl rfl (by decide) rfl rfl rfl rfl rfl (Nat.le_of_ble_eq_true rfl) dX10_next0_33 (ws' := [gO h 10 (tF ad (upd (upd (upd (upd (upd iv 18 (nI n)) 19 (nI ((e + j) + 1))) 20 tok0) 21 ta0) 22 vl0)), gA E (ad 17) 600 t]) rfl ?_
          refine g_goto (tgt := 0) C dX10_next0_36 (by decide) ?_
          exact ih0 (j + 1) (by have := hbl.1; omega) (by have := (seV_bl (t := t) (n := n) (k := e + j) (Or.inr c23)).1; omega) (fun q h1 h2 => by
        by_cases e2 : q = e + j
        · rw [e2]; exact hbl.2
        · exact hr q h1 (by omega))
  exact L0 _ 0 (Nat.lt_succ_self _) (by omega) (fun q h1 h2 => by omega)

