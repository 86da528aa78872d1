/-! THE LAW: each case -/
section GL
variable {E : gE} {R : Room} {nL : Nat} {X : gX} {cc : ByteArray} {Ts : List Cond} {own : String} {k n pc : Nat} {ll : List (Option Value)} {rest st : List Value} {ws : va_W}
theorem gg.permP {ws' : va_W} (hp : ws.Perm ws') (kk : gg E R nL X k n pc ll st ws') : gg E R nL X k n pc ll st ws := fun H locs ls a b c d => kk H locs ls (va_P_perm hp a) (va_D_perm hp b) c d
theorem g_sld (C : gx E X cc nL Ts own) {b L : Nat} {xs : Nat → Int32} (hX : va_X b L xs X.1.2.2.1 X.1.2.2.1.heap) (hbl : b < X.1.2.2.1.heap.size) (hbA : ¬ X.2.1 b) {j : Nat} (hj : j < L) (hL : L < 2147483648) (d : decode cc pc = .ok (.iaload, 1)) (kk : gg E R nL X k n (pc + 1) ll (.int (xs j) :: rest) ws) : gg E R nL X k n pc ll (.int (nI j) :: .ref b :: rest) ws := fun H locs ls hP hD hS hl =>
  va_sld C.1 C.2.1 hX hbl hbA hS (vp_in_nI hj hL) d (by rw [nI_clamp (Nat.lt_trans hj hL)]; exact kk H locs ls hP hD hS hl)
theorem g_slenX (C : gx E X cc nL Ts own) {b L : Nat} {xs : Nat → Int32} (hX : va_X b L xs X.1.2.2.1 X.1.2.2.1.heap) (hbl : b < X.1.2.2.1.heap.size) (hbA : ¬ X.2.1 b) (d : decode cc pc = .ok (.arraylength, 1)) (kk : gg E R nL X k n (pc + 1) ll (.int (nI L) :: rest) ws) : gg E R nL X k n pc ll (.ref b :: rest) ws := fun H locs ls hP hD hS hl =>
  va_slen C.1 C.2.1 hX hbl hbA hS d (kk H locs ls hP hD hS hl)
theorem g_callVA (C : gx E X cc nL Ts own) {y : MethodName} {w w' : List Cond} {rm0 : Room} {As : List Value} {wc wr : va_W} {postc : Option Value → va_W → Prop} {bytes : ByteArray} {maxL idx b ci N : Nat} {rt : Option FieldType} {Cn : String} {fs : List Value} {T : u_T} (hM : MM E y w rm0 (.ref b :: As) wc postc) (hT : GoodIn Ts (wsV own idx Cn y w)) (hw : w = Cond.code y bytes maxL rt :: w') (cnt : Nat) (hd : y.cls = Cn ∧ y.cls ≠ "java/lang/invoke/MethodHandle" ∧ y.cls ≠ "java/lang/invoke/VarHandle" ∧ (parseMethodDescriptor y.desc).map (fun d => d.parameters.length) = some cnt) (hrm : okRm rm0) (hR : 1001 ≤ R.frames ∧ 8 + (maxL + 11) + 80000 ≤ R.locals) (hk : k ≤ R.cells ∧ n ≤ R.slots) (hb : (b, .inr (ci, fs)) ∈ wc) (hc : vwCl[ci]? = some (Cn, T, N)) (hp : ws.Perm (wc ++ wr)) (hn : As.length = cnt) (hst : st = As.reverse ++ .ref b :: rest) (hroom : (rest.map fun v => v.category).sum ≤ 8) (d : decode cc pc = .ok (.invokevirtual idx, 3))
    (kk : ∀ (v : Option Value) (u : va_W), postc v u → gg E R nL X k n (pc + 3) ll (v.toList ++ rest) (u ++ wr)) : gg E R nL X k n pc ll st ws := by
  obtain ⟨r1, r2, r3, r4⟩ := hrm
  refine gg.permP hp ?_
  obtain ⟨q0, he⟩ := List.getElem?_of_mem (List.mem_append_left wr hb)
  refine g_callV C hM hT hw cnt hd ⟨by omega, by omega⟩ ⟨by omega, by omega⟩ q0 he hc (List.range wc.length) (List.range' wc.length wr.length) (ix_l wc wr) (nd_of List.nodup_range) (ix_r wc wr) (nd_of List.nodup_range') (fun i hi hj => by
    have q1 := List.mem_range'_1.mp hi
    have q2 := List.mem_range.mp hj
    omega) hn hst hroom d (fun v u h => ?_)
  rw [r1, r2, Nat.add_zero, Nat.add_zero]
  exact gg.permP List.perm_append_comm (kk v u h)
end GL
set_option maxHeartbeats 4000000 in
set_option maxRecDepth 100000 in
theorem INV_elim {E : gE} {m h : Nat} {CW TW : va_W} {P : va_W → va_W → Prop} (H : ∀ (f0 f1 f2 f3 f4 f5 f6 f7 f8 f9 f10 a0 a1 a2 a3 a4 tb tk c0 c1 dr d0 d1 d2 d3 jb q0 q1 e0 e1 ob k0 k1 k2 k3 : Nat) (pg x0 x1 x2 gr : Nat → Nat) (cnt nr n cn dn du jh us : Nat) (fk fp ra rn : Int32) (nn : Nat → Nat) (W : List Int32) (ms sk pt t pl pb nl nb md ri ks ps ds dk dt dc jp w0 w1 w2 w3 w4 tr o bs bk st co : Nat → Int32) (sa ss ru : Nat → Nat → Int32) (ad : Nat → Nat) (iv : Nat → Int32) (ln : Nat) (ro ts tq fq sp g12 g13 g14 g15 pi lr ls o2 y1 y2 : Nat → Int32) (sn sy phl nml : Nat → Nat), inv cnt nr n W ms sk pt t pl nl md o bs bk st co dt ts tq fq sp o2 sn sy phl nml → P (CWf E m f0 f1 f2 f3 f4 f5 f6 f7 f8 f9 f10 a0 a1 a2 a3 a4 tb tk c0 c1 dr d0 d1 d2 d3 jb q0 q1 e0 e1 ob k0 k1 k2 k3 pg x0 x1 x2 gr cnt nr n cn dn du jh us fk fp ra rn nn W ms sk pt t pl pb nl nb md ri ks ps ds dk dt dc jp w0 w1 w2 w3 w4 tr o bs bk st co sa ss ru) (TWf E h ad iv cnt nr n ln fk fp W ms sk pt ro ts tq fq sp g12 g13 g14 g15 pi t lr ls pl pb nl nb o2 y1 y2)) (I : INV E m h CW TW) : P CW TW :=
  Exists.elim I fun f0 I => Exists.elim I fun f1 I => Exists.elim I fun f2 I => Exists.elim I fun f3 I => Exists.elim I fun f4 I => Exists.elim I fun f5 I => Exists.elim I fun f6 I => Exists.elim I fun f7 I => Exists.elim I fun f8 I => Exists.elim I fun f9 I => Exists.elim I fun f10 I => Exists.elim I fun a0 I => Exists.elim I fun a1 I => Exists.elim I fun a2 I => Exists.elim I fun a3 I => Exists.elim I fun a4 I => Exists.elim I fun tb I => Exists.elim I fun tk I => Exists.elim I fun c0 I => Exists.elim I fun c1 I => Exists.elim I fun dr I => Exists.elim I fun d0 I => Exists.elim I fun d1 I => Exists.elim I fun d2 I => Exists.elim I fun d3 I => Exists.elim I fun jb I => Exists.elim I fun q0 I => Exists.elim I fun q1 I => Exists.elim I fun e0 I => Exists.elim I fun e1 I => Exists.elim I fun ob I => Exists.elim I fun k0 I => Exists.elim I fun k1 I => Exists.elim I fun k2 I => Exists.elim I fun k3 I => Exists.elim I fun pg I => Exists.elim I fun x0 I => Exists.elim I fun x1 I => Exists.elim I fun x2 I => Exists.elim I fun gr I => Exists.elim I fun cnt I => Exists.elim I fun nr I => Exists.elim I fun n I => Exists.elim I fun cn I => Exists.elim I fun dn I => Exists.elim I fun du I => Exists.elim I fun jh I => Exists.elim I fun us I => Exists.elim I fun fk I => Exists.elim I fun fp I => Exists.elim I fun ra I => Exists.elim I fun rn I => Exists.elim I fun nn I => Exists.elim I fun W I => Exists.elim I fun ms I => Exists.elim I fun sk I => Exists.elim I fun pt I => Exists.elim I fun t I => Exists.elim I fun pl I => Exists.elim I fun pb I => Exists.elim I fun nl I => Exists.elim I fun nb I => Exists.elim I fun md I => Exists.elim I fun ri I => Exists.elim I fun ks I => Exists.elim I fun ps I => Exists.elim I fun ds I => Exists.elim I fun dk I => Exists.elim I fun dt I => Exists.elim I fun dc I => Exists.elim I fun jp I => Exists.elim I fun w0 I => Exists.elim I fun w1 I => Exists.elim I fun w2 I => Exists.elim I fun w3 I => Exists.elim I fun w4 I => Exists.elim I fun tr I => Exists.elim I fun o I => Exists.elim I fun bs I => Exists.elim I fun bk I => Exists.elim I fun st I => Exists.elim I fun co I => Exists.elim I fun sa I => Exists.elim I fun ss I => Exists.elim I fun ru I => Exists.elim I fun ad I => Exists.elim I fun iv I => Exists.elim I fun ln I => Exists.elim I fun ro I => Exists.elim I fun ts I => Exists.elim I fun tq I => Exists.elim I fun fq I => Exists.elim I fun sp I => Exists.elim I fun g12 I => Exists.elim I fun g13 I => Exists.elim I fun g14 I => Exists.elim I fun g15 I => Exists.elim I fun pi I => Exists.elim I fun lr I => Exists.elim I fun ls I => Exists.elim I fun o2 I => Exists.elim I fun y1 I => Exists.elim I fun y2 I => Exists.elim I fun sn I => Exists.elim I fun sy I => Exists.elim I fun phl I => Exists.elim I fun nml I =>
  by rw [I.1, I.2.1]; exact H f0 f1 f2 f3 f4 f5 f6 f7 f8 f9 f10 a0 a1 a2 a3 a4 tb tk c0 c1 dr d0 d1 d2 d3 jb q0 q1 e0 e1 ob k0 k1 k2 k3 pg x0 x1 x2 gr cnt nr n cn dn du jh us fk fp ra rn nn W ms sk pt t pl pb nl nb md ri ks ps ds dk dt dc jp w0 w1 w2 w3 w4 tr o bs bk st co sa ss ru ad iv ln ro ts tq fq sp g12 g13 g14 g15 pi lr ls o2 y1 y2 sn sy phl nml I.2.2
theorem INV_mem {E : gE} {m h : Nat} {CW TW : va_W} (I : INV E m h CW TW) : (∃ fs, (m, .inr (9, fs)) ∈ CW) ∧ (∃ fs, (h, .inr (10, fs)) ∈ TW) :=
  INV_elim (P := fun CW TW => (∃ fs, (m, .inr (9, fs)) ∈ CW) ∧ (∃ fs, (h, .inr (10, fs)) ∈ TW)) (fun _ _ _ _ _ _ _ _ _ _ _ _ _ _ _ _ _ _ _ _ _ _ _ _ _ _ _ _ _ _ _ _ _ _ _ _ _ _ _ _ _ _ _ _ _ _ _ _ _ _ _ _ _ _ _ _ _ _ _ _ _ _ _ _ _ _ _ _ _ _ _ _ _ _ _ _ _ _ _ _ _ _ _ _ _ _ _ _ _ _ _ _ _ _ _ _ _ _ _ _ _ _ _ _ _ _ _ _ => ⟨⟨_, List.Mem.head _⟩, ⟨_, List.Mem.head _⟩⟩) I
set_option maxHeartbeats 2000000 in
set_option maxRecDepth 100000 in
theorem Lc_question {E : gE} {X : gX} {b L x h i : Nat} {xs : Nat → Int32} {CW TW : va_W} (C : gx E X cL_law 4 wsL_law RL) (hX : va_X b L xs X.1.2.2.1 X.1.2.2.1.heap) (hbl : b < X.1.2.2.1.heap.size) (hbA : ¬ X.2.1 b) (hi : i + 6 ≤ L) (hL : L ≤ 3072) (I : INV E x h CW TW) (kk : ∀ CW2 TW2, INV E x h CW2 TW2 → gg E room_1 4 X 600000 7302250 667 [some (.ref b), some (.ref x), some (.ref h), some (.int (nI i))] [] (CW2 ++ TW2)) : gg E room_1 4 X 600000 7302250 116 [some (.ref b), some (.ref x), some (.ref h), some (.int (nI i))] [] (CW ++ TW) := by
  obtain ⟨⟨fs9, hm9⟩, ⟨fs10, hm10⟩⟩ := INV_mem I
  obtain ⟨rm, pC, hrm, hM, hT⟩ := INV_elim (P := fun CW TW => stp E yX9_question wsX9_question yX10_question wsX10_question [.int (xs (i + 1)), .int (xs (i + 2))] x h CW TW) (fun f0 f1 f2 f3 f4 f5 f6 f7 f8 f9 f10 a0 a1 a2 a3 a4 tb tk c0 c1 dr d0 d1 d2 d3 jb q0 q1 e0 e1 ob k0 k1 k2 k3 pg x0 x1 x2 gr cnt nr n cn dn du jh us fk fp ra rn nn W ms sk pt t pl pb nl nb md ri ks ps ds dk dt dc jp w0 w1 w2 w3 w4 tr o bs bk st co sa ss ru ad iv ln ro ts tq fq sp g12 g13 g14 g15 pi lr ls o2 y1 y2 sn sy phl nml J => S_question E x f0 f1 f2 f3 f4 f5 f6 f7 f8 f9 f10 a0 a1 a2 a3 a4 tb tk c0 c1 dr d0 d1 d2 d3 jb q0 q1 e0 e1 ob k0 k1 k2 k3 pg x0 x1 x2 gr cnt nr n cn dn du jh us fk fp ra rn nn W ms sk pt t pl pb nl nb md ri ks ps ds dk dt dc jp w0 w1 w2 w3 w4 tr o bs bk st co sa ss ru h ad iv ln ro ts tq fq sp g12 g13 g14 g15 pi lr ls o2 y1 y2 sn sy phl nml J (xs (i + 1)) (xs (i + 2))) I
  refine g_aload_n C dL_law_116 rfl ?_
  refine g_aload_n C dL_law_117 rfl ?_
  refine g_iload_n C dL_law_118 rfl ?_
  refine g_iconst (v := nI 1) C dL_law_119 (by decide) ?_
  refine g_iadd_n C dL_law_120 ?_
  refine g_sld C hX hbl hbA (j := i + 1) (by omega) (by omega) dL_law_121 ?_
  refine g_aload_n C dL_law_122 rfl ?_
  refine g_iload_n C dL_law_123 rfl ?_
  refine g_iconst (v := nI 2) C dL_law_124 (by decide) ?_
  refine g_iadd_n C dL_law_125 ?_
  refine g_sld C hX hbl hbA (j := i + 2) (by omega) (by omega) dL_law_126 ?_
  refine g_callVA C hM gL_law_X9_question rfl 2 (by decide +kernel) hrm ⟨by decide, by decide⟩ ⟨by decide, by decide⟩ hm9 rfl (List.Perm.refl _) rfl rfl (Nat.le_of_ble_eq_true rfl) dL_law_127 ?_
  intro v u hp
  obtain ⟨r, rm2, rfl, hrm2, hM2⟩ := hT v u hp
  show gg E _ 4 X 600000 7302250 130 [some (.ref b), some (.ref x), some (.ref h), some (.int (nI i))] [.int r] (u ++ _)
  refine g_aload_n C dL_law_130 rfl ?_
  refine g_aload_n C dL_law_131 rfl ?_
  refine g_iload_n C dL_law_132 rfl ?_
  refine g_iconst (v := nI 1) C dL_law_133 (by decide) ?_
  refine g_iadd_n C dL_law_134 ?_
  refine g_sld C hX hbl hbA (j := i + 1) (by omega) (by omega) dL_law_135 ?_
  refine g_aload_n C dL_law_136 rfl ?_
  refine g_iload_n C dL_law_137 rfl ?_
  refine g_iconst (v := nI 2) C dL_law_138 (by decide) ?_
  refine g_iadd_n C dL_law_139 ?_
  refine g_sld C hX hbl hbA (j := i + 2) (by omega) (by omega) dL_law_140 ?_
  refine g_callVA C hM2 gL_law_X10_question rfl 2 (by decide +kernel) hrm2 ⟨by decide, by decide⟩ ⟨by decide, by decide⟩ hm10 rfl List.perm_append_comm rfl rfl (Nat.le_of_ble_eq_true rfl) dL_law_141 ?_
  rintro v2 u2 ⟨rfl, hI2⟩
  show gg E _ 4 X 600000 7302250 144 [some (.ref b), some (.ref x), some (.ref h), some (.int (nI i))] [.int r, .int r] (u2 ++ u)
  exact g_icmp_eq (tgt := 667) C dL_law_144 (by decide) (fun _ => gg.permP List.perm_append_comm (kk u u2 hI2)) (fun c => absurd rfl c)

set_option maxHeartbeats 2000000 in
set_option maxRecDepth 100000 in
theorem Lc_mark {E : gE} {X : gX} {b L x h i : Nat} {xs : Nat → Int32} {CW TW : va_W} (C : gx E X cL_law 4 wsL_law RL) (hX : va_X b L xs X.1.2.2.1 X.1.2.2.1.heap) (hbl : b < X.1.2.2.1.heap.size) (hbA : ¬ X.2.1 b) (hi : i + 6 ≤ L) (hL : L ≤ 3072) (I : INV E x h CW TW) (kk : ∀ CW2 TW2, INV E x h CW2 TW2 → gg E room_1 4 X 600000 7302250 667 [some (.ref b), some (.ref x), some (.ref h), some (.int (nI i))] [] (CW2 ++ TW2)) : gg E room_1 4 X 600000 7302250 149 [some (.ref b), some (.ref x), some (.ref h), some (.int (nI i))] [] (CW ++ TW) := by
  obtain ⟨⟨fs9, hm9⟩, ⟨fs10, hm10⟩⟩ := INV_mem I
  obtain ⟨rm, pC, hrm, hM, hT⟩ := INV_elim (P := fun CW TW => stp E yX9_mark wsX9_mark yX10_mark wsX10_mark [.int (xs (i + 1)), .int (xs (i + 2)), .int (xs (i + 3))] x h CW TW) (fun f0 f1 f2 f3 f4 f5 f6 f7 f8 f9 f10 a0 a1 a2 a3 a4 tb tk c0 c1 dr d0 d1 d2 d3 jb q0 q1 e0 e1 ob k0 k1 k2 k3 pg x0 x1 x2 gr cnt nr n cn dn du jh us fk fp ra rn nn W ms sk pt t pl pb nl nb md ri ks ps ds dk dt dc jp w0 w1 w2 w3 w4 tr o bs bk st co sa ss ru ad iv ln ro ts tq fq sp g12 g13 g14 g15 pi lr ls o2 y1 y2 sn sy phl nml J => S_mark E x f0 f1 f2 f3 f4 f5 f6 f7 f8 f9 f10 a0 a1 a2 a3 a4 tb tk c0 c1 dr d0 d1 d2 d3 jb q0 q1 e0 e1 ob k0 k1 k2 k3 pg x0 x1 x2 gr cnt nr n cn dn du jh us fk fp ra rn nn W ms sk pt t pl pb nl nb md ri ks ps ds dk dt dc jp w0 w1 w2 w3 w4 tr o bs bk st co sa ss ru h ad iv ln ro ts tq fq sp g12 g13 g14 g15 pi lr ls o2 y1 y2 sn sy phl nml J (xs (i + 1)) (xs (i + 2)) (xs (i + 3))) I
  refine g_aload_n C dL_law_149 rfl ?_
  refine g_aload_n C dL_law_150 rfl ?_
  refine g_iload_n C dL_law_151 rfl ?_
  refine g_iconst (v := nI 1) C dL_law_152 (by decide) ?_
  refine g_iadd_n C dL_law_153 ?_
  refine g_sld C hX hbl hbA (j := i + 1) (by omega) (by omega) dL_law_154 ?_
  refine g_aload_n C dL_law_155 rfl ?_
  refine g_iload_n C dL_law_156 rfl ?_
  refine g_iconst (v := nI 2) C dL_law_157 (by decide) ?_
  refine g_iadd_n C dL_law_158 ?_
  refine g_sld C hX hbl hbA (j := i + 2) (by omega) (by omega) dL_law_159 ?_
  refine g_aload_n C dL_law_160 rfl ?_
  refine g_iload_n C dL_law_161 rfl ?_
  refine g_iconst (v := nI 3) C dL_law_162 (by decide) ?_
  refine g_iadd_n C dL_law_163 ?_
  refine g_sld C hX hbl hbA (j := i + 3) (by omega) (by omega) dL_law_164 ?_
  refine g_callVA C hM gL_law_X9_mark rfl 3 (by decide +kernel) hrm ⟨by decide, by decide⟩ ⟨by decide, by decide⟩ hm9 rfl (List.Perm.refl _) rfl rfl (Nat.le_of_ble_eq_true rfl) dL_law_165 ?_
  intro v u hp
  obtain ⟨r, rm2, rfl, hrm2, hM2⟩ := hT v u hp
  show gg E _ 4 X 600000 7302250 168 [some (.ref b), some (.ref x), some (.ref h), some (.int (nI i))] [.int r] (u ++ _)
  refine g_aload_n C dL_law_168 rfl ?_
  refine g_aload_n C dL_law_169 rfl ?_
  refine g_iload_n C dL_law_170 rfl ?_
  refine g_iconst (v := nI 1) C dL_law_171 (by decide) ?_
  refine g_iadd_n C dL_law_172 ?_
  refine g_sld C hX hbl hbA (j := i + 1) (by omega) (by omega) dL_law_173 ?_
  refine g_aload_n C dL_law_174 rfl ?_
  refine g_iload_n C dL_law_175 rfl ?_
  refine g_iconst (v := nI 2) C dL_law_176 (by decide) ?_
  refine g_iadd_n C dL_law_177 ?_
  refine g_sld C hX hbl hbA (j := i + 2) (by omega) (by omega) dL_law_178 ?_
  refine g_aload_n C dL_law_179 rfl ?_
  refine g_iload_n C dL_law_180 rfl ?_
  refine g_iconst (v := nI 3) C dL_law_181 (by decide) ?_
  refine g_iadd_n C dL_law_182 ?_
  refine g_sld C hX hbl hbA (j := i + 3) (by omega) (by omega) dL_law_183 ?_
  refine g_callVA C hM2 gL_law_X10_mark rfl 3 (by decide +kernel) hrm2 ⟨by decide, by decide⟩ ⟨by decide, by decide⟩ hm10 rfl List.perm_append_comm rfl rfl (Nat.le_of_ble_eq_true rfl) dL_law_184 ?_
  rintro v2 u2 ⟨rfl, hI2⟩
  show gg E _ 4 X 600000 7302250 187 [some (.ref b), some (.ref x), some (.ref h), some (.int (nI i))] [.int r, .int r] (u2 ++ u)
  exact g_icmp_eq (tgt := 667) C dL_law_187 (by decide) (fun _ => gg.permP List.perm_append_comm (kk u u2 hI2)) (fun c => absurd rfl c)

set_option maxHeartbeats 2000000 in
set_option maxRecDepth 100000 in
theorem Lc_of {E : gE} {X : gX} {b L x h i : Nat} {xs : Nat → Int32} {CW TW : va_W} (C : gx E X cL_law 4 wsL_law RL) (hX : va_X b L xs X.1.2.2.1 X.1.2.2.1.heap) (hbl : b < X.1.2.2.1.heap.size) (hbA : ¬ X.2.1 b) (hi : i + 6 ≤ L) (hL : L ≤ 3072) (I : INV E x h CW TW) (kk : ∀ CW2 TW2, INV E x h CW2 TW2 → gg E room_1 4 X 600000 7302250 667 [some (.ref b), some (.ref x), some (.ref h), some (.int (nI i))] [] (CW2 ++ TW2)) : gg E room_1 4 X 600000 7302250 192 [some (.ref b), some (.ref x), some (.ref h), some (.int (nI i))] [] (CW ++ TW) := by
  obtain ⟨⟨fs9, hm9⟩, ⟨fs10, hm10⟩⟩ := INV_mem I
  obtain ⟨rm, pC, hrm, hM, hT⟩ := INV_elim (P := fun CW TW => stp E yX9_of wsX9_of yX10_of wsX10_of [.int (xs (i + 1)), .int (xs (i + 2))] x h CW TW) (fun f0 f1 f2 f3 f4 f5 f6 f7 f8 f9 f10 a0 a1 a2 a3 a4 tb tk c0 c1 dr d0 d1 d2 d3 jb q0 q1 e0 e1 ob k0 k1 k2 k3 pg x0 x1 x2 gr cnt nr n cn dn du jh us fk fp ra rn nn W ms sk pt t pl pb nl nb md ri ks ps ds dk dt dc jp w0 w1 w2 w3 w4 tr o bs bk st co sa ss ru ad iv ln ro ts tq fq sp g12 g13 g14 g15 pi lr ls o2 y1 y2 sn sy phl nml J => S_of E x f0 f1 f2 f3 f4 f5 f6 f7 f8 f9 f10 a0 a1 a2 a3 a4 tb tk c0 c1 dr d0 d1 d2 d3 jb q0 q1 e0 e1 ob k0 k1 k2 k3 pg x0 x1 x2 gr cnt nr n cn dn du jh us fk fp ra rn nn W ms sk pt t pl pb nl nb md ri ks ps ds dk dt dc jp w0 w1 w2 w3 w4 tr o bs bk st co sa ss ru h ad iv ln ro ts tq fq sp g12 g13 g14 g15 pi lr ls o2 y1 y2 sn sy phl nml J (xs (i + 1)) (xs (i + 2))) I
  refine g_aload_n C dL_law_192 rfl ?_
  refine g_aload_n C dL_law_193 rfl ?_
  refine g_iload_n C dL_law_194 rfl ?_
  refine g_iconst (v := nI 1) C dL_law_195 (by decide) ?_
  refine g_iadd_n C dL_law_196 ?_
  refine g_sld C hX hbl hbA (j := i + 1) (by omega) (by omega) dL_law_197 ?_
  refine g_aload_n C dL_law_198 rfl ?_
  refine g_iload_n C dL_law_199 rfl ?_
  refine g_iconst (v := nI 2) C dL_law_200 (by decide) ?_
  refine g_iadd_n C dL_law_201 ?_
  refine g_sld C hX hbl hbA (j := i + 2) (by omega) (by omega) dL_law_202 ?_
  refine g_callVA C hM gL_law_X9_of rfl 2 (by decide +kernel) hrm ⟨by decide, by decide⟩ ⟨by decide, by decide⟩ hm9 rfl (List.Perm.refl _) rfl rfl (Nat.le_of_ble_eq_true rfl) dL_law_203 ?_
  intro v u hp
  obtain ⟨r, rm2, rfl, hrm2, hM2⟩ := hT v u hp
  show gg E _ 4 X 600000 7302250 206 [some (.ref b), some (.ref x), some (.ref h), some (.int (nI i))] [.int r] (u ++ _)
  refine g_aload_n C dL_law_206 rfl ?_
  refine g_aload_n C dL_law_207 rfl ?_
  refine g_iload_n C dL_law_208 rfl ?_
  refine g_iconst (v := nI 1) C dL_law_209 (by decide) ?_
  refine g_iadd_n C dL_law_210 ?_
  refine g_sld C hX hbl hbA (j := i + 1) (by omega) (by omega) dL_law_211 ?_
  refine g_aload_n C dL_law_212 rfl ?_
  refine g_iload_n C dL_law_213 rfl ?_
  refine g_iconst (v := nI 2) C dL_law_214 (by decide) ?_
  refine g_iadd_n C dL_law_215 ?_
  refine g_sld C hX hbl hbA (j := i + 2) (by omega) (by omega) dL_law_216 ?_
  refine g_callVA C hM2 gL_law_X10_of rfl 2 (by decide +kernel) hrm2 ⟨by decide, by decide⟩ ⟨by decide, by decide⟩ hm10 rfl List.perm_append_comm rfl rfl (Nat.le_of_ble_eq_true rfl) dL_law_217 ?_
  rintro v2 u2 ⟨rfl, hI2⟩
  show gg E _ 4 X 600000 7302250 220 [some (.ref b), some (.ref x), some (.ref h), some (.int (nI i))] [.int r, .int r] (u2 ++ u)
  exact g_icmp_eq (tgt := 667) C dL_law_220 (by decide) (fun _ => gg.permP List.perm_append_comm (kk u u2 hI2)) (fun c => absurd rfl c)

set_option maxHeartbeats 2000000 in
set_option maxRecDepth 100000 in
theorem Lc_got {E : gE} {X : gX} {b L x h i : Nat} {xs : Nat → Int32} {CW TW : va_W} (C : gx E X cL_law 4 wsL_law RL) (hX : va_X b L xs X.1.2.2.1 X.1.2.2.1.heap) (hbl : b < X.1.2.2.1.heap.size) (hbA : ¬ X.2.1 b) (hi : i + 6 ≤ L) (hL : L ≤ 3072) (I : INV E x h CW TW) (kk : ∀ CW2 TW2, INV E x h CW2 TW2 → gg E room_1 4 X 600000 7302250 667 [some (.ref b), some (.ref x), some (.ref h), some (.int (nI i))] [] (CW2 ++ TW2)) : gg E room_1 4 X 600000 7302250 225 [some (.ref b), some (.ref x), some (.ref h), some (.int (nI i))] [] (CW ++ TW) := by
  obtain ⟨⟨fs9, hm9⟩, ⟨fs10, hm10⟩⟩ := INV_mem I
  obtain ⟨rm, pC, hrm, hM, hT⟩ := INV_elim (P := fun CW TW => stp E yX9_got wsX9_got yX10_got wsX10_got [.int (xs (i + 1)), .int (xs (i + 2)), .int (xs (i + 3))] x h CW TW) (fun f0 f1 f2 f3 f4 f5 f6 f7 f8 f9 f10 a0 a1 a2 a3 a4 tb tk c0 c1 dr d0 d1 d2 d3 jb q0 q1 e0 e1 ob k0 k1 k2 k3 pg x0 x1 x2 gr cnt nr n cn dn du jh us fk fp ra rn nn W ms sk pt t pl pb nl nb md ri ks ps ds dk dt dc jp w0 w1 w2 w3 w4 tr o bs bk st co sa ss ru ad iv ln ro ts tq fq sp g12 g13 g14 g15 pi lr ls o2 y1 y2 sn sy phl nml J => S_got E x f0 f1 f2 f3 f4 f5 f6 f7 f8 f9 f10 a0 a1 a2 a3 a4 tb tk c0 c1 dr d0 d1 d2 d3 jb q0 q1 e0 e1 ob k0 k1 k2 k3 pg x0 x1 x2 gr cnt nr n cn dn du jh us fk fp ra rn nn W ms sk pt t pl pb nl nb md ri ks ps ds dk dt dc jp w0 w1 w2 w3 w4 tr o bs bk st co sa ss ru h ad iv ln ro ts tq fq sp g12 g13 g14 g15 pi lr ls o2 y1 y2 sn sy phl nml J (xs (i + 1)) (xs (i + 2)) (xs (i + 3))) I
  refine g_aload_n C dL_law_225 rfl ?_
  refine g_aload_n C dL_law_226 rfl ?_
  refine g_iload_n C dL_law_227 rfl ?_
  refine g_iconst (v := nI 1) C dL_law_228 (by decide) ?_
  refine g_iadd_n C dL_law_229 ?_
  refine g_sld C hX hbl hbA (j := i + 1) (by omega) (by omega) dL_law_230 ?_
  refine g_aload_n C dL_law_231 rfl ?_
  refine g_iload_n C dL_law_232 rfl ?_
  refine g_iconst (v := nI 2) C dL_law_233 (by decide) ?_
  refine g_iadd_n C dL_law_234 ?_
  refine g_sld C hX hbl hbA (j := i + 2) (by omega) (by omega) dL_law_235 ?_
  refine g_aload_n C dL_law_236 rfl ?_
  refine g_iload_n C dL_law_237 rfl ?_
  refine g_iconst (v := nI 3) C dL_law_238 (by decide) ?_
  refine g_iadd_n C dL_law_239 ?_
  refine g_sld C hX hbl hbA (j := i + 3) (by omega) (by omega) dL_law_240 ?_
  refine g_callVA C hM gL_law_X9_got rfl 3 (by decide +kernel) hrm ⟨by decide, by decide⟩ ⟨by decide, by decide⟩ hm9 rfl (List.Perm.refl _) rfl rfl (Nat.le_of_ble_eq_true rfl) dL_law_241 ?_
  intro v u hp
  obtain ⟨r, rm2, rfl, hrm2, hM2⟩ := hT v u hp
  show gg E _ 4 X 600000 7302250 244 [some (.ref b), some (.ref x), some (.ref h), some (.int (nI i))] [.int r] (u ++ _)
  refine g_aload_n C dL_law_244 rfl ?_
  refine g_aload_n C dL_law_245 rfl ?_
  refine g_iload_n C dL_law_246 rfl ?_
  refine g_iconst (v := nI 1) C dL_law_247 (by decide) ?_
  refine g_iadd_n C dL_law_248 ?_
  refine g_sld C hX hbl hbA (j := i + 1) (by omega) (by omega) dL_law_249 ?_
  refine g_aload_n C dL_law_250 rfl ?_
  refine g_iload_n C dL_law_251 rfl ?_
  refine g_iconst (v := nI 2) C dL_law_252 (by decide) ?_
  refine g_iadd_n C dL_law_253 ?_
  refine g_sld C hX hbl hbA (j := i + 2) (by omega) (by omega) dL_law_254 ?_
  refine g_aload_n C dL_law_255 rfl ?_
  refine g_iload_n C dL_law_256 rfl ?_
  refine g_iconst (v := nI 3) C dL_law_257 (by decide) ?_
  refine g_iadd_n C dL_law_258 ?_
  refine g_sld C hX hbl hbA (j := i + 3) (by omega) (by omega) dL_law_259 ?_
  refine g_callVA C hM2 gL_law_X10_got rfl 3 (by decide +kernel) hrm2 ⟨by decide, by decide⟩ ⟨by decide, by decide⟩ hm10 rfl List.perm_append_comm rfl rfl (Nat.le_of_ble_eq_true rfl) dL_law_260 ?_
  rintro v2 u2 ⟨rfl, hI2⟩
  show gg E _ 4 X 600000 7302250 263 [some (.ref b), some (.ref x), some (.ref h), some (.int (nI i))] [.int r, .int r] (u2 ++ u)
  exact g_icmp_eq (tgt := 667) C dL_law_263 (by decide) (fun _ => gg.permP List.perm_append_comm (kk u u2 hI2)) (fun c => absurd rfl c)

set_option maxHeartbeats 2000000 in
set_option maxRecDepth 100000 in
theorem Lc_feed {E : gE} {X : gX} {b L x h i : Nat} {xs : Nat → Int32} {CW TW : va_W} (C : gx E X cL_law 4 wsL_law RL) (hX : va_X b L xs X.1.2.2.1 X.1.2.2.1.heap) (hbl : b < X.1.2.2.1.heap.size) (hbA : ¬ X.2.1 b) (hi : i + 6 ≤ L) (hL : L ≤ 3072) (I : INV E x h CW TW) (kk : ∀ CW2 TW2, INV E x h CW2 TW2 → gg E room_1 4 X 600000 7302250 667 [some (.ref b), some (.ref x), some (.ref h), some (.int (nI i))] [] (CW2 ++ TW2)) : gg E room_1 4 X 600000 7302250 268 [some (.ref b), some (.ref x), some (.ref h), some (.int (nI i))] [] (CW ++ TW) := by
  obtain ⟨⟨fs9, hm9⟩, ⟨fs10, hm10⟩⟩ := INV_mem I
  obtain ⟨rm, pC, hrm, hM, hT⟩ := INV_elim (P := fun CW TW => stp E yX9_feed wsX9_feed yX10_feed wsX10_feed [.int (xs (i + 1)), .int (xs (i + 2)), .int (xs (i + 3)), .int (xs (i + 4)), .int (xs (i + 5))] x h CW TW) (fun f0 f1 f2 f3 f4 f5 f6 f7 f8 f9 f10 a0 a1 a2 a3 a4 tb tk c0 c1 dr d0 d1 d2 d3 jb q0 q1 e0 e1 ob k0 k1 k2 k3 pg x0 x1 x2 gr cnt nr n cn dn du jh us fk fp ra rn nn W ms sk pt t pl pb nl nb md ri ks ps ds dk dt dc jp w0 w1 w2 w3 w4 tr o bs bk st co sa ss ru ad iv ln ro ts tq fq sp g12 g13 g14 g15 pi lr ls o2 y1 y2 sn sy phl nml J => S_feed E x f0 f1 f2 f3 f4 f5 f6 f7 f8 f9 f10 a0 a1 a2 a3 a4 tb tk c0 c1 dr d0 d1 d2 d3 jb q0 q1 e0 e1 ob k0 k1 k2 k3 pg x0 x1 x2 gr cnt nr n cn dn du jh us fk fp ra rn nn W ms sk pt t pl pb nl nb md ri ks ps ds dk dt dc jp w0 w1 w2 w3 w4 tr o bs bk st co sa ss ru h ad iv ln ro ts tq fq sp g12 g13 g14 g15 pi lr ls o2 y1 y2 sn sy phl nml J (xs (i + 1)) (xs (i + 2)) (xs (i + 3)) (xs (i + 4)) (xs (i + 5))) I
  refine g_aload_n C dL_law_268 rfl ?_
  refine g_aload_n C dL_law_269 rfl ?_
  refine g_iload_n C dL_law_270 rfl ?_
  refine g_iconst (v := nI 1) C dL_law_271 (by decide) ?_
  refine g_iadd_n C dL_law_272 ?_
  refine g_sld C hX hbl hbA (j := i + 1) (by omega) (by omega) dL_law_273 ?_
  refine g_aload_n C dL_law_274 rfl ?_
  refine g_iload_n C dL_law_275 rfl ?_
  refine g_iconst (v := nI 2) C dL_law_276 (by decide) ?_
  refine g_iadd_n C dL_law_277 ?_
  refine g_sld C hX hbl hbA (j := i + 2) (by omega) (by omega) dL_law_278 ?_
  refine g_aload_n C dL_law_279 rfl ?_
  refine g_iload_n C dL_law_280 rfl ?_
  refine g_iconst (v := nI 3) C dL_law_281 (by decide) ?_
  refine g_iadd_n C dL_law_282 ?_
  refine g_sld C hX hbl hbA (j := i + 3) (by omega) (by omega) dL_law_283 ?_
  refine g_aload_n C dL_law_284 rfl ?_
  refine g_iload_n C dL_law_285 rfl ?_
  refine g_iconst (v := nI 4) C dL_law_286 (by decide) ?_
  refine g_iadd_n C dL_law_287 ?_
  refine g_sld C hX hbl hbA (j := i + 4) (by omega) (by omega) dL_law_288 ?_
  refine g_aload_n C dL_law_289 rfl ?_
  refine g_iload_n C dL_law_290 rfl ?_
  refine g_iconst (v := nI 5) C dL_law_291 (by decide) ?_
  refine g_iadd_n C dL_law_292 ?_
  refine g_sld C hX hbl hbA (j := i + 5) (by omega) (by omega) dL_law_293 ?_
  refine g_callVA C hM gL_law_X9_feed rfl 5 (by decide +kernel) hrm ⟨by decide, by decide⟩ ⟨by decide, by decide⟩ hm9 rfl (List.Perm.refl _) rfl rfl (Nat.le_of_ble_eq_true rfl) dL_law_294 ?_
  intro v u hp
  obtain ⟨r, rm2, rfl, hrm2, hM2⟩ := hT v u hp
  show gg E _ 4 X 600000 7302250 297 [some (.ref b), some (.ref x), some (.ref h), some (.int (nI i))] [.int r] (u ++ _)
  refine g_aload_n C dL_law_297 rfl ?_
  refine g_aload_n C dL_law_298 rfl ?_
  refine g_iload_n C dL_law_299 rfl ?_
  refine g_iconst (v := nI 1) C dL_law_300 (by decide) ?_
  refine g_iadd_n C dL_law_301 ?_
  refine g_sld C hX hbl hbA (j := i + 1) (by omega) (by omega) dL_law_302 ?_
  refine g_aload_n C dL_law_303 rfl ?_
  refine g_iload_n C dL_law_304 rfl ?_
  refine g_iconst (v := nI 2) C dL_law_305 (by decide) ?_
  refine g_iadd_n C dL_law_306 ?_
  refine g_sld C hX hbl hbA (j := i + 2) (by omega) (by omega) dL_law_307 ?_
  refine g_aload_n C dL_law_308 rfl ?_
  refine g_iload_n C dL_law_309 rfl ?_
  refine g_iconst (v := nI 3) C dL_law_310 (by decide) ?_
  refine g_iadd_n C dL_law_311 ?_
  refine g_sld C hX hbl hbA (j := i + 3) (by omega) (by omega) dL_law_312 ?_
  refine g_aload_n C dL_law_313 rfl ?_
  refine g_iload_n C dL_law_314 rfl ?_
  refine g_iconst (v := nI 4) C dL_law_315 (by decide) ?_
  refine g_iadd_n C dL_law_316 ?_
  refine g_sld C hX hbl hbA (j := i + 4) (by omega) (by omega) dL_law_317 ?_
  refine g_aload_n C dL_law_318 rfl ?_
  refine g_iload_n C dL_law_319 rfl ?_
  refine g_iconst (v := nI 5) C dL_law_320 (by decide) ?_
  refine g_iadd_n C dL_law_321 ?_
  refine g_sld C hX hbl hbA (j := i + 5) (by omega) (by omega) dL_law_322 ?_
  refine g_callVA C hM2 gL_law_X10_feed rfl 5 (by decide +kernel) hrm2 ⟨by decide, by decide⟩ ⟨by decide, by decide⟩ hm10 rfl List.perm_append_comm rfl rfl (Nat.le_of_ble_eq_true rfl) dL_law_323 ?_
  rintro v2 u2 ⟨rfl, hI2⟩
  show gg E _ 4 X 600000 7302250 326 [some (.ref b), some (.ref x), some (.ref h), some (.int (nI i))] [.int r, .int r] (u2 ++ u)
  exact g_icmp_eq (tgt := 667) C dL_law_326 (by decide) (fun _ => gg.permP List.perm_append_comm (kk u u2 hI2)) (fun c => absurd rfl c)

set_option maxHeartbeats 2000000 in
set_option maxRecDepth 100000 in
theorem Lc_end {E : gE} {X : gX} {b L x h i : Nat} {xs : Nat → Int32} {CW TW : va_W} (C : gx E X cL_law 4 wsL_law RL) (hX : va_X b L xs X.1.2.2.1 X.1.2.2.1.heap) (hbl : b < X.1.2.2.1.heap.size) (hbA : ¬ X.2.1 b) (hi : i + 6 ≤ L) (hL : L ≤ 3072) (I : INV E x h CW TW) (kk : ∀ CW2 TW2, INV E x h CW2 TW2 → gg E room_1 4 X 600000 7302250 667 [some (.ref b), some (.ref x), some (.ref h), some (.int (nI i))] [] (CW2 ++ TW2)) : gg E room_1 4 X 600000 7302250 331 [some (.ref b), some (.ref x), some (.ref h), some (.int (nI i))] [] (CW ++ TW) := by
  obtain ⟨⟨fs9, hm9⟩, ⟨fs10, hm10⟩⟩ := INV_mem I
  obtain ⟨rm, pC, hrm, hM, hT⟩ := INV_elim (P := fun CW TW => stp E yX9_end wsX9_end yX10_end wsX10_end [.int (xs (i + 1))] x h CW TW) (fun f0 f1 f2 f3 f4 f5 f6 f7 f8 f9 f10 a0 a1 a2 a3 a4 tb tk c0 c1 dr d0 d1 d2 d3 jb q0 q1 e0 e1 ob k0 k1 k2 k3 pg x0 x1 x2 gr cnt nr n cn dn du jh us fk fp ra rn nn W ms sk pt t pl pb nl nb md ri ks ps ds dk dt dc jp w0 w1 w2 w3 w4 tr o bs bk st co sa ss ru ad iv ln ro ts tq fq sp g12 g13 g14 g15 pi lr ls o2 y1 y2 sn sy phl nml J => S_end E x f0 f1 f2 f3 f4 f5 f6 f7 f8 f9 f10 a0 a1 a2 a3 a4 tb tk c0 c1 dr d0 d1 d2 d3 jb q0 q1 e0 e1 ob k0 k1 k2 k3 pg x0 x1 x2 gr cnt nr n cn dn du jh us fk fp ra rn nn W ms sk pt t pl pb nl nb md ri ks ps ds dk dt dc jp w0 w1 w2 w3 w4 tr o bs bk st co sa ss ru h ad iv ln ro ts tq fq sp g12 g13 g14 g15 pi lr ls o2 y1 y2 sn sy phl nml J (xs (i + 1))) I
  refine g_aload_n C dL_law_331 rfl ?_
  refine g_aload_n C dL_law_332 rfl ?_
  refine g_iload_n C dL_law_333 rfl ?_
  refine g_iconst (v := nI 1) C dL_law_334 (by decide) ?_
  refine g_iadd_n C dL_law_335 ?_
  refine g_sld C hX hbl hbA (j := i + 1) (by omega) (by omega) dL_law_336 ?_
  refine g_callVA C hM gL_law_X9_end rfl 1 (by decide +kernel) hrm ⟨by decide, by decide⟩ ⟨by decide, by decide⟩ hm9 rfl (List.Perm.refl _) rfl rfl (Nat.le_of_ble_eq_true rfl) dL_law_337 ?_
  intro v u hp
  obtain ⟨r, rm2, rfl, hrm2, hM2⟩ := hT v u hp
  show gg E _ 4 X 600000 7302250 340 [some (.ref b), some (.ref x), some (.ref h), some (.int (nI i))] [.int r] (u ++ _)
  refine g_aload_n C dL_law_340 rfl ?_
  refine g_aload_n C dL_law_341 rfl ?_
  refine g_iload_n C dL_law_342 rfl ?_
  refine g_iconst (v := nI 1) C dL_law_343 (by decide) ?_
  refine g_iadd_n C dL_law_344 ?_
  refine g_sld C hX hbl hbA (j := i + 1) (by omega) (by omega) dL_law_345 ?_
  refine g_callVA C hM2 gL_law_X10_end rfl 1 (by decide +kernel) hrm2 ⟨by decide, by decide⟩ ⟨by decide, by decide⟩ hm10 rfl List.perm_append_comm rfl rfl (Nat.le_of_ble_eq_true rfl) dL_law_346 ?_
  rintro v2 u2 ⟨rfl, hI2⟩
  show gg E _ 4 X 600000 7302250 349 [some (.ref b), some (.ref x), some (.ref h), some (.int (nI i))] [.int r, .int r] (u2 ++ u)
  exact g_icmp_eq (tgt := 667) C dL_law_349 (by decide) (fun _ => gg.permP List.perm_append_comm (kk u u2 hI2)) (fun c => absurd rfl c)

set_option maxHeartbeats 2000000 in
set_option maxRecDepth 100000 in
theorem Lc_rules {E : gE} {X : gX} {b L x h i : Nat} {xs : Nat → Int32} {CW TW : va_W} (C : gx E X cL_law 4 wsL_law RL) (hX : va_X b L xs X.1.2.2.1 X.1.2.2.1.heap) (hbl : b < X.1.2.2.1.heap.size) (hbA : ¬ X.2.1 b) (hi : i + 6 ≤ L) (hL : L ≤ 3072) (I : INV E x h CW TW) (kk : ∀ CW2 TW2, INV E x h CW2 TW2 → gg E room_1 4 X 600000 7302250 667 [some (.ref b), some (.ref x), some (.ref h), some (.int (nI i))] [] (CW2 ++ TW2)) : gg E room_1 4 X 600000 7302250 354 [some (.ref b), some (.ref x), some (.ref h), some (.int (nI i))] [] (CW ++ TW) := by
  obtain ⟨⟨fs9, hm9⟩, ⟨fs10, hm10⟩⟩ := INV_mem I
  obtain ⟨rm, pC, hrm, hM, hT⟩ := INV_elim (P := fun CW TW => stp E yX9_rules wsX9_rules yX10_rules wsX10_rules [] x h CW TW) (fun f0 f1 f2 f3 f4 f5 f6 f7 f8 f9 f10 a0 a1 a2 a3 a4 tb tk c0 c1 dr d0 d1 d2 d3 jb q0 q1 e0 e1 ob k0 k1 k2 k3 pg x0 x1 x2 gr cnt nr n cn dn du jh us fk fp ra rn nn W ms sk pt t pl pb nl nb md ri ks ps ds dk dt dc jp w0 w1 w2 w3 w4 tr o bs bk st co sa ss ru ad iv ln ro ts tq fq sp g12 g13 g14 g15 pi lr ls o2 y1 y2 sn sy phl nml J => S_rules E x f0 f1 f2 f3 f4 f5 f6 f7 f8 f9 f10 a0 a1 a2 a3 a4 tb tk c0 c1 dr d0 d1 d2 d3 jb q0 q1 e0 e1 ob k0 k1 k2 k3 pg x0 x1 x2 gr cnt nr n cn dn du jh us fk fp ra rn nn W ms sk pt t pl pb nl nb md ri ks ps ds dk dt dc jp w0 w1 w2 w3 w4 tr o bs bk st co sa ss ru h ad iv ln ro ts tq fq sp g12 g13 g14 g15 pi lr ls o2 y1 y2 sn sy phl nml J ) I
  refine g_aload_n C dL_law_354 rfl ?_
  refine g_callVA C hM gL_law_X9_rules rfl 0 (by decide +kernel) hrm ⟨by decide, by decide⟩ ⟨by decide, by decide⟩ hm9 rfl (List.Perm.refl _) rfl rfl (Nat.le_of_ble_eq_true rfl) dL_law_355 ?_
  intro v u hp
  obtain ⟨r, rm2, rfl, hrm2, hM2⟩ := hT v u hp
  show gg E _ 4 X 600000 7302250 358 [some (.ref b), some (.ref x), some (.ref h), some (.int (nI i))] [.int r] (u ++ _)
  refine g_aload_n C dL_law_358 rfl ?_
  refine g_callVA C hM2 gL_law_X10_rules rfl 0 (by decide +kernel) hrm2 ⟨by decide, by decide⟩ ⟨by decide, by decide⟩ hm10 rfl List.perm_append_comm rfl rfl (Nat.le_of_ble_eq_true rfl) dL_law_359 ?_
  rintro v2 u2 ⟨rfl, hI2⟩
  show gg E _ 4 X 600000 7302250 362 [some (.ref b), some (.ref x), some (.ref h), some (.int (nI i))] [.int r, .int r] (u2 ++ u)
  exact g_icmp_eq (tgt := 667) C dL_law_362 (by decide) (fun _ => gg.permP List.perm_append_comm (kk u u2 hI2)) (fun c => absurd rfl c)

set_option maxHeartbeats 2000000 in
set_option maxRecDepth 100000 in
theorem Lc_fault {E : gE} {X : gX} {b L x h i : Nat} {xs : Nat → Int32} {CW TW : va_W} (C : gx E X cL_law 4 wsL_law RL) (hX : va_X b L xs X.1.2.2.1 X.1.2.2.1.heap) (hbl : b < X.1.2.2.1.heap.size) (hbA : ¬ X.2.1 b) (hi : i + 6 ≤ L) (hL : L ≤ 3072) (I : INV E x h CW TW) (kk : ∀ CW2 TW2, INV E x h CW2 TW2 → gg E room_1 4 X 600000 7302250 667 [some (.ref b), some (.ref x), some (.ref h), some (.int (nI i))] [] (CW2 ++ TW2)) : gg E room_1 4 X 600000 7302250 367 [some (.ref b), some (.ref x), some (.ref h), some (.int (nI i))] [] (CW ++ TW) := by
  obtain ⟨⟨fs9, hm9⟩, ⟨fs10, hm10⟩⟩ := INV_mem I
  obtain ⟨rm, pC, hrm, hM, hT⟩ := INV_elim (P := fun CW TW => stp E yX9_fault wsX9_fault yX10_fault wsX10_fault [.int (xs (i + 1))] x h CW TW) (fun f0 f1 f2 f3 f4 f5 f6 f7 f8 f9 f10 a0 a1 a2 a3 a4 tb tk c0 c1 dr d0 d1 d2 d3 jb q0 q1 e0 e1 ob k0 k1 k2 k3 pg x0 x1 x2 gr cnt nr n cn dn du jh us fk fp ra rn nn W ms sk pt t pl pb nl nb md ri ks ps ds dk dt dc jp w0 w1 w2 w3 w4 tr o bs bk st co sa ss ru ad iv ln ro ts tq fq sp g12 g13 g14 g15 pi lr ls o2 y1 y2 sn sy phl nml J => S_fault E x f0 f1 f2 f3 f4 f5 f6 f7 f8 f9 f10 a0 a1 a2 a3 a4 tb tk c0 c1 dr d0 d1 d2 d3 jb q0 q1 e0 e1 ob k0 k1 k2 k3 pg x0 x1 x2 gr cnt nr n cn dn du jh us fk fp ra rn nn W ms sk pt t pl pb nl nb md ri ks ps ds dk dt dc jp w0 w1 w2 w3 w4 tr o bs bk st co sa ss ru h ad iv ln ro ts tq fq sp g12 g13 g14 g15 pi lr ls o2 y1 y2 sn sy phl nml J (xs (i + 1))) I
  refine g_aload_n C dL_law_367 rfl ?_
  refine g_aload_n C dL_law_368 rfl ?_
  refine g_iload_n C dL_law_369 rfl ?_
  refine g_iconst (v := nI 1) C dL_law_370 (by decide) ?_
  refine g_iadd_n C dL_law_371 ?_
  refine g_sld C hX hbl hbA (j := i + 1) (by omega) (by omega) dL_law_372 ?_
  refine g_callVA C hM gL_law_X9_fault rfl 1 (by decide +kernel) hrm ⟨by decide, by decide⟩ ⟨by decide, by decide⟩ hm9 rfl (List.Perm.refl _) rfl rfl (Nat.le_of_ble_eq_true rfl) dL_law_373 ?_
  intro v u hp
  obtain ⟨r, rm2, rfl, hrm2, hM2⟩ := hT v u hp
  show gg E _ 4 X 600000 7302250 376 [some (.ref b), some (.ref x), some (.ref h), some (.int (nI i))] [.int r] (u ++ _)
  refine g_aload_n C dL_law_376 rfl ?_
  refine g_aload_n C dL_law_377 rfl ?_
  refine g_iload_n C dL_law_378 rfl ?_
  refine g_iconst (v := nI 1) C dL_law_379 (by decide) ?_
  refine g_iadd_n C dL_law_380 ?_
  refine g_sld C hX hbl hbA (j := i + 1) (by omega) (by omega) dL_law_381 ?_
  refine g_callVA C hM2 gL_law_X10_fault rfl 1 (by decide +kernel) hrm2 ⟨by decide, by decide⟩ ⟨by decide, by decide⟩ hm10 rfl List.perm_append_comm rfl rfl (Nat.le_of_ble_eq_true rfl) dL_law_382 ?_
  rintro v2 u2 ⟨rfl, hI2⟩
  show gg E _ 4 X 600000 7302250 385 [some (.ref b), some (.ref x), some (.ref h), some (.int (nI i))] [.int r, .int r] (u2 ++ u)
  exact g_icmp_eq (tgt := 667) C dL_law_385 (by decide) (fun _ => gg.permP List.perm_append_comm (kk u u2 hI2)) (fun c => absurd rfl c)

set_option maxHeartbeats 2000000 in
set_option maxRecDepth 100000 in
theorem Lc_phrase {E : gE} {X : gX} {b L x h i : Nat} {xs : Nat → Int32} {CW TW : va_W} (C : gx E X cL_law 4 wsL_law RL) (hX : va_X b L xs X.1.2.2.1 X.1.2.2.1.heap) (hbl : b < X.1.2.2.1.heap.size) (hbA : ¬ X.2.1 b) (hi : i + 6 ≤ L) (hL : L ≤ 3072) (I : INV E x h CW TW) (kk : ∀ CW2 TW2, INV E x h CW2 TW2 → gg E room_1 4 X 600000 7302250 667 [some (.ref b), some (.ref x), some (.ref h), some (.int (nI i))] [] (CW2 ++ TW2)) : gg E room_1 4 X 600000 7302250 390 [some (.ref b), some (.ref x), some (.ref h), some (.int (nI i))] [] (CW ++ TW) := by
  obtain ⟨⟨fs9, hm9⟩, ⟨fs10, hm10⟩⟩ := INV_mem I
  obtain ⟨rm, pC, hrm, hM, hT⟩ := INV_elim (P := fun CW TW => stp E yX9_phrase wsX9_phrase yX10_phrase wsX10_phrase [.int (xs (i + 1)), .int (xs (i + 2))] x h CW TW) (fun f0 f1 f2 f3 f4 f5 f6 f7 f8 f9 f10 a0 a1 a2 a3 a4 tb tk c0 c1 dr d0 d1 d2 d3 jb q0 q1 e0 e1 ob k0 k1 k2 k3 pg x0 x1 x2 gr cnt nr n cn dn du jh us fk fp ra rn nn W ms sk pt t pl pb nl nb md ri ks ps ds dk dt dc jp w0 w1 w2 w3 w4 tr o bs bk st co sa ss ru ad iv ln ro ts tq fq sp g12 g13 g14 g15 pi lr ls o2 y1 y2 sn sy phl nml J => S_phrase E x f0 f1 f2 f3 f4 f5 f6 f7 f8 f9 f10 a0 a1 a2 a3 a4 tb tk c0 c1 dr d0 d1 d2 d3 jb q0 q1 e0 e1 ob k0 k1 k2 k3 pg x0 x1 x2 gr cnt nr n cn dn du jh us fk fp ra rn nn W ms sk pt t pl pb nl nb md ri ks ps ds dk dt dc jp w0 w1 w2 w3 w4 tr o bs bk st co sa ss ru h ad iv ln ro ts tq fq sp g12 g13 g14 g15 pi lr ls o2 y1 y2 sn sy phl nml J (xs (i + 1)) (xs (i + 2))) I
  refine g_aload_n C dL_law_390 rfl ?_
  refine g_aload_n C dL_law_391 rfl ?_
  refine g_iload_n C dL_law_392 rfl ?_
  refine g_iconst (v := nI 1) C dL_law_393 (by decide) ?_
  refine g_iadd_n C dL_law_394 ?_
  refine g_sld C hX hbl hbA (j := i + 1) (by omega) (by omega) dL_law_395 ?_
  refine g_aload_n C dL_law_396 rfl ?_
  refine g_iload_n C dL_law_397 rfl ?_
  refine g_iconst (v := nI 2) C dL_law_398 (by decide) ?_
  refine g_iadd_n C dL_law_399 ?_
  refine g_sld C hX hbl hbA (j := i + 2) (by omega) (by omega) dL_law_400 ?_
  refine g_callVA C hM gL_law_X9_phrase rfl 2 (by decide +kernel) hrm ⟨by decide, by decide⟩ ⟨by decide, by decide⟩ hm9 rfl (List.Perm.refl _) rfl rfl (Nat.le_of_ble_eq_true rfl) dL_law_401 ?_
  intro v u hp
  obtain ⟨r, rm2, rfl, hrm2, hM2⟩ := hT v u hp
  show gg E _ 4 X 600000 7302250 404 [some (.ref b), some (.ref x), some (.ref h), some (.int (nI i))] [.int r] (u ++ _)
  refine g_aload_n C dL_law_404 rfl ?_
  refine g_aload_n C dL_law_405 rfl ?_
  refine g_iload_n C dL_law_406 rfl ?_
  refine g_iconst (v := nI 1) C dL_law_407 (by decide) ?_
  refine g_iadd_n C dL_law_408 ?_
  refine g_sld C hX hbl hbA (j := i + 1) (by omega) (by omega) dL_law_409 ?_
  refine g_aload_n C dL_law_410 rfl ?_
  refine g_iload_n C dL_law_411 rfl ?_
  refine g_iconst (v := nI 2) C dL_law_412 (by decide) ?_
  refine g_iadd_n C dL_law_413 ?_
  refine g_sld C hX hbl hbA (j := i + 2) (by omega) (by omega) dL_law_414 ?_
  refine g_callVA C hM2 gL_law_X10_phrase rfl 2 (by decide +kernel) hrm2 ⟨by decide, by decide⟩ ⟨by decide, by decide⟩ hm10 rfl List.perm_append_comm rfl rfl (Nat.le_of_ble_eq_true rfl) dL_law_415 ?_
  rintro v2 u2 ⟨rfl, hI2⟩
  show gg E _ 4 X 600000 7302250 418 [some (.ref b), some (.ref x), some (.ref h), some (.int (nI i))] [.int r, .int r] (u2 ++ u)
  exact g_icmp_eq (tgt := 667) C dL_law_418 (by decide) (fun _ => gg.permP List.perm_append_comm (kk u u2 hI2)) (fun c => absurd rfl c)

set_option maxHeartbeats 2000000 in
set_option maxRecDepth 100000 in
theorem Lc_name {E : gE} {X : gX} {b L x h i : Nat} {xs : Nat → Int32} {CW TW : va_W} (C : gx E X cL_law 4 wsL_law RL) (hX : va_X b L xs X.1.2.2.1 X.1.2.2.1.heap) (hbl : b < X.1.2.2.1.heap.size) (hbA : ¬ X.2.1 b) (hi : i + 6 ≤ L) (hL : L ≤ 3072) (I : INV E x h CW TW) (kk : ∀ CW2 TW2, INV E x h CW2 TW2 → gg E room_1 4 X 600000 7302250 667 [some (.ref b), some (.ref x), some (.ref h), some (.int (nI i))] [] (CW2 ++ TW2)) : gg E room_1 4 X 600000 7302250 423 [some (.ref b), some (.ref x), some (.ref h), some (.int (nI i))] [] (CW ++ TW) := by
  obtain ⟨⟨fs9, hm9⟩, ⟨fs10, hm10⟩⟩ := INV_mem I
  obtain ⟨rm, pC, hrm, hM, hT⟩ := INV_elim (P := fun CW TW => stp E yX9_name wsX9_name yX10_name wsX10_name [.int (xs (i + 1)), .int (xs (i + 2))] x h CW TW) (fun f0 f1 f2 f3 f4 f5 f6 f7 f8 f9 f10 a0 a1 a2 a3 a4 tb tk c0 c1 dr d0 d1 d2 d3 jb q0 q1 e0 e1 ob k0 k1 k2 k3 pg x0 x1 x2 gr cnt nr n cn dn du jh us fk fp ra rn nn W ms sk pt t pl pb nl nb md ri ks ps ds dk dt dc jp w0 w1 w2 w3 w4 tr o bs bk st co sa ss ru ad iv ln ro ts tq fq sp g12 g13 g14 g15 pi lr ls o2 y1 y2 sn sy phl nml J => S_name E x f0 f1 f2 f3 f4 f5 f6 f7 f8 f9 f10 a0 a1 a2 a3 a4 tb tk c0 c1 dr d0 d1 d2 d3 jb q0 q1 e0 e1 ob k0 k1 k2 k3 pg x0 x1 x2 gr cnt nr n cn dn du jh us fk fp ra rn nn W ms sk pt t pl pb nl nb md ri ks ps ds dk dt dc jp w0 w1 w2 w3 w4 tr o bs bk st co sa ss ru h ad iv ln ro ts tq fq sp g12 g13 g14 g15 pi lr ls o2 y1 y2 sn sy phl nml J (xs (i + 1)) (xs (i + 2))) I
  refine g_aload_n C dL_law_423 rfl ?_
  refine g_aload_n C dL_law_424 rfl ?_
  refine g_iload_n C dL_law_425 rfl ?_
  refine g_iconst (v := nI 1) C dL_law_426 (by decide) ?_
  refine g_iadd_n C dL_law_427 ?_
  refine g_sld C hX hbl hbA (j := i + 1) (by omega) (by omega) dL_law_428 ?_
  refine g_aload_n C dL_law_429 rfl ?_
  refine g_iload_n C dL_law_430 rfl ?_
  refine g_iconst (v := nI 2) C dL_law_431 (by decide) ?_
  refine g_iadd_n C dL_law_432 ?_
  refine g_sld C hX hbl hbA (j := i + 2) (by omega) (by omega) dL_law_433 ?_
  refine g_callVA C hM gL_law_X9_name rfl 2 (by decide +kernel) hrm ⟨by decide, by decide⟩ ⟨by decide, by decide⟩ hm9 rfl (List.Perm.refl _) rfl rfl (Nat.le_of_ble_eq_true rfl) dL_law_434 ?_
  intro v u hp
  obtain ⟨r, rm2, rfl, hrm2, hM2⟩ := hT v u hp
  show gg E _ 4 X 600000 7302250 437 [some (.ref b), some (.ref x), some (.ref h), some (.int (nI i))] [.int r] (u ++ _)
  refine g_aload_n C dL_law_437 rfl ?_
  refine g_aload_n C dL_law_438 rfl ?_
  refine g_iload_n C dL_law_439 rfl ?_
  refine g_iconst (v := nI 1) C dL_law_440 (by decide) ?_
  refine g_iadd_n C dL_law_441 ?_
  refine g_sld C hX hbl hbA (j := i + 1) (by omega) (by omega) dL_law_442 ?_
  refine g_aload_n C dL_law_443 rfl ?_
  refine g_iload_n C dL_law_444 rfl ?_
  refine g_iconst (v := nI 2) C dL_law_445 (by decide) ?_
  refine g_iadd_n C dL_law_446 ?_
  refine g_sld C hX hbl hbA (j := i + 2) (by omega) (by omega) dL_law_447 ?_
  refine g_callVA C hM2 gL_law_X10_name rfl 2 (by decide +kernel) hrm2 ⟨by decide, by decide⟩ ⟨by decide, by decide⟩ hm10 rfl List.perm_append_comm rfl rfl (Nat.le_of_ble_eq_true rfl) dL_law_448 ?_
  rintro v2 u2 ⟨rfl, hI2⟩
  show gg E _ 4 X 600000 7302250 451 [some (.ref b), some (.ref x), some (.ref h), some (.int (nI i))] [.int r, .int r] (u2 ++ u)
  exact g_icmp_eq (tgt := 667) C dL_law_451 (by decide) (fun _ => gg.permP List.perm_append_comm (kk u u2 hI2)) (fun c => absurd rfl c)

set_option maxHeartbeats 2000000 in
set_option maxRecDepth 100000 in
theorem Lc_page {E : gE} {X : gX} {b L x h i : Nat} {xs : Nat → Int32} {CW TW : va_W} (C : gx E X cL_law 4 wsL_law RL) (hX : va_X b L xs X.1.2.2.1 X.1.2.2.1.heap) (hbl : b < X.1.2.2.1.heap.size) (hbA : ¬ X.2.1 b) (hi : i + 6 ≤ L) (hL : L ≤ 3072) (I : INV E x h CW TW) (kk : ∀ CW2 TW2, INV E x h CW2 TW2 → gg E room_1 4 X 600000 7302250 667 [some (.ref b), some (.ref x), some (.ref h), some (.int (nI i))] [] (CW2 ++ TW2)) : gg E room_1 4 X 600000 7302250 456 [some (.ref b), some (.ref x), some (.ref h), some (.int (nI i))] [] (CW ++ TW) := by
  obtain ⟨⟨fs9, hm9⟩, ⟨fs10, hm10⟩⟩ := INV_mem I
  obtain ⟨rm, pC, hrm, hM, hT⟩ := INV_elim (P := fun CW TW => stp E yX9_page wsX9_page yX10_page wsX10_page [.int (xs (i + 1))] x h CW TW) (fun f0 f1 f2 f3 f4 f5 f6 f7 f8 f9 f10 a0 a1 a2 a3 a4 tb tk c0 c1 dr d0 d1 d2 d3 jb q0 q1 e0 e1 ob k0 k1 k2 k3 pg x0 x1 x2 gr cnt nr n cn dn du jh us fk fp ra rn nn W ms sk pt t pl pb nl nb md ri ks ps ds dk dt dc jp w0 w1 w2 w3 w4 tr o bs bk st co sa ss ru ad iv ln ro ts tq fq sp g12 g13 g14 g15 pi lr ls o2 y1 y2 sn sy phl nml J => S_page E x f0 f1 f2 f3 f4 f5 f6 f7 f8 f9 f10 a0 a1 a2 a3 a4 tb tk c0 c1 dr d0 d1 d2 d3 jb q0 q1 e0 e1 ob k0 k1 k2 k3 pg x0 x1 x2 gr cnt nr n cn dn du jh us fk fp ra rn nn W ms sk pt t pl pb nl nb md ri ks ps ds dk dt dc jp w0 w1 w2 w3 w4 tr o bs bk st co sa ss ru h ad iv ln ro ts tq fq sp g12 g13 g14 g15 pi lr ls o2 y1 y2 sn sy phl nml J (xs (i + 1))) I
  refine g_aload_n C dL_law_456 rfl ?_
  refine g_aload_n C dL_law_457 rfl ?_
  refine g_iload_n C dL_law_458 rfl ?_
  refine g_iconst (v := nI 1) C dL_law_459 (by decide) ?_
  refine g_iadd_n C dL_law_460 ?_
  refine g_sld C hX hbl hbA (j := i + 1) (by omega) (by omega) dL_law_461 ?_
  refine g_callVA C hM gL_law_X9_page rfl 1 (by decide +kernel) hrm ⟨by decide, by decide⟩ ⟨by decide, by decide⟩ hm9 rfl (List.Perm.refl _) rfl rfl (Nat.le_of_ble_eq_true rfl) dL_law_462 ?_
  intro v u hp
  obtain ⟨r, rm2, rfl, hrm2, hM2⟩ := hT v u hp
  show gg E _ 4 X 600000 7302250 465 [some (.ref b), some (.ref x), some (.ref h), some (.int (nI i))] [.int r] (u ++ _)
  refine g_aload_n C dL_law_465 rfl ?_
  refine g_aload_n C dL_law_466 rfl ?_
  refine g_iload_n C dL_law_467 rfl ?_
  refine g_iconst (v := nI 1) C dL_law_468 (by decide) ?_
  refine g_iadd_n C dL_law_469 ?_
  refine g_sld C hX hbl hbA (j := i + 1) (by omega) (by omega) dL_law_470 ?_
  refine g_callVA C hM2 gL_law_X10_page rfl 1 (by decide +kernel) hrm2 ⟨by decide, by decide⟩ ⟨by decide, by decide⟩ hm10 rfl List.perm_append_comm rfl rfl (Nat.le_of_ble_eq_true rfl) dL_law_471 ?_
  rintro v2 u2 ⟨rfl, hI2⟩
  show gg E _ 4 X 600000 7302250 474 [some (.ref b), some (.ref x), some (.ref h), some (.int (nI i))] [.int r, .int r] (u2 ++ u)
  exact g_icmp_eq (tgt := 667) C dL_law_474 (by decide) (fun _ => gg.permP List.perm_append_comm (kk u u2 hI2)) (fun c => absurd rfl c)

set_option maxHeartbeats 2000000 in
set_option maxRecDepth 100000 in
theorem Lc_line {E : gE} {X : gX} {b L x h i : Nat} {xs : Nat → Int32} {CW TW : va_W} (C : gx E X cL_law 4 wsL_law RL) (hX : va_X b L xs X.1.2.2.1 X.1.2.2.1.heap) (hbl : b < X.1.2.2.1.heap.size) (hbA : ¬ X.2.1 b) (hi : i + 6 ≤ L) (hL : L ≤ 3072) (I : INV E x h CW TW) (kk : ∀ CW2 TW2, INV E x h CW2 TW2 → gg E room_1 4 X 600000 7302250 667 [some (.ref b), some (.ref x), some (.ref h), some (.int (nI i))] [] (CW2 ++ TW2)) : gg E room_1 4 X 600000 7302250 479 [some (.ref b), some (.ref x), some (.ref h), some (.int (nI i))] [] (CW ++ TW) := by
  obtain ⟨⟨fs9, hm9⟩, ⟨fs10, hm10⟩⟩ := INV_mem I
  obtain ⟨rm, pC, hrm, hM, hT⟩ := INV_elim (P := fun CW TW => stp E yX9_line wsX9_line yX10_line wsX10_line [.int (xs (i + 1)), .int (xs (i + 2)), .int (xs (i + 3))] x h CW TW) (fun f0 f1 f2 f3 f4 f5 f6 f7 f8 f9 f10 a0 a1 a2 a3 a4 tb tk c0 c1 dr d0 d1 d2 d3 jb q0 q1 e0 e1 ob k0 k1 k2 k3 pg x0 x1 x2 gr cnt nr n cn dn du jh us fk fp ra rn nn W ms sk pt t pl pb nl nb md ri ks ps ds dk dt dc jp w0 w1 w2 w3 w4 tr o bs bk st co sa ss ru ad iv ln ro ts tq fq sp g12 g13 g14 g15 pi lr ls o2 y1 y2 sn sy phl nml J => S_line E x f0 f1 f2 f3 f4 f5 f6 f7 f8 f9 f10 a0 a1 a2 a3 a4 tb tk c0 c1 dr d0 d1 d2 d3 jb q0 q1 e0 e1 ob k0 k1 k2 k3 pg x0 x1 x2 gr cnt nr n cn dn du jh us fk fp ra rn nn W ms sk pt t pl pb nl nb md ri ks ps ds dk dt dc jp w0 w1 w2 w3 w4 tr o bs bk st co sa ss ru h ad iv ln ro ts tq fq sp g12 g13 g14 g15 pi lr ls o2 y1 y2 sn sy phl nml J (xs (i + 1)) (xs (i + 2)) (xs (i + 3))) I
  refine g_aload_n C dL_law_479 rfl ?_
  refine g_aload_n C dL_law_480 rfl ?_
  refine g_iload_n C dL_law_481 rfl ?_
  refine g_iconst (v := nI 1) C dL_law_482 (by decide) ?_
  refine g_iadd_n C dL_law_483 ?_
  refine g_sld C hX hbl hbA (j := i + 1) (by omega) (by omega) dL_law_484 ?_
  refine g_aload_n C dL_law_485 rfl ?_
  refine g_iload_n C dL_law_486 rfl ?_
  refine g_iconst (v := nI 2) C dL_law_487 (by decide) ?_
  refine g_iadd_n C dL_law_488 ?_
  refine g_sld C hX hbl hbA (j := i + 2) (by omega) (by omega) dL_law_489 ?_
  refine g_aload_n C dL_law_490 rfl ?_
  refine g_iload_n C dL_law_491 rfl ?_
  refine g_iconst (v := nI 3) C dL_law_492 (by decide) ?_
  refine g_iadd_n C dL_law_493 ?_
  refine g_sld C hX hbl hbA (j := i + 3) (by omega) (by omega) dL_law_494 ?_
  refine g_callVA C hM gL_law_X9_line rfl 3 (by decide +kernel) hrm ⟨by decide, by decide⟩ ⟨by decide, by decide⟩ hm9 rfl (List.Perm.refl _) rfl rfl (Nat.le_of_ble_eq_true rfl) dL_law_495 ?_
  intro v u hp
  obtain ⟨r, rm2, rfl, hrm2, hM2⟩ := hT v u hp
  show gg E _ 4 X 600000 7302250 498 [some (.ref b), some (.ref x), some (.ref h), some (.int (nI i))] [.int r] (u ++ _)
  refine g_aload_n C dL_law_498 rfl ?_
  refine g_aload_n C dL_law_499 rfl ?_
  refine g_iload_n C dL_law_500 rfl ?_
  refine g_iconst (v := nI 1) C dL_law_501 (by decide) ?_
  refine g_iadd_n C dL_law_502 ?_
  refine g_sld C hX hbl hbA (j := i + 1) (by omega) (by omega) dL_law_503 ?_
  refine g_aload_n C dL_law_504 rfl ?_
  refine g_iload_n C dL_law_505 rfl ?_
  refine g_iconst (v := nI 2) C dL_law_506 (by decide) ?_
  refine g_iadd_n C dL_law_507 ?_
  refine g_sld C hX hbl hbA (j := i + 2) (by omega) (by omega) dL_law_508 ?_
  refine g_aload_n C dL_law_509 rfl ?_
  refine g_iload_n C dL_law_510 rfl ?_
  refine g_iconst (v := nI 3) C dL_law_511 (by decide) ?_
  refine g_iadd_n C dL_law_512 ?_
  refine g_sld C hX hbl hbA (j := i + 3) (by omega) (by omega) dL_law_513 ?_
  refine g_callVA C hM2 gL_law_X10_line rfl 3 (by decide +kernel) hrm2 ⟨by decide, by decide⟩ ⟨by decide, by decide⟩ hm10 rfl List.perm_append_comm rfl rfl (Nat.le_of_ble_eq_true rfl) dL_law_514 ?_
  rintro v2 u2 ⟨rfl, hI2⟩
  show gg E _ 4 X 600000 7302250 517 [some (.ref b), some (.ref x), some (.ref h), some (.int (nI i))] [.int r, .int r] (u2 ++ u)
  exact g_icmp_eq (tgt := 667) C dL_law_517 (by decide) (fun _ => gg.permP List.perm_append_comm (kk u u2 hI2)) (fun c => absurd rfl c)

set_option maxHeartbeats 2000000 in
set_option maxRecDepth 100000 in
theorem Lc_write {E : gE} {X : gX} {b L x h i : Nat} {xs : Nat → Int32} {CW TW : va_W} (C : gx E X cL_law 4 wsL_law RL) (hX : va_X b L xs X.1.2.2.1 X.1.2.2.1.heap) (hbl : b < X.1.2.2.1.heap.size) (hbA : ¬ X.2.1 b) (hi : i + 6 ≤ L) (hL : L ≤ 3072) (I : INV E x h CW TW) (kk : ∀ CW2 TW2, INV E x h CW2 TW2 → gg E room_1 4 X 600000 7302250 667 [some (.ref b), some (.ref x), some (.ref h), some (.int (nI i))] [] (CW2 ++ TW2)) : gg E room_1 4 X 600000 7302250 522 [some (.ref b), some (.ref x), some (.ref h), some (.int (nI i))] [] (CW ++ TW) := by
  obtain ⟨⟨fs9, hm9⟩, ⟨fs10, hm10⟩⟩ := INV_mem I
  obtain ⟨rm, pC, hrm, hM, hT⟩ := INV_elim (P := fun CW TW => stp E yX9_write wsX9_write yX10_write wsX10_write [.int (xs (i + 1)), .int (xs (i + 2))] x h CW TW) (fun f0 f1 f2 f3 f4 f5 f6 f7 f8 f9 f10 a0 a1 a2 a3 a4 tb tk c0 c1 dr d0 d1 d2 d3 jb q0 q1 e0 e1 ob k0 k1 k2 k3 pg x0 x1 x2 gr cnt nr n cn dn du jh us fk fp ra rn nn W ms sk pt t pl pb nl nb md ri ks ps ds dk dt dc jp w0 w1 w2 w3 w4 tr o bs bk st co sa ss ru ad iv ln ro ts tq fq sp g12 g13 g14 g15 pi lr ls o2 y1 y2 sn sy phl nml J => S_write E x f0 f1 f2 f3 f4 f5 f6 f7 f8 f9 f10 a0 a1 a2 a3 a4 tb tk c0 c1 dr d0 d1 d2 d3 jb q0 q1 e0 e1 ob k0 k1 k2 k3 pg x0 x1 x2 gr cnt nr n cn dn du jh us fk fp ra rn nn W ms sk pt t pl pb nl nb md ri ks ps ds dk dt dc jp w0 w1 w2 w3 w4 tr o bs bk st co sa ss ru h ad iv ln ro ts tq fq sp g12 g13 g14 g15 pi lr ls o2 y1 y2 sn sy phl nml J (xs (i + 1)) (xs (i + 2))) I
  refine g_aload_n C dL_law_522 rfl ?_
  refine g_aload_n C dL_law_523 rfl ?_
  refine g_iload_n C dL_law_524 rfl ?_
  refine g_iconst (v := nI 1) C dL_law_525 (by decide) ?_
  refine g_iadd_n C dL_law_526 ?_
  refine g_sld C hX hbl hbA (j := i + 1) (by omega) (by omega) dL_law_527 ?_
  refine g_aload_n C dL_law_528 rfl ?_
  refine g_iload_n C dL_law_529 rfl ?_
  refine g_iconst (v := nI 2) C dL_law_530 (by decide) ?_
  refine g_iadd_n C dL_law_531 ?_
  refine g_sld C hX hbl hbA (j := i + 2) (by omega) (by omega) dL_law_532 ?_
  refine g_callVA C hM gL_law_X9_write rfl 2 (by decide +kernel) hrm ⟨by decide, by decide⟩ ⟨by decide, by decide⟩ hm9 rfl (List.Perm.refl _) rfl rfl (Nat.le_of_ble_eq_true rfl) dL_law_533 ?_
  intro v u hp
  obtain ⟨r, rm2, rfl, hrm2, hM2⟩ := hT v u hp
  show gg E _ 4 X 600000 7302250 536 [some (.ref b), some (.ref x), some (.ref h), some (.int (nI i))] [.int r] (u ++ _)
  refine g_aload_n C dL_law_536 rfl ?_
  refine g_aload_n C dL_law_537 rfl ?_
  refine g_iload_n C dL_law_538 rfl ?_
  refine g_iconst (v := nI 1) C dL_law_539 (by decide) ?_
  refine g_iadd_n C dL_law_540 ?_
  refine g_sld C hX hbl hbA (j := i + 1) (by omega) (by omega) dL_law_541 ?_
  refine g_aload_n C dL_law_542 rfl ?_
  refine g_iload_n C dL_law_543 rfl ?_
  refine g_iconst (v := nI 2) C dL_law_544 (by decide) ?_
  refine g_iadd_n C dL_law_545 ?_
  refine g_sld C hX hbl hbA (j := i + 2) (by omega) (by omega) dL_law_546 ?_
  refine g_callVA C hM2 gL_law_X10_write rfl 2 (by decide +kernel) hrm2 ⟨by decide, by decide⟩ ⟨by decide, by decide⟩ hm10 rfl List.perm_append_comm rfl rfl (Nat.le_of_ble_eq_true rfl) dL_law_547 ?_
  rintro v2 u2 ⟨rfl, hI2⟩
  show gg E _ 4 X 600000 7302250 550 [some (.ref b), some (.ref x), some (.ref h), some (.int (nI i))] [.int r, .int r] (u2 ++ u)
  exact g_icmp_eq (tgt := 667) C dL_law_550 (by decide) (fun _ => gg.permP List.perm_append_comm (kk u u2 hI2)) (fun c => absurd rfl c)

set_option maxHeartbeats 2000000 in
set_option maxRecDepth 100000 in
theorem Lc_out {E : gE} {X : gX} {b L x h i : Nat} {xs : Nat → Int32} {CW TW : va_W} (C : gx E X cL_law 4 wsL_law RL) (hX : va_X b L xs X.1.2.2.1 X.1.2.2.1.heap) (hbl : b < X.1.2.2.1.heap.size) (hbA : ¬ X.2.1 b) (hi : i + 6 ≤ L) (hL : L ≤ 3072) (I : INV E x h CW TW) (kk : ∀ CW2 TW2, INV E x h CW2 TW2 → gg E room_1 4 X 600000 7302250 667 [some (.ref b), some (.ref x), some (.ref h), some (.int (nI i))] [] (CW2 ++ TW2)) : gg E room_1 4 X 600000 7302250 555 [some (.ref b), some (.ref x), some (.ref h), some (.int (nI i))] [] (CW ++ TW) := by
  obtain ⟨⟨fs9, hm9⟩, ⟨fs10, hm10⟩⟩ := INV_mem I
  obtain ⟨rm, pC, hrm, hM, hT⟩ := INV_elim (P := fun CW TW => stp E yX9_out wsX9_out yX10_out wsX10_out [.int (xs (i + 1))] x h CW TW) (fun f0 f1 f2 f3 f4 f5 f6 f7 f8 f9 f10 a0 a1 a2 a3 a4 tb tk c0 c1 dr d0 d1 d2 d3 jb q0 q1 e0 e1 ob k0 k1 k2 k3 pg x0 x1 x2 gr cnt nr n cn dn du jh us fk fp ra rn nn W ms sk pt t pl pb nl nb md ri ks ps ds dk dt dc jp w0 w1 w2 w3 w4 tr o bs bk st co sa ss ru ad iv ln ro ts tq fq sp g12 g13 g14 g15 pi lr ls o2 y1 y2 sn sy phl nml J => S_out E x f0 f1 f2 f3 f4 f5 f6 f7 f8 f9 f10 a0 a1 a2 a3 a4 tb tk c0 c1 dr d0 d1 d2 d3 jb q0 q1 e0 e1 ob k0 k1 k2 k3 pg x0 x1 x2 gr cnt nr n cn dn du jh us fk fp ra rn nn W ms sk pt t pl pb nl nb md ri ks ps ds dk dt dc jp w0 w1 w2 w3 w4 tr o bs bk st co sa ss ru h ad iv ln ro ts tq fq sp g12 g13 g14 g15 pi lr ls o2 y1 y2 sn sy phl nml J (xs (i + 1))) I
  refine g_aload_n C dL_law_555 rfl ?_
  refine g_aload_n C dL_law_556 rfl ?_
  refine g_iload_n C dL_law_557 rfl ?_
  refine g_iconst (v := nI 1) C dL_law_558 (by decide) ?_
  refine g_iadd_n C dL_law_559 ?_
  refine g_sld C hX hbl hbA (j := i + 1) (by omega) (by omega) dL_law_560 ?_
  refine g_callVA C hM gL_law_X9_out rfl 1 (by decide +kernel) hrm ⟨by decide, by decide⟩ ⟨by decide, by decide⟩ hm9 rfl (List.Perm.refl _) rfl rfl (Nat.le_of_ble_eq_true rfl) dL_law_561 ?_
  intro v u hp
  obtain ⟨r, rm2, rfl, hrm2, hM2⟩ := hT v u hp
  show gg E _ 4 X 600000 7302250 564 [some (.ref b), some (.ref x), some (.ref h), some (.int (nI i))] [.int r] (u ++ _)
  refine g_aload_n C dL_law_564 rfl ?_
  refine g_aload_n C dL_law_565 rfl ?_
  refine g_iload_n C dL_law_566 rfl ?_
  refine g_iconst (v := nI 1) C dL_law_567 (by decide) ?_
  refine g_iadd_n C dL_law_568 ?_
  refine g_sld C hX hbl hbA (j := i + 1) (by omega) (by omega) dL_law_569 ?_
  refine g_callVA C hM2 gL_law_X10_out rfl 1 (by decide +kernel) hrm2 ⟨by decide, by decide⟩ ⟨by decide, by decide⟩ hm10 rfl List.perm_append_comm rfl rfl (Nat.le_of_ble_eq_true rfl) dL_law_570 ?_
  rintro v2 u2 ⟨rfl, hI2⟩
  show gg E _ 4 X 600000 7302250 573 [some (.ref b), some (.ref x), some (.ref h), some (.int (nI i))] [.int r, .int r] (u2 ++ u)
  exact g_icmp_eq (tgt := 667) C dL_law_573 (by decide) (fun _ => gg.permP List.perm_append_comm (kk u u2 hI2)) (fun c => absurd rfl c)

set_option maxHeartbeats 2000000 in
set_option maxRecDepth 100000 in
theorem Lc_alike {E : gE} {X : gX} {b L x h i : Nat} {xs : Nat → Int32} {CW TW : va_W} (C : gx E X cL_law 4 wsL_law RL) (hX : va_X b L xs X.1.2.2.1 X.1.2.2.1.heap) (hbl : b < X.1.2.2.1.heap.size) (hbA : ¬ X.2.1 b) (hi : i + 6 ≤ L) (hL : L ≤ 3072) (I : INV E x h CW TW) (kk : ∀ CW2 TW2, INV E x h CW2 TW2 → gg E room_1 4 X 600000 7302250 667 [some (.ref b), some (.ref x), some (.ref h), some (.int (nI i))] [] (CW2 ++ TW2)) : gg E room_1 4 X 600000 7302250 578 [some (.ref b), some (.ref x), some (.ref h), some (.int (nI i))] [] (CW ++ TW) := by
  obtain ⟨⟨fs9, hm9⟩, ⟨fs10, hm10⟩⟩ := INV_mem I
  obtain ⟨rm, pC, hrm, hM, hT⟩ := INV_elim (P := fun CW TW => stp E yX9_alike wsX9_alike yX10_alike wsX10_alike [.int (xs (i + 1)), .int (xs (i + 2))] x h CW TW) (fun f0 f1 f2 f3 f4 f5 f6 f7 f8 f9 f10 a0 a1 a2 a3 a4 tb tk c0 c1 dr d0 d1 d2 d3 jb q0 q1 e0 e1 ob k0 k1 k2 k3 pg x0 x1 x2 gr cnt nr n cn dn du jh us fk fp ra rn nn W ms sk pt t pl pb nl nb md ri ks ps ds dk dt dc jp w0 w1 w2 w3 w4 tr o bs bk st co sa ss ru ad iv ln ro ts tq fq sp g12 g13 g14 g15 pi lr ls o2 y1 y2 sn sy phl nml J => S_alike E x f0 f1 f2 f3 f4 f5 f6 f7 f8 f9 f10 a0 a1 a2 a3 a4 tb tk c0 c1 dr d0 d1 d2 d3 jb q0 q1 e0 e1 ob k0 k1 k2 k3 pg x0 x1 x2 gr cnt nr n cn dn du jh us fk fp ra rn nn W ms sk pt t pl pb nl nb md ri ks ps ds dk dt dc jp w0 w1 w2 w3 w4 tr o bs bk st co sa ss ru h ad iv ln ro ts tq fq sp g12 g13 g14 g15 pi lr ls o2 y1 y2 sn sy phl nml J (xs (i + 1)) (xs (i + 2))) I
  refine g_aload_n C dL_law_578 rfl ?_
  refine g_aload_n C dL_law_579 rfl ?_
  refine g_iload_n C dL_law_580 rfl ?_
  refine g_iconst (v := nI 1) C dL_law_581 (by decide) ?_
  refine g_iadd_n C dL_law_582 ?_
  refine g_sld C hX hbl hbA (j := i + 1) (by omega) (by omega) dL_law_583 ?_
  refine g_aload_n C dL_law_584 rfl ?_
  refine g_iload_n C dL_law_585 rfl ?_
  refine g_iconst (v := nI 2) C dL_law_586 (by decide) ?_
  refine g_iadd_n C dL_law_587 ?_
  refine g_sld C hX hbl hbA (j := i + 2) (by omega) (by omega) dL_law_588 ?_
  refine g_callVA C hM gL_law_X9_alike rfl 2 (by decide +kernel) hrm ⟨by decide, by decide⟩ ⟨by decide, by decide⟩ hm9 rfl (List.Perm.refl _) rfl rfl (Nat.le_of_ble_eq_true rfl) dL_law_589 ?_
  intro v u hp
  obtain ⟨r, rm2, rfl, hrm2, hM2⟩ := hT v u hp
  show gg E _ 4 X 600000 7302250 592 [some (.ref b), some (.ref x), some (.ref h), some (.int (nI i))] [.int r] (u ++ _)
  refine g_aload_n C dL_law_592 rfl ?_
  refine g_aload_n C dL_law_593 rfl ?_
  refine g_iload_n C dL_law_594 rfl ?_
  refine g_iconst (v := nI 1) C dL_law_595 (by decide) ?_
  refine g_iadd_n C dL_law_596 ?_
  refine g_sld C hX hbl hbA (j := i + 1) (by omega) (by omega) dL_law_597 ?_
  refine g_aload_n C dL_law_598 rfl ?_
  refine g_iload_n C dL_law_599 rfl ?_
  refine g_iconst (v := nI 2) C dL_law_600 (by decide) ?_
  refine g_iadd_n C dL_law_601 ?_
  refine g_sld C hX hbl hbA (j := i + 2) (by omega) (by omega) dL_law_602 ?_
  refine g_callVA C hM2 gL_law_X10_alike rfl 2 (by decide +kernel) hrm2 ⟨by decide, by decide⟩ ⟨by decide, by decide⟩ hm10 rfl List.perm_append_comm rfl rfl (Nat.le_of_ble_eq_true rfl) dL_law_603 ?_
  rintro v2 u2 ⟨rfl, hI2⟩
  show gg E _ 4 X 600000 7302250 606 [some (.ref b), some (.ref x), some (.ref h), some (.int (nI i))] [.int r, .int r] (u2 ++ u)
  exact g_icmp_eq (tgt := 667) C dL_law_606 (by decide) (fun _ => gg.permP List.perm_append_comm (kk u u2 hI2)) (fun c => absurd rfl c)

set_option maxHeartbeats 2000000 in
set_option maxRecDepth 100000 in
theorem Lc_sheet {E : gE} {X : gX} {b L x h i : Nat} {xs : Nat → Int32} {CW TW : va_W} (C : gx E X cL_law 4 wsL_law RL) (hX : va_X b L xs X.1.2.2.1 X.1.2.2.1.heap) (hbl : b < X.1.2.2.1.heap.size) (hbA : ¬ X.2.1 b) (hi : i + 6 ≤ L) (hL : L ≤ 3072) (I : INV E x h CW TW) (kk : ∀ CW2 TW2, INV E x h CW2 TW2 → gg E room_1 4 X 600000 7302250 667 [some (.ref b), some (.ref x), some (.ref h), some (.int (nI i))] [] (CW2 ++ TW2)) : gg E room_1 4 X 600000 7302250 611 [some (.ref b), some (.ref x), some (.ref h), some (.int (nI i))] [] (CW ++ TW) := by
  obtain ⟨⟨fs9, hm9⟩, ⟨fs10, hm10⟩⟩ := INV_mem I
  obtain ⟨rm, pC, hrm, hM, hT⟩ := INV_elim (P := fun CW TW => stp E yX9_sheet wsX9_sheet yX10_sheet wsX10_sheet [.int (xs (i + 1)), .int (xs (i + 2))] x h CW TW) (fun f0 f1 f2 f3 f4 f5 f6 f7 f8 f9 f10 a0 a1 a2 a3 a4 tb tk c0 c1 dr d0 d1 d2 d3 jb q0 q1 e0 e1 ob k0 k1 k2 k3 pg x0 x1 x2 gr cnt nr n cn dn du jh us fk fp ra rn nn W ms sk pt t pl pb nl nb md ri ks ps ds dk dt dc jp w0 w1 w2 w3 w4 tr o bs bk st co sa ss ru ad iv ln ro ts tq fq sp g12 g13 g14 g15 pi lr ls o2 y1 y2 sn sy phl nml J => S_sheet E x f0 f1 f2 f3 f4 f5 f6 f7 f8 f9 f10 a0 a1 a2 a3 a4 tb tk c0 c1 dr d0 d1 d2 d3 jb q0 q1 e0 e1 ob k0 k1 k2 k3 pg x0 x1 x2 gr cnt nr n cn dn du jh us fk fp ra rn nn W ms sk pt t pl pb nl nb md ri ks ps ds dk dt dc jp w0 w1 w2 w3 w4 tr o bs bk st co sa ss ru h ad iv ln ro ts tq fq sp g12 g13 g14 g15 pi lr ls o2 y1 y2 sn sy phl nml J (xs (i + 1)) (xs (i + 2))) I
  refine g_aload_n C dL_law_611 rfl ?_
  refine g_aload_n C dL_law_612 rfl ?_
  refine g_iload_n C dL_law_613 rfl ?_
  refine g_iconst (v := nI 1) C dL_law_614 (by decide) ?_
  refine g_iadd_n C dL_law_615 ?_
  refine g_sld C hX hbl hbA (j := i + 1) (by omega) (by omega) dL_law_616 ?_
  refine g_aload_n C dL_law_617 rfl ?_
  refine g_iload_n C dL_law_618 rfl ?_
  refine g_iconst (v := nI 2) C dL_law_619 (by decide) ?_
  refine g_iadd_n C dL_law_620 ?_
  refine g_sld C hX hbl hbA (j := i + 2) (by omega) (by omega) dL_law_621 ?_
  refine g_callVA C hM gL_law_X9_sheet rfl 2 (by decide +kernel) hrm ⟨by decide, by decide⟩ ⟨by decide, by decide⟩ hm9 rfl (List.Perm.refl _) rfl rfl (Nat.le_of_ble_eq_true rfl) dL_law_622 ?_
  intro v u hp
  obtain ⟨r, rm2, rfl, hrm2, hM2⟩ := hT v u hp
  show gg E _ 4 X 600000 7302250 625 [some (.ref b), some (.ref x), some (.ref h), some (.int (nI i))] [.int r] (u ++ _)
  refine g_aload_n C dL_law_625 rfl ?_
  refine g_aload_n C dL_law_626 rfl ?_
  refine g_iload_n C dL_law_627 rfl ?_
  refine g_iconst (v := nI 1) C dL_law_628 (by decide) ?_
  refine g_iadd_n C dL_law_629 ?_
  refine g_sld C hX hbl hbA (j := i + 1) (by omega) (by omega) dL_law_630 ?_
  refine g_aload_n C dL_law_631 rfl ?_
  refine g_iload_n C dL_law_632 rfl ?_
  refine g_iconst (v := nI 2) C dL_law_633 (by decide) ?_
  refine g_iadd_n C dL_law_634 ?_
  refine g_sld C hX hbl hbA (j := i + 2) (by omega) (by omega) dL_law_635 ?_
  refine g_callVA C hM2 gL_law_X10_sheet rfl 2 (by decide +kernel) hrm2 ⟨by decide, by decide⟩ ⟨by decide, by decide⟩ hm10 rfl List.perm_append_comm rfl rfl (Nat.le_of_ble_eq_true rfl) dL_law_636 ?_
  rintro v2 u2 ⟨rfl, hI2⟩
  show gg E _ 4 X 600000 7302250 639 [some (.ref b), some (.ref x), some (.ref h), some (.int (nI i))] [.int r, .int r] (u2 ++ u)
  exact g_icmp_eq (tgt := 667) C dL_law_639 (by decide) (fun _ => gg.permP List.perm_append_comm (kk u u2 hI2)) (fun c => absurd rfl c)

set_option maxHeartbeats 2000000 in
set_option maxRecDepth 100000 in
theorem Lc_group {E : gE} {X : gX} {b L x h i : Nat} {xs : Nat → Int32} {CW TW : va_W} (C : gx E X cL_law 4 wsL_law RL) (hX : va_X b L xs X.1.2.2.1 X.1.2.2.1.heap) (hbl : b < X.1.2.2.1.heap.size) (hbA : ¬ X.2.1 b) (hi : i + 6 ≤ L) (hL : L ≤ 3072) (I : INV E x h CW TW) (kk : ∀ CW2 TW2, INV E x h CW2 TW2 → gg E room_1 4 X 600000 7302250 667 [some (.ref b), some (.ref x), some (.ref h), some (.int (nI i))] [] (CW2 ++ TW2)) : gg E room_1 4 X 600000 7302250 644 [some (.ref b), some (.ref x), some (.ref h), some (.int (nI i))] [] (CW ++ TW) := by
  obtain ⟨⟨fs9, hm9⟩, ⟨fs10, hm10⟩⟩ := INV_mem I
  obtain ⟨rm, pC, hrm, hM, hT⟩ := INV_elim (P := fun CW TW => stp E yX9_group wsX9_group yX10_group wsX10_group [.int (xs (i + 1))] x h CW TW) (fun f0 f1 f2 f3 f4 f5 f6 f7 f8 f9 f10 a0 a1 a2 a3 a4 tb tk c0 c1 dr d0 d1 d2 d3 jb q0 q1 e0 e1 ob k0 k1 k2 k3 pg x0 x1 x2 gr cnt nr n cn dn du jh us fk fp ra rn nn W ms sk pt t pl pb nl nb md ri ks ps ds dk dt dc jp w0 w1 w2 w3 w4 tr o bs bk st co sa ss ru ad iv ln ro ts tq fq sp g12 g13 g14 g15 pi lr ls o2 y1 y2 sn sy phl nml J => S_group E x f0 f1 f2 f3 f4 f5 f6 f7 f8 f9 f10 a0 a1 a2 a3 a4 tb tk c0 c1 dr d0 d1 d2 d3 jb q0 q1 e0 e1 ob k0 k1 k2 k3 pg x0 x1 x2 gr cnt nr n cn dn du jh us fk fp ra rn nn W ms sk pt t pl pb nl nb md ri ks ps ds dk dt dc jp w0 w1 w2 w3 w4 tr o bs bk st co sa ss ru h ad iv ln ro ts tq fq sp g12 g13 g14 g15 pi lr ls o2 y1 y2 sn sy phl nml J (xs (i + 1))) I
  refine g_aload_n C dL_law_644 rfl ?_
  refine g_aload_n C dL_law_645 rfl ?_
  refine g_iload_n C dL_law_646 rfl ?_
  refine g_iconst (v := nI 1) C dL_law_647 (by decide) ?_
  refine g_iadd_n C dL_law_648 ?_
  refine g_sld C hX hbl hbA (j := i + 1) (by omega) (by omega) dL_law_649 ?_
  refine g_callVA C hM gL_law_X9_group rfl 1 (by decide +kernel) hrm ⟨by decide, by decide⟩ ⟨by decide, by decide⟩ hm9 rfl (List.Perm.refl _) rfl rfl (Nat.le_of_ble_eq_true rfl) dL_law_650 ?_
  intro v u hp
  obtain ⟨r, rm2, rfl, hrm2, hM2⟩ := hT v u hp
  show gg E _ 4 X 600000 7302250 653 [some (.ref b), some (.ref x), some (.ref h), some (.int (nI i))] [.int r] (u ++ _)
  refine g_aload_n C dL_law_653 rfl ?_
  refine g_aload_n C dL_law_654 rfl ?_
  refine g_iload_n C dL_law_655 rfl ?_
  refine g_iconst (v := nI 1) C dL_law_656 (by decide) ?_
  refine g_iadd_n C dL_law_657 ?_
  refine g_sld C hX hbl hbA (j := i + 1) (by omega) (by omega) dL_law_658 ?_
  refine g_callVA C hM2 gL_law_X10_group rfl 1 (by decide +kernel) hrm2 ⟨by decide, by decide⟩ ⟨by decide, by decide⟩ hm10 rfl List.perm_append_comm rfl rfl (Nat.le_of_ble_eq_true rfl) dL_law_659 ?_
  rintro v2 u2 ⟨rfl, hI2⟩
  show gg E _ 4 X 600000 7302250 662 [some (.ref b), some (.ref x), some (.ref h), some (.int (nI i))] [.int r, .int r] (u2 ++ u)
  exact g_icmp_eq (tgt := 667) C dL_law_662 (by decide) (fun _ => gg.permP List.perm_append_comm (kk u u2 hI2)) (fun c => absurd rfl c)
