theorem lo_nI {n R : Nat} (h0 : 0 < R) (hR : R < 2 ^ 31) (hn : n < 2 ^ 31) : lo (nI n) (nI R) = nI (n % R) := by
  unfold lo
  rw [if_pos (nI_0lt h0 hR), pk_rem hn h0 hR, if_neg (nI_pos (Nat.lt_of_le_of_lt (Nat.mod_le n R) hn))]
/-- how many of n places from P on are a place 0 -/
def cnt (P R : Nat) : Nat → Nat
  | 0 => 0
  | n + 1 => cnt P R n + (if (P + n) % R = 0 then 1 else 0)
theorem cnt_eq {P R : Nat} (hR : 0 < R) : ∀ n, cnt P R n + (P + R - 1) / R = (P + n + R - 1) / R
  | 0 => by simp [cnt]
  | n + 1 => by
    have h : R ∣ (P + n + R - 1) + 1 ↔ (P + n) % R = 0 := by
      rw [show P + n + R - 1 + 1 = P + n + R by omega, Nat.dvd_iff_mod_eq_zero, Nat.add_mod_right]
    rw [show P + (n + 1) + R - 1 = (P + n + R - 1) + 1 by omega, Nat.succ_div, ← cnt_eq hR n, cnt]
    by_cases hc : (P + n) % R = 0
    · rw [if_pos (h.mpr hc), if_pos hc]; omega
    · rw [if_neg (fun q => hc (h.mp q)), if_neg hc]; omega
theorem cnt_val {P R n : Nat} (hP : P < R) (hn : 0 < n) : cnt P R n = (P + n - 1) / R + (if P = 0 then 1 else 0) := by
  have h0 : 0 < R := by omega
  have h := cnt_eq (P := P) h0 n
  rw [show P + n + R - 1 = (P + n - 1) + R by omega, Nat.add_div_right _ h0] at h
  by_cases hz : P = 0
  · subst hz
    rw [if_pos rfl]
    have : (0 + R - 1) / R = 0 := Nat.div_eq_of_lt (by omega)
    omega
  · rw [if_neg hz]
    have : (P + R - 1) / R = 1 := by rw [show P + R - 1 = (P - 1) + R by omega, Nat.add_div_right _ h0, Nat.div_eq_of_lt (by omega)]
    omega
theorem cnt_le (P R : Nat) : ∀ n, cnt P R n ≤ n
  | 0 => Nat.le_refl _
  | n + 1 => by
    have := cnt_le P R n
    unfold cnt
    split <;> omega
theorem p_patLoop {a P R len : Nat} {x : Int32} {v1 v2 v3 v4 v5 : Value} {h : xH} (h1 : h.2 a = .inr (2, [.int (nI R), v1, v2, v3, v4, v5])) (h0 : 0 < R) (hR : R < 1000) (hP : P < 1000) (hl : len < 1000) : ∀ d i : Nat, i + d = len → rn 23 21 [.ref a, .int x, .int (nI (cnt P R i)), .int (nI P), .int (nI len), .int (nI i)] [] h = some (some (.int (nI (cnt P R len))), h) := by
  intro d
  induction d with
  | zero =>
    intro i hi
    obtain rfl : i = len := by omega
    have c1 : ¬ nI i < nI i := Int32.lt_irrefl
    rw [q23_21]
    simp only [q23_0, q23_1, q23_2, q23_3, q23_4, q23_7, q23_8, q23_9, q23_12, q23_13, q23_16, q23_18, q23_19, q23_23, q23_25, q23_28, q23_29, q23_31, q23_32, q23_33, q23_36, q23_39, q23_42, q23_45, q23_48, q23_51, q23_52, rv_v, rv_n, rh_v, mu_at, isF_r, isK_r, fld_r, fset_r, gd0, gd1, gd2, gd3, gd4, gd5, gd6, gd7, gd8, gd9, gd10, gd11, gd12, gd13, inA_l, inW_l, inZ_l, inQ_l, aget_l, aset_l, qget_l, qset_l, isA_l, isA_q, alen_l, k2_i, k2_a, k2_n, k2_u, k2_l, ite_si, Option.isSome_some, List.cons_append, List.nil_append, List.length_cons, List.length_nil, Nat.reduceAdd, Nat.zero_add, Nat.reduceLT, Nat.reduceEqDiff, decide_true, decide_false, Bool.and_self, Bool.and_true, Bool.true_and, ↓reduceIte, List.set_cons_zero, List.set_cons_succ, Nat.reduceSub, Nat.add_left_cancel_iff, Nat.add_eq_left, Nat.left_eq_add, not_true_eq_false, not_false_eq_true, reduceCtorEq, i10, i01, ib10, ib01, beq_self_eq_true, eq_self, Int32.reduceLT, Int32.reduceToNatClampNeg, Int32.reduceAdd, Int32.reduceSub, Int32.reduceMul, Bool.or_true, Bool.true_or, Bool.or_false, Bool.false_or, Nat.reduceBEq, Nat.reduceMul, c1]
  | succ d ih =>
    intro i hi
    have c1 : nI i < nI len := nI_lt (by omega) (by omega)
    have e1 : nI P + nI i = nI (P + i) := nI_add P i
    have e2 : lo (nI (P + i)) (nI R) = nI ((P + i) % R) := lo_nI h0 (by omega) (by omega)
    have hm : (P + i) % R < R := Nat.mod_lt _ h0
    have e3 := ih (i + 1) (by omega)
    rw [cnt] at e3
    rw [q23_21]
    by_cases hc : (P + i) % R = 0
    · rw [if_pos hc] at e3
      rw [hc, show nI 0 = 0 from rfl] at e2
      simp only [q23_0, q23_1, q23_2, q23_3, q23_4, q23_7, q23_8, q23_9, q23_12, q23_13, q23_16, q23_18, q23_19, q23_23, q23_25, q23_28, q23_29, q23_31, q23_32, q23_33, q23_36, q23_39, q23_42, q23_45, q23_48, q23_51, q23_52, rv_v, rv_n, rh_v, mu_at, isF_r, isK_r, fld_r, fset_r, gd0, gd1, gd2, gd3, gd4, gd5, gd6, gd7, gd8, gd9, gd10, gd11, gd12, gd13, inA_l, inW_l, inZ_l, inQ_l, aget_l, aset_l, qget_l, qset_l, isA_l, isA_q, alen_l, k2_i, k2_a, k2_n, k2_u, k2_l, ite_si, Option.isSome_some, List.cons_append, List.nil_append, List.length_cons, List.length_nil, Nat.reduceAdd, Nat.zero_add, Nat.reduceLT, Nat.reduceEqDiff, decide_true, decide_false, Bool.and_self, Bool.and_true, Bool.true_and, ↓reduceIte, List.set_cons_zero, List.set_cons_succ, Nat.reduceSub, Nat.add_left_cancel_iff, Nat.add_eq_left, Nat.left_eq_add, not_true_eq_false, not_false_eq_true, reduceCtorEq, i10, i01, ib10, ib01, beq_self_eq_true, eq_self, Int32.reduceLT, Int32.reduceToNatClampNeg, Int32.reduceAdd, Int32.reduceSub, Int32.reduceMul, Bool.or_true, Bool.true_or, Bool.or_false, Bool.false_or, Nat.reduceBEq, Nat.reduceMul, h1, c1, p_leftOver, e1, e2, nI_1, e3]
    · rw [if_neg hc, Nat.add_zero] at e3
      have c2 : ¬ nI ((P + i) % R) = 0 := nI_ne0 (by omega) (by omega)
      simp only [q23_0, q23_1, q23_2, q23_3, q23_4, q23_7, q23_8, q23_9, q23_12, q23_13, q23_16, q23_18, q23_19, q23_23, q23_25, q23_28, q23_29, q23_31, q23_32, q23_33, q23_36, q23_39, q23_42, q23_45, q23_48, q23_51, q23_52, rv_v, rv_n, rh_v, mu_at, isF_r, isK_r, fld_r, fset_r, gd0, gd1, gd2, gd3, gd4, gd5, gd6, gd7, gd8, gd9, gd10, gd11, gd12, gd13, inA_l, inW_l, inZ_l, inQ_l, aget_l, aset_l, qget_l, qset_l, isA_l, isA_q, alen_l, k2_i, k2_a, k2_n, k2_u, k2_l, ite_si, Option.isSome_some, List.cons_append, List.nil_append, List.length_cons, List.length_nil, Nat.reduceAdd, Nat.zero_add, Nat.reduceLT, Nat.reduceEqDiff, decide_true, decide_false, Bool.and_self, Bool.and_true, Bool.true_and, ↓reduceIte, List.set_cons_zero, List.set_cons_succ, Nat.reduceSub, Nat.add_left_cancel_iff, Nat.add_eq_left, Nat.left_eq_add, not_true_eq_false, not_false_eq_true, reduceCtorEq, i10, i01, ib10, ib01, beq_self_eq_true, eq_self, Int32.reduceLT, Int32.reduceToNatClampNeg, Int32.reduceAdd, Int32.reduceSub, Int32.reduceMul, Bool.or_true, Bool.true_or, Bool.or_false, Bool.false_or, Nat.reduceBEq, Nat.reduceMul, h1, c1, p_leftOver, e1, e2, if_neg c2, nI_1, e3]
theorem p_pattern {a P R len : Nat} {i : Int32} {q ri tr ft : Nat → Int32} {h : xH} (hH : HA h.2 a q ri tr ft) (hq : q 0 = nI R) (eP : pO q ft i = nI P) (eL : sL ri tr i = nI len) (h0 : 0 < R) (hR : R < 1000) (hP : P < 1000) (hl : len < 1000) : cl 23 [.ref a, .int i] h = some (some (.int (nI (cnt P R len))), h) := by
  have e1 := p_phaseOf i hH
  obtain ⟨h1, hS, h5, h6⟩ := hH
  have e2 := p_lengthOf i hS
  rw [hq] at h1
  have e3 := p_patLoop (x := i) h1 h0 hR hP hl len 0 (by omega)
  rw [show nI (cnt P R 0) = 0 from rfl, show nI 0 = 0 from rfl] at e3
  rw [eP] at e1
  rw [eL] at e2
  simp only [c23, q23_0, q23_1, q23_2, q23_3, q23_4, q23_7, q23_8, q23_9, q23_12, q23_13, q23_16, q23_18, q23_19, q23_23, q23_25, q23_28, q23_29, q23_31, q23_32, q23_33, q23_36, q23_39, q23_42, q23_45, q23_48, q23_51, q23_52, rv_v, rv_n, rh_v, mu_at, isF_r, isK_r, fld_r, fset_r, gd0, gd1, gd2, gd3, gd4, gd5, gd6, gd7, gd8, gd9, gd10, gd11, gd12, gd13, inA_l, inW_l, inZ_l, inQ_l, aget_l, aset_l, qget_l, qset_l, isA_l, isA_q, alen_l, k2_i, k2_a, k2_n, k2_u, k2_l, ite_si, Option.isSome_some, List.cons_append, List.nil_append, List.length_cons, List.length_nil, Nat.reduceAdd, Nat.zero_add, Nat.reduceLT, Nat.reduceEqDiff, decide_true, decide_false, Bool.and_self, Bool.and_true, Bool.true_and, ↓reduceIte, List.set_cons_zero, List.set_cons_succ, Nat.reduceSub, Nat.add_left_cancel_iff, Nat.add_eq_left, Nat.left_eq_add, not_true_eq_false, not_false_eq_true, reduceCtorEq, i10, i01, ib10, ib01, beq_self_eq_true, eq_self, Int32.reduceLT, Int32.reduceToNatClampNeg, Int32.reduceAdd, Int32.reduceSub, Int32.reduceMul, Bool.or_true, Bool.true_or, Bool.or_false, Bool.false_or, Nat.reduceBEq, Nat.reduceMul, h1, hS.1, e1, e2, e3]
theorem has_bw (i : Int32) {S : Nat} (hS : S ≤ 20) : (if i < 0 then (0 : Int32) else if i < nI S then 1 else 0) = bw i 0 (nI S - 1) := by
  unfold bw
  by_cases h0 : i < 0
  · rw [if_pos h0, if_pos h0]
  · rw [if_neg h0, if_neg h0]
    have e1 : (nI S - 1).toInt = (S : Int) - 1 := by
      rw [show (1 : Int32) = nI 1 from rfl, pk_sub_toInt (by omega) (by omega)]
      rfl
    have e2 := nI_toInt (n := S) (by omega)
    by_cases h1 : i < nI S
    · rw [if_pos h1, if_neg]
      rw [Int32.lt_iff_toInt_lt] at h1 ⊢
      omega
    · rw [if_neg h1, if_pos]
      rw [Int32.lt_iff_toInt_lt] at h1 ⊢
      omega
section
variable {a k : Nat} {σ : AS}
/-- the places are numbers below the pattern's length -/
theorem RI.rep {r : Row} (h : RI k r) : ∃ R, r 0 = nI R ∧ 2 ≤ R ∧ R ≤ 60 := by
  obtain ⟨S, u0, u1, p0, p1, R, O, b0, b1, l0, l1, sl, ⟨e1, e2, e3, e4, e5, e6, -⟩, ⟨f1, f2, f3, f4, f5, f6, -⟩, -⟩ := h
  exact ⟨R, e6, f5, f6⟩
theorem RI.pos {r : Row} (h : RI k r) : 0 < r 0 := by
  obtain ⟨R, e, h1, h2⟩ := h.rep
  rw [e]
  exact nI_0lt (by omega) (by omega)
theorem RI.mBn {r : Row} (h : RI k r) {R : Nat} (hR : r 0 = nI R) (h2 : R < 1000) (h0 : 0 < R) (j : Nat) : ∃ P, mB r j = nI P ∧ P < R := by
  obtain ⟨n, h1, h3⟩ := lo_nat (r 44 + lns r 0 j) h0 h2
  exact ⟨n, by unfold mB; rw [hR]; exact h3, h1⟩
theorem RI.mAn {r : Row} (h : RI k r) {R : Nat} (hR : r 0 = nI R) (h2 : R < 1000) (h0 : 0 < R) (S j : Nat) : ∃ P, mA r S j = nI P ∧ P < R := by
  obtain ⟨n, h1, h3⟩ := lo_nat (r 49 - lns r j (S - j)) h0 h2
  exact ⟨n, by unfold mA; rw [hR]; exact h3, h1⟩
theorem c_step0 (i w : Int32) (hi : bw i 0 (σ.1 3 - 1) = 0) : cEq 58 a [.int i, .int w] σ (-1) σ := by
  refine cEq.same fun h hC => ?_
  obtain ⟨k1, k2, k3, k4, k5, k6, k7, k8⟩ := hC; unfold CO at k1; obtain ⟨S', q, ri, tr, ft, hA, hR⟩ := k2; have hH := hA.1; have hs := hA.2.1.1
  have e0 := p_has i hA.2.1
  rw [hR.i3, has_bw _ hR.1, ← hR.2.1, hi] at e0
  simp only [c58, q58_0, q58_1, q58_4, q58_7, q58_8, q58_11, q58_14, q58_15, q58_16, q58_17, q58_64, q58_65, q58_68, q58_71, q58_72, q58_75, q58_76, q58_77, q58_80, q58_83, q58_84, q58_87, q58_88, q58_89, q58_92, q58_95, q58_96, q58_99, q58_100, q58_101, q58_104, q58_107, q58_108, q58_111, q58_112, q58_113, q58_116, q58_117, q58_120, q58_121, q58_122, q58_125, q58_126, q58_129, q58_132, q58_133, q58_136, q58_137, q58_140, q58_143, q58_145, q58_146, q58_147, q58_150, q58_151, q58_154, q58_157, q58_158, q58_161, q58_162, q58_165, q58_168, q58_170, q58_171, q58_172, q58_175, q58_176, q58_179, q58_182, q58_183, q58_186, q58_187, q58_190, q58_193, q58_195, q58_196, q58_198, rv_v, rv_n, rh_v, mu_at, isF_r, isK_r, fld_r, fset_r, gd0, gd1, gd2, gd3, gd4, gd5, gd6, gd7, gd8, gd9, gd10, gd11, gd12, gd13, inA_l, inW_l, inZ_l, inQ_l, aget_l, aset_l, qget_l, qset_l, isA_l, isA_q, alen_l, k2_i, k2_a, k2_n, k2_u, k2_l, ite_si, Option.isSome_some, List.cons_append, List.nil_append, List.length_cons, List.length_nil, Nat.reduceAdd, Nat.zero_add, Nat.reduceLT, Nat.reduceEqDiff, decide_true, decide_false, Bool.and_self, Bool.and_true, Bool.true_and, ↓reduceIte, List.set_cons_zero, List.set_cons_succ, Nat.reduceSub, Nat.add_left_cancel_iff, Nat.add_eq_left, Nat.left_eq_add, not_true_eq_false, not_false_eq_true, reduceCtorEq, i10, i01, ib10, ib01, beq_self_eq_true, eq_self, Int32.reduceLT, Int32.reduceToNatClampNeg, Int32.reduceAdd, Int32.reduceSub, Int32.reduceMul, Bool.or_true, Bool.true_or, Bool.or_false, Bool.false_or, Nat.reduceBEq, Nat.reduceMul, k1, hH, e0, hs]
theorem c_step1 (i w : Int32) (hi : ¬ bw i 0 (σ.1 3 - 1) = 0) (hw : bw w 0 7 = 0) : cEq 58 a [.int i, .int w] σ (-2) σ := by
  refine cEq.same fun h hC => ?_
  obtain ⟨k1, k2, k3, k4, k5, k6, k7, k8⟩ := hC; unfold CO at k1; obtain ⟨S', q, ri, tr, ft, hA, hR⟩ := k2; have hH := hA.1; have hs := hA.2.1.1
  have e0 := p_has i hA.2.1
  rw [hR.i3, has_bw _ hR.1, ← hR.2.1] at e0
  have n0 : (w = 0) = False := bw_out (n := 7) (by omega) hw 0 (by omega)
  have n1 : (w = 1) = False := bw_out (n := 7) (by omega) hw 1 (by omega)
  have n2 : (w = 2) = False := bw_out (n := 7) (by omega) hw 2 (by omega)
  have n3 : (w = 3) = False := bw_out (n := 7) (by omega) hw 3 (by omega)
  have n4 : (w = 4) = False := bw_out (n := 7) (by omega) hw 4 (by omega)
  have n5 : (w = 5) = False := bw_out (n := 7) (by omega) hw 5 (by omega)
  have n6 : (w = 6) = False := bw_out (n := 7) (by omega) hw 6 (by omega)
  have n7 : (w = 7) = False := bw_out (n := 7) (by omega) hw 7 (by omega)
  simp only [c58, q58_0, q58_1, q58_4, q58_7, q58_8, q58_11, q58_14, q58_15, q58_16, q58_17, q58_64, q58_65, q58_68, q58_71, q58_72, q58_75, q58_76, q58_77, q58_80, q58_83, q58_84, q58_87, q58_88, q58_89, q58_92, q58_95, q58_96, q58_99, q58_100, q58_101, q58_104, q58_107, q58_108, q58_111, q58_112, q58_113, q58_116, q58_117, q58_120, q58_121, q58_122, q58_125, q58_126, q58_129, q58_132, q58_133, q58_136, q58_137, q58_140, q58_143, q58_145, q58_146, q58_147, q58_150, q58_151, q58_154, q58_157, q58_158, q58_161, q58_162, q58_165, q58_168, q58_170, q58_171, q58_172, q58_175, q58_176, q58_179, q58_182, q58_183, q58_186, q58_187, q58_190, q58_193, q58_195, q58_196, q58_198, rv_v, rv_n, rh_v, mu_at, isF_r, isK_r, fld_r, fset_r, gd0, gd1, gd2, gd3, gd4, gd5, gd6, gd7, gd8, gd9, gd10, gd11, gd12, gd13, inA_l, inW_l, inZ_l, inQ_l, aget_l, aset_l, qget_l, qset_l, isA_l, isA_q, alen_l, k2_i, k2_a, k2_n, k2_u, k2_l, ite_si, Option.isSome_some, List.cons_append, List.nil_append, List.length_cons, List.length_nil, Nat.reduceAdd, Nat.zero_add, Nat.reduceLT, Nat.reduceEqDiff, decide_true, decide_false, Bool.and_self, Bool.and_true, Bool.true_and, ↓reduceIte, List.set_cons_zero, List.set_cons_succ, Nat.reduceSub, Nat.add_left_cancel_iff, Nat.add_eq_left, Nat.left_eq_add, not_true_eq_false, not_false_eq_true, reduceCtorEq, i10, i01, ib10, ib01, beq_self_eq_true, eq_self, Int32.reduceLT, Int32.reduceToNatClampNeg, Int32.reduceAdd, Int32.reduceSub, Int32.reduceMul, Bool.or_true, Bool.true_or, Bool.or_false, Bool.false_or, Nat.reduceBEq, Nat.reduceMul, k1, hH, e0, hs, if_neg hi, n0, n1, n2, n3, n4, n5, n6, n7]
section
variable {S j : Nat}
theorem c_step2_0 (hj : j < S) (hS : S ≤ 20) (h3 : σ.1 3 = nI S) (hI : RI k σ.1) : cEq 58 a [.int (nI j), .int 0] σ (rStep σ.1 S j 0) σ := by
  refine cEq.same fun h hC => ?_
  obtain ⟨k1, k2, k3, k4, k5, k6, k7, k8⟩ := hC; unfold CO at k1; obtain ⟨S', q, ri, tr, ft, hA, hR⟩ := k2; have hH := hA.1; have hs := hA.2.1.1
  obtain rfl : S = S' := (nI_eq (by omega) (by have := hR.1; omega)).mp (h3.symm.trans hR.2.1)
  have e0 := p_has (nI j) hA.2.1; rw [hR.i3, if_neg (nI_pos (show j < 2 ^ 31 by omega)), if_pos (nI_lt hj (show S < 2 ^ 31 by omega))] at e0
  have e1 := p_riserOf (nI j) hA.2.1
  rw [na_nI (by omega) (by decide), (hR.2.2.2.1 j hj).1] at e1
  simp only [c58, q58_0, q58_1, q58_4, q58_7, q58_8, q58_11, q58_14, q58_15, q58_16, q58_17, q58_64, q58_65, q58_68, q58_71, q58_72, q58_75, q58_76, q58_77, q58_80, q58_83, q58_84, q58_87, q58_88, q58_89, q58_92, q58_95, q58_96, q58_99, q58_100, q58_101, q58_104, q58_107, q58_108, q58_111, q58_112, q58_113, q58_116, q58_117, q58_120, q58_121, q58_122, q58_125, q58_126, q58_129, q58_132, q58_133, q58_136, q58_137, q58_140, q58_143, q58_145, q58_146, q58_147, q58_150, q58_151, q58_154, q58_157, q58_158, q58_161, q58_162, q58_165, q58_168, q58_170, q58_171, q58_172, q58_175, q58_176, q58_179, q58_182, q58_183, q58_186, q58_187, q58_190, q58_193, q58_195, q58_196, q58_198, rv_v, rv_n, rh_v, mu_at, isF_r, isK_r, fld_r, fset_r, gd0, gd1, gd2, gd3, gd4, gd5, gd6, gd7, gd8, gd9, gd10, gd11, gd12, gd13, inA_l, inW_l, inZ_l, inQ_l, aget_l, aset_l, qget_l, qset_l, isA_l, isA_q, alen_l, k2_i, k2_a, k2_n, k2_u, k2_l, ite_si, Option.isSome_some, List.cons_append, List.nil_append, List.length_cons, List.length_nil, Nat.reduceAdd, Nat.zero_add, Nat.reduceLT, Nat.reduceEqDiff, decide_true, decide_false, Bool.and_self, Bool.and_true, Bool.true_and, ↓reduceIte, List.set_cons_zero, List.set_cons_succ, Nat.reduceSub, Nat.add_left_cancel_iff, Nat.add_eq_left, Nat.left_eq_add, not_true_eq_false, not_false_eq_true, reduceCtorEq, i10, i01, ib10, ib01, beq_self_eq_true, eq_self, Int32.reduceLT, Int32.reduceToNatClampNeg, Int32.reduceAdd, Int32.reduceSub, Int32.reduceMul, Bool.or_true, Bool.true_or, Bool.or_false, Bool.false_or, Nat.reduceBEq, Nat.reduceMul, k1, hH, e0, hs, e1, rStep]
theorem c_step2_1 (hj : j < S) (hS : S ≤ 20) (h3 : σ.1 3 = nI S) (hI : RI k σ.1) : cEq 58 a [.int (nI j), .int 1] σ (rStep σ.1 S j 1) σ := by
  refine cEq.same fun h hC => ?_
  obtain ⟨k1, k2, k3, k4, k5, k6, k7, k8⟩ := hC; unfold CO at k1; obtain ⟨S', q, ri, tr, ft, hA, hR⟩ := k2; have hH := hA.1; have hs := hA.2.1.1
  obtain rfl : S = S' := (nI_eq (by omega) (by have := hR.1; omega)).mp (h3.symm.trans hR.2.1)
  have e0 := p_has (nI j) hA.2.1; rw [hR.i3, if_neg (nI_pos (show j < 2 ^ 31 by omega)), if_pos (nI_lt hj (show S < 2 ^ 31 by omega))] at e0
  have e1 := p_treadOf (nI j) hA.2.1
  rw [na_nI (by omega) (by decide), (hR.2.2.2.1 j hj).2] at e1
  simp only [c58, q58_0, q58_1, q58_4, q58_7, q58_8, q58_11, q58_14, q58_15, q58_16, q58_17, q58_64, q58_65, q58_68, q58_71, q58_72, q58_75, q58_76, q58_77, q58_80, q58_83, q58_84, q58_87, q58_88, q58_89, q58_92, q58_95, q58_96, q58_99, q58_100, q58_101, q58_104, q58_107, q58_108, q58_111, q58_112, q58_113, q58_116, q58_117, q58_120, q58_121, q58_122, q58_125, q58_126, q58_129, q58_132, q58_133, q58_136, q58_137, q58_140, q58_143, q58_145, q58_146, q58_147, q58_150, q58_151, q58_154, q58_157, q58_158, q58_161, q58_162, q58_165, q58_168, q58_170, q58_171, q58_172, q58_175, q58_176, q58_179, q58_182, q58_183, q58_186, q58_187, q58_190, q58_193, q58_195, q58_196, q58_198, rv_v, rv_n, rh_v, mu_at, isF_r, isK_r, fld_r, fset_r, gd0, gd1, gd2, gd3, gd4, gd5, gd6, gd7, gd8, gd9, gd10, gd11, gd12, gd13, inA_l, inW_l, inZ_l, inQ_l, aget_l, aset_l, qget_l, qset_l, isA_l, isA_q, alen_l, k2_i, k2_a, k2_n, k2_u, k2_l, ite_si, Option.isSome_some, List.cons_append, List.nil_append, List.length_cons, List.length_nil, Nat.reduceAdd, Nat.zero_add, Nat.reduceLT, Nat.reduceEqDiff, decide_true, decide_false, Bool.and_self, Bool.and_true, Bool.true_and, ↓reduceIte, List.set_cons_zero, List.set_cons_succ, Nat.reduceSub, Nat.add_left_cancel_iff, Nat.add_eq_left, Nat.left_eq_add, not_true_eq_false, not_false_eq_true, reduceCtorEq, i10, i01, ib10, ib01, beq_self_eq_true, eq_self, Int32.reduceLT, Int32.reduceToNatClampNeg, Int32.reduceAdd, Int32.reduceSub, Int32.reduceMul, Bool.or_true, Bool.true_or, Bool.or_false, Bool.false_or, Nat.reduceBEq, Nat.reduceMul, k1, hH, e0, hs, e1, z1_0, rStep]
theorem c_step2_2 (hj : j < S) (hS : S ≤ 20) (h3 : σ.1 3 = nI S) (hI : RI k σ.1) : cEq 58 a [.int (nI j), .int 2] σ (rStep σ.1 S j 2) σ := by
  refine cEq.same fun h hC => ?_
  obtain ⟨k1, k2, k3, k4, k5, k6, k7, k8⟩ := hC; unfold CO at k1; obtain ⟨S', q, ri, tr, ft, hA, hR⟩ := k2; have hH := hA.1; have hs := hA.2.1.1
  obtain rfl : S = S' := (nI_eq (by omega) (by have := hR.1; omega)).mp (h3.symm.trans hR.2.1)
  have e0 := p_has (nI j) hA.2.1; rw [hR.i3, if_neg (nI_pos (show j < 2 ^ 31 by omega)), if_pos (nI_lt hj (show S < 2 ^ 31 by omega))] at e0
  have e1 := p_lengthOf (nI j) hA.2.1
  rw [hR.hl hj] at e1
  simp only [c58, q58_0, q58_1, q58_4, q58_7, q58_8, q58_11, q58_14, q58_15, q58_16, q58_17, q58_64, q58_65, q58_68, q58_71, q58_72, q58_75, q58_76, q58_77, q58_80, q58_83, q58_84, q58_87, q58_88, q58_89, q58_92, q58_95, q58_96, q58_99, q58_100, q58_101, q58_104, q58_107, q58_108, q58_111, q58_112, q58_113, q58_116, q58_117, q58_120, q58_121, q58_122, q58_125, q58_126, q58_129, q58_132, q58_133, q58_136, q58_137, q58_140, q58_143, q58_145, q58_146, q58_147, q58_150, q58_151, q58_154, q58_157, q58_158, q58_161, q58_162, q58_165, q58_168, q58_170, q58_171, q58_172, q58_175, q58_176, q58_179, q58_182, q58_183, q58_186, q58_187, q58_190, q58_193, q58_195, q58_196, q58_198, rv_v, rv_n, rh_v, mu_at, isF_r, isK_r, fld_r, fset_r, gd0, gd1, gd2, gd3, gd4, gd5, gd6, gd7, gd8, gd9, gd10, gd11, gd12, gd13, inA_l, inW_l, inZ_l, inQ_l, aget_l, aset_l, qget_l, qset_l, isA_l, isA_q, alen_l, k2_i, k2_a, k2_n, k2_u, k2_l, ite_si, Option.isSome_some, List.cons_append, List.nil_append, List.length_cons, List.length_nil, Nat.reduceAdd, Nat.zero_add, Nat.reduceLT, Nat.reduceEqDiff, decide_true, decide_false, Bool.and_self, Bool.and_true, Bool.true_and, ↓reduceIte, List.set_cons_zero, List.set_cons_succ, Nat.reduceSub, Nat.add_left_cancel_iff, Nat.add_eq_left, Nat.left_eq_add, not_true_eq_false, not_false_eq_true, reduceCtorEq, i10, i01, ib10, ib01, beq_self_eq_true, eq_self, Int32.reduceLT, Int32.reduceToNatClampNeg, Int32.reduceAdd, Int32.reduceSub, Int32.reduceMul, Bool.or_true, Bool.true_or, Bool.or_false, Bool.false_or, Nat.reduceBEq, Nat.reduceMul, k1, hH, e0, hs, e1, z2_0, z2_1, rStep]
theorem c_step2_3 (hj : j < S) (hS : S ≤ 20) (h3 : σ.1 3 = nI S) (hI : RI k σ.1) : cEq 58 a [.int (nI j), .int 3] σ (rStep σ.1 S j 3) σ := by
  refine cEq.same fun h hC => ?_
  obtain ⟨k1, k2, k3, k4, k5, k6, k7, k8⟩ := hC; unfold CO at k1; obtain ⟨S', q, ri, tr, ft, hA, hR⟩ := k2; have hH := hA.1; have hs := hA.2.1.1
  obtain rfl : S = S' := (nI_eq (by omega) (by have := hR.1; omega)).mp (h3.symm.trans hR.2.1)
  have e0 := p_has (nI j) hA.2.1; rw [hR.i3, if_neg (nI_pos (show j < 2 ^ 31 by omega)), if_pos (nI_lt hj (show S < 2 ^ 31 by omega))] at e0
  have e1 := p_lengthBelow (nI j) hA.2.1
  rw [hR.fo (by omega)] at e1
  simp only [c58, q58_0, q58_1, q58_4, q58_7, q58_8, q58_11, q58_14, q58_15, q58_16, q58_17, q58_64, q58_65, q58_68, q58_71, q58_72, q58_75, q58_76, q58_77, q58_80, q58_83, q58_84, q58_87, q58_88, q58_89, q58_92, q58_95, q58_96, q58_99, q58_100, q58_101, q58_104, q58_107, q58_108, q58_111, q58_112, q58_113, q58_116, q58_117, q58_120, q58_121, q58_122, q58_125, q58_126, q58_129, q58_132, q58_133, q58_136, q58_137, q58_140, q58_143, q58_145, q58_146, q58_147, q58_150, q58_151, q58_154, q58_157, q58_158, q58_161, q58_162, q58_165, q58_168, q58_170, q58_171, q58_172, q58_175, q58_176, q58_179, q58_182, q58_183, q58_186, q58_187, q58_190, q58_193, q58_195, q58_196, q58_198, rv_v, rv_n, rh_v, mu_at, isF_r, isK_r, fld_r, fset_r, gd0, gd1, gd2, gd3, gd4, gd5, gd6, gd7, gd8, gd9, gd10, gd11, gd12, gd13, inA_l, inW_l, inZ_l, inQ_l, aget_l, aset_l, qget_l, qset_l, isA_l, isA_q, alen_l, k2_i, k2_a, k2_n, k2_u, k2_l, ite_si, Option.isSome_some, List.cons_append, List.nil_append, List.length_cons, List.length_nil, Nat.reduceAdd, Nat.zero_add, Nat.reduceLT, Nat.reduceEqDiff, decide_true, decide_false, Bool.and_self, Bool.and_true, Bool.true_and, ↓reduceIte, List.set_cons_zero, List.set_cons_succ, Nat.reduceSub, Nat.add_left_cancel_iff, Nat.add_eq_left, Nat.left_eq_add, not_true_eq_false, not_false_eq_true, reduceCtorEq, i10, i01, ib10, ib01, beq_self_eq_true, eq_self, Int32.reduceLT, Int32.reduceToNatClampNeg, Int32.reduceAdd, Int32.reduceSub, Int32.reduceMul, Bool.or_true, Bool.true_or, Bool.or_false, Bool.false_or, Nat.reduceBEq, Nat.reduceMul, k1, hH, e0, hs, e1, z3_0, z3_1, z3_2, rStep]
theorem c_step2_4 (hj : j < S) (hS : S ≤ 20) (h3 : σ.1 3 = nI S) (hI : RI k σ.1) : cEq 58 a [.int (nI j), .int 4] σ (rStep σ.1 S j 4) σ := by
  refine cEq.same fun h hC => ?_
  obtain ⟨k1, k2, k3, k4, k5, k6, k7, k8⟩ := hC; unfold CO at k1; obtain ⟨S', q, ri, tr, ft, hA, hR⟩ := k2; have hH := hA.1; have hs := hA.2.1.1
  obtain rfl : S = S' := (nI_eq (by omega) (by have := hR.1; omega)).mp (h3.symm.trans hR.2.1)
  have e0 := p_has (nI j) hA.2.1; rw [hR.i3, if_neg (nI_pos (show j < 2 ^ 31 by omega)), if_pos (nI_lt hj (show S < 2 ^ 31 by omega))] at e0
  have e1 := p_layerOf (nI j) hA
  rw [show (if nI j < q 5 then (0 : Int32) else if isL q (nI j) = 0 then -6 else 1) = rStep σ.1 S j 4 from by
    show _ = if nI j < σ.1 45 then (0 : Int32) else if nI j < σ.1 3 - σ.1 50 then -6 else 1
    unfold isL
    rw [hR.i5, hR.i3, hR.i10, hR.2.1]
    by_cases ca : nI j < σ.1 45
    · rw [if_pos ca, if_pos ca]
    · rw [if_neg ca, if_neg ca, if_neg ca]
      by_cases cb : nI j < nI S - σ.1 50
      · rw [if_pos cb, if_pos cb, if_pos rfl]
      · rw [if_neg cb, if_neg cb, if_neg (by decide)]] at e1
  simp only [c58, q58_0, q58_1, q58_4, q58_7, q58_8, q58_11, q58_14, q58_15, q58_16, q58_17, q58_64, q58_65, q58_68, q58_71, q58_72, q58_75, q58_76, q58_77, q58_80, q58_83, q58_84, q58_87, q58_88, q58_89, q58_92, q58_95, q58_96, q58_99, q58_100, q58_101, q58_104, q58_107, q58_108, q58_111, q58_112, q58_113, q58_116, q58_117, q58_120, q58_121, q58_122, q58_125, q58_126, q58_129, q58_132, q58_133, q58_136, q58_137, q58_140, q58_143, q58_145, q58_146, q58_147, q58_150, q58_151, q58_154, q58_157, q58_158, q58_161, q58_162, q58_165, q58_168, q58_170, q58_171, q58_172, q58_175, q58_176, q58_179, q58_182, q58_183, q58_186, q58_187, q58_190, q58_193, q58_195, q58_196, q58_198, rv_v, rv_n, rh_v, mu_at, isF_r, isK_r, fld_r, fset_r, gd0, gd1, gd2, gd3, gd4, gd5, gd6, gd7, gd8, gd9, gd10, gd11, gd12, gd13, inA_l, inW_l, inZ_l, inQ_l, aget_l, aset_l, qget_l, qset_l, isA_l, isA_q, alen_l, k2_i, k2_a, k2_n, k2_u, k2_l, ite_si, Option.isSome_some, List.cons_append, List.nil_append, List.length_cons, List.length_nil, Nat.reduceAdd, Nat.zero_add, Nat.reduceLT, Nat.reduceEqDiff, decide_true, decide_false, Bool.and_self, Bool.and_true, Bool.true_and, ↓reduceIte, List.set_cons_zero, List.set_cons_succ, Nat.reduceSub, Nat.add_left_cancel_iff, Nat.add_eq_left, Nat.left_eq_add, not_true_eq_false, not_false_eq_true, reduceCtorEq, i10, i01, ib10, ib01, beq_self_eq_true, eq_self, Int32.reduceLT, Int32.reduceToNatClampNeg, Int32.reduceAdd, Int32.reduceSub, Int32.reduceMul, Bool.or_true, Bool.true_or, Bool.or_false, Bool.false_or, Nat.reduceBEq, Nat.reduceMul, k1, hH, e0, hs, e1, z4_0, z4_1, z4_2, z4_3]
theorem c_step2_5 (hj : j < S) (hS : S ≤ 20) (h3 : σ.1 3 = nI S) (hI : RI k σ.1) : cEq 58 a [.int (nI j), .int 5] σ (rStep σ.1 S j 5) σ := by
  refine cEq.same fun h hC => ?_
  obtain ⟨k1, k2, k3, k4, k5, k6, k7, k8⟩ := hC; unfold CO at k1; obtain ⟨S', q, ri, tr, ft, hA, hR⟩ := k2; have hH := hA.1; have hs := hA.2.1.1
  obtain rfl : S = S' := (nI_eq (by omega) (by have := hR.1; omega)).mp (h3.symm.trans hR.2.1)
  have e0 := p_has (nI j) hA.2.1; rw [hR.i3, if_neg (nI_pos (show j < 2 ^ 31 by omega)), if_pos (nI_lt hj (show S < 2 ^ 31 by omega))] at e0
  have eL := p_isLaid (nI j) hA; rw [show isL q (nI j) = (if nI j < σ.1 45 then 1 else if nI j < σ.1 3 - σ.1 50 then 0 else 1) from by unfold isL; rw [hR.i5, hR.i3, hR.i10, hR.2.1]] at eL
  have eP := p_phaseOf (nI j) hA; rw [show pO q ft (nI j) = (if nI j < σ.1 45 then mB σ.1 j else mA σ.1 S j) from by unfold pO; rw [hR.i5, hR.hB (by omega), hR.hA (by omega)]] at eP
  by_cases ca : nI j < σ.1 45
  · rw [if_pos ca] at eL eP
    simp only [c58, q58_0, q58_1, q58_4, q58_7, q58_8, q58_11, q58_14, q58_15, q58_16, q58_17, q58_64, q58_65, q58_68, q58_71, q58_72, q58_75, q58_76, q58_77, q58_80, q58_83, q58_84, q58_87, q58_88, q58_89, q58_92, q58_95, q58_96, q58_99, q58_100, q58_101, q58_104, q58_107, q58_108, q58_111, q58_112, q58_113, q58_116, q58_117, q58_120, q58_121, q58_122, q58_125, q58_126, q58_129, q58_132, q58_133, q58_136, q58_137, q58_140, q58_143, q58_145, q58_146, q58_147, q58_150, q58_151, q58_154, q58_157, q58_158, q58_161, q58_162, q58_165, q58_168, q58_170, q58_171, q58_172, q58_175, q58_176, q58_179, q58_182, q58_183, q58_186, q58_187, q58_190, q58_193, q58_195, q58_196, q58_198, rv_v, rv_n, rh_v, mu_at, isF_r, isK_r, fld_r, fset_r, gd0, gd1, gd2, gd3, gd4, gd5, gd6, gd7, gd8, gd9, gd10, gd11, gd12, gd13, inA_l, inW_l, inZ_l, inQ_l, aget_l, aset_l, qget_l, qset_l, isA_l, isA_q, alen_l, k2_i, k2_a, k2_n, k2_u, k2_l, ite_si, Option.isSome_some, List.cons_append, List.nil_append, List.length_cons, List.length_nil, Nat.reduceAdd, Nat.zero_add, Nat.reduceLT, Nat.reduceEqDiff, decide_true, decide_false, Bool.and_self, Bool.and_true, Bool.true_and, ↓reduceIte, List.set_cons_zero, List.set_cons_succ, Nat.reduceSub, Nat.add_left_cancel_iff, Nat.add_eq_left, Nat.left_eq_add, not_true_eq_false, not_false_eq_true, reduceCtorEq, i10, i01, ib10, ib01, beq_self_eq_true, eq_self, Int32.reduceLT, Int32.reduceToNatClampNeg, Int32.reduceAdd, Int32.reduceSub, Int32.reduceMul, Bool.or_true, Bool.true_or, Bool.or_false, Bool.false_or, Nat.reduceBEq, Nat.reduceMul, k1, hH, e0, hs, eL, eP, z5_0, z5_1, z5_2, z5_3, z5_4, rStep, mP, if_pos ca]
  · by_cases cb : nI j < σ.1 3 - σ.1 50
    · rw [if_neg ca, if_pos cb] at eL
      simp only [c58, q58_0, q58_1, q58_4, q58_7, q58_8, q58_11, q58_14, q58_15, q58_16, q58_17, q58_64, q58_65, q58_68, q58_71, q58_72, q58_75, q58_76, q58_77, q58_80, q58_83, q58_84, q58_87, q58_88, q58_89, q58_92, q58_95, q58_96, q58_99, q58_100, q58_101, q58_104, q58_107, q58_108, q58_111, q58_112, q58_113, q58_116, q58_117, q58_120, q58_121, q58_122, q58_125, q58_126, q58_129, q58_132, q58_133, q58_136, q58_137, q58_140, q58_143, q58_145, q58_146, q58_147, q58_150, q58_151, q58_154, q58_157, q58_158, q58_161, q58_162, q58_165, q58_168, q58_170, q58_171, q58_172, q58_175, q58_176, q58_179, q58_182, q58_183, q58_186, q58_187, q58_190, q58_193, q58_195, q58_196, q58_198, rv_v, rv_n, rh_v, mu_at, isF_r, isK_r, fld_r, fset_r, gd0, gd1, gd2, gd3, gd4, gd5, gd6, gd7, gd8, gd9, gd10, gd11, gd12, gd13, inA_l, inW_l, inZ_l, inQ_l, aget_l, aset_l, qget_l, qset_l, isA_l, isA_q, alen_l, k2_i, k2_a, k2_n, k2_u, k2_l, ite_si, Option.isSome_some, List.cons_append, List.nil_append, List.length_cons, List.length_nil, Nat.reduceAdd, Nat.zero_add, Nat.reduceLT, Nat.reduceEqDiff, decide_true, decide_false, Bool.and_self, Bool.and_true, Bool.true_and, ↓reduceIte, List.set_cons_zero, List.set_cons_succ, Nat.reduceSub, Nat.add_left_cancel_iff, Nat.add_eq_left, Nat.left_eq_add, not_true_eq_false, not_false_eq_true, reduceCtorEq, i10, i01, ib10, ib01, beq_self_eq_true, eq_self, Int32.reduceLT, Int32.reduceToNatClampNeg, Int32.reduceAdd, Int32.reduceSub, Int32.reduceMul, Bool.or_true, Bool.true_or, Bool.or_false, Bool.false_or, Nat.reduceBEq, Nat.reduceMul, k1, hH, e0, hs, eL, z5_0, z5_1, z5_2, z5_3, z5_4, rStep, mP, if_neg ca, if_pos cb]
    · rw [if_neg ca, if_neg cb] at eL
      rw [if_neg ca] at eP
      simp only [c58, q58_0, q58_1, q58_4, q58_7, q58_8, q58_11, q58_14, q58_15, q58_16, q58_17, q58_64, q58_65, q58_68, q58_71, q58_72, q58_75, q58_76, q58_77, q58_80, q58_83, q58_84, q58_87, q58_88, q58_89, q58_92, q58_95, q58_96, q58_99, q58_100, q58_101, q58_104, q58_107, q58_108, q58_111, q58_112, q58_113, q58_116, q58_117, q58_120, q58_121, q58_122, q58_125, q58_126, q58_129, q58_132, q58_133, q58_136, q58_137, q58_140, q58_143, q58_145, q58_146, q58_147, q58_150, q58_151, q58_154, q58_157, q58_158, q58_161, q58_162, q58_165, q58_168, q58_170, q58_171, q58_172, q58_175, q58_176, q58_179, q58_182, q58_183, q58_186, q58_187, q58_190, q58_193, q58_195, q58_196, q58_198, rv_v, rv_n, rh_v, mu_at, isF_r, isK_r, fld_r, fset_r, gd0, gd1, gd2, gd3, gd4, gd5, gd6, gd7, gd8, gd9, gd10, gd11, gd12, gd13, inA_l, inW_l, inZ_l, inQ_l, aget_l, aset_l, qget_l, qset_l, isA_l, isA_q, alen_l, k2_i, k2_a, k2_n, k2_u, k2_l, ite_si, Option.isSome_some, List.cons_append, List.nil_append, List.length_cons, List.length_nil, Nat.reduceAdd, Nat.zero_add, Nat.reduceLT, Nat.reduceEqDiff, decide_true, decide_false, Bool.and_self, Bool.and_true, Bool.true_and, ↓reduceIte, List.set_cons_zero, List.set_cons_succ, Nat.reduceSub, Nat.add_left_cancel_iff, Nat.add_eq_left, Nat.left_eq_add, not_true_eq_false, not_false_eq_true, reduceCtorEq, i10, i01, ib10, ib01, beq_self_eq_true, eq_self, Int32.reduceLT, Int32.reduceToNatClampNeg, Int32.reduceAdd, Int32.reduceSub, Int32.reduceMul, Bool.or_true, Bool.true_or, Bool.or_false, Bool.false_or, Nat.reduceBEq, Nat.reduceMul, k1, hH, e0, hs, eL, eP, z5_0, z5_1, z5_2, z5_3, z5_4, rStep, mP, if_neg ca, if_neg cb]
theorem c_step2_6 (hj : j < S) (hS : S ≤ 20) (h3 : σ.1 3 = nI S) (hI : RI k σ.1) : cEq 58 a [.int (nI j), .int 6] σ (rStep σ.1 S j 6) σ := by
  refine cEq.same fun h hC => ?_
  obtain ⟨k1, k2, k3, k4, k5, k6, k7, k8⟩ := hC; unfold CO at k1; obtain ⟨S', q, ri, tr, ft, hA, hR⟩ := k2; have hH := hA.1; have hs := hA.2.1.1
  obtain rfl : S = S' := (nI_eq (by omega) (by have := hR.1; omega)).mp (h3.symm.trans hR.2.1)
  have e0 := p_has (nI j) hA.2.1; rw [hR.i3, if_neg (nI_pos (show j < 2 ^ 31 by omega)), if_pos (nI_lt hj (show S < 2 ^ 31 by omega))] at e0
  have eL := p_isLaid (nI j) hA; rw [show isL q (nI j) = (if nI j < σ.1 45 then 1 else if nI j < σ.1 3 - σ.1 50 then 0 else 1) from by unfold isL; rw [hR.i5, hR.i3, hR.i10, hR.2.1]] at eL
  obtain ⟨R, eR, r2, r60⟩ := hI.rep
  have eE := p_endOf (nI j) hA
  rw [hR.hl hj, hR.i0, show pO q ft (nI j) = (if nI j < σ.1 45 then mB σ.1 j else mA σ.1 S j) from by unfold pO; rw [hR.i5, hR.hB (by omega), hR.hA (by omega)]] at eE
  by_cases ca : nI j < σ.1 45
  · obtain ⟨P, eP, hP⟩ := hI.mBn eR (by omega) (by omega) j
    have n6 : ¬ mB σ.1 j = -6 := by rw [eP]; exact nI_n6 (by omega)
    rw [if_pos ca] at eL eE
    simp only [c58, q58_0, q58_1, q58_4, q58_7, q58_8, q58_11, q58_14, q58_15, q58_16, q58_17, q58_64, q58_65, q58_68, q58_71, q58_72, q58_75, q58_76, q58_77, q58_80, q58_83, q58_84, q58_87, q58_88, q58_89, q58_92, q58_95, q58_96, q58_99, q58_100, q58_101, q58_104, q58_107, q58_108, q58_111, q58_112, q58_113, q58_116, q58_117, q58_120, q58_121, q58_122, q58_125, q58_126, q58_129, q58_132, q58_133, q58_136, q58_137, q58_140, q58_143, q58_145, q58_146, q58_147, q58_150, q58_151, q58_154, q58_157, q58_158, q58_161, q58_162, q58_165, q58_168, q58_170, q58_171, q58_172, q58_175, q58_176, q58_179, q58_182, q58_183, q58_186, q58_187, q58_190, q58_193, q58_195, q58_196, q58_198, rv_v, rv_n, rh_v, mu_at, isF_r, isK_r, fld_r, fset_r, gd0, gd1, gd2, gd3, gd4, gd5, gd6, gd7, gd8, gd9, gd10, gd11, gd12, gd13, inA_l, inW_l, inZ_l, inQ_l, aget_l, aset_l, qget_l, qset_l, isA_l, isA_q, alen_l, k2_i, k2_a, k2_n, k2_u, k2_l, ite_si, Option.isSome_some, List.cons_append, List.nil_append, List.length_cons, List.length_nil, Nat.reduceAdd, Nat.zero_add, Nat.reduceLT, Nat.reduceEqDiff, decide_true, decide_false, Bool.and_self, Bool.and_true, Bool.true_and, ↓reduceIte, List.set_cons_zero, List.set_cons_succ, Nat.reduceSub, Nat.add_left_cancel_iff, Nat.add_eq_left, Nat.left_eq_add, not_true_eq_false, not_false_eq_true, reduceCtorEq, i10, i01, ib10, ib01, beq_self_eq_true, eq_self, Int32.reduceLT, Int32.reduceToNatClampNeg, Int32.reduceAdd, Int32.reduceSub, Int32.reduceMul, Bool.or_true, Bool.true_or, Bool.or_false, Bool.false_or, Nat.reduceBEq, Nat.reduceMul, k1, hH, e0, hs, eL, eE, z6_0, z6_1, z6_2, z6_3, z6_4, z6_5, rStep, mP, if_pos ca, if_neg n6]
  · by_cases cb : nI j < σ.1 3 - σ.1 50
    · rw [if_neg ca, if_pos cb] at eL
      simp only [c58, q58_0, q58_1, q58_4, q58_7, q58_8, q58_11, q58_14, q58_15, q58_16, q58_17, q58_64, q58_65, q58_68, q58_71, q58_72, q58_75, q58_76, q58_77, q58_80, q58_83, q58_84, q58_87, q58_88, q58_89, q58_92, q58_95, q58_96, q58_99, q58_100, q58_101, q58_104, q58_107, q58_108, q58_111, q58_112, q58_113, q58_116, q58_117, q58_120, q58_121, q58_122, q58_125, q58_126, q58_129, q58_132, q58_133, q58_136, q58_137, q58_140, q58_143, q58_145, q58_146, q58_147, q58_150, q58_151, q58_154, q58_157, q58_158, q58_161, q58_162, q58_165, q58_168, q58_170, q58_171, q58_172, q58_175, q58_176, q58_179, q58_182, q58_183, q58_186, q58_187, q58_190, q58_193, q58_195, q58_196, q58_198, rv_v, rv_n, rh_v, mu_at, isF_r, isK_r, fld_r, fset_r, gd0, gd1, gd2, gd3, gd4, gd5, gd6, gd7, gd8, gd9, gd10, gd11, gd12, gd13, inA_l, inW_l, inZ_l, inQ_l, aget_l, aset_l, qget_l, qset_l, isA_l, isA_q, alen_l, k2_i, k2_a, k2_n, k2_u, k2_l, ite_si, Option.isSome_some, List.cons_append, List.nil_append, List.length_cons, List.length_nil, Nat.reduceAdd, Nat.zero_add, Nat.reduceLT, Nat.reduceEqDiff, decide_true, decide_false, Bool.and_self, Bool.and_true, Bool.true_and, ↓reduceIte, List.set_cons_zero, List.set_cons_succ, Nat.reduceSub, Nat.add_left_cancel_iff, Nat.add_eq_left, Nat.left_eq_add, not_true_eq_false, not_false_eq_true, reduceCtorEq, i10, i01, ib10, ib01, beq_self_eq_true, eq_self, Int32.reduceLT, Int32.reduceToNatClampNeg, Int32.reduceAdd, Int32.reduceSub, Int32.reduceMul, Bool.or_true, Bool.true_or, Bool.or_false, Bool.false_or, Nat.reduceBEq, Nat.reduceMul, k1, hH, e0, hs, eL, z6_0, z6_1, z6_2, z6_3, z6_4, z6_5, rStep, mP, if_neg ca, if_pos cb]
    · obtain ⟨P, eP, hP⟩ := hI.mAn eR (by omega) (by omega) S j
      have n6 : ¬ mA σ.1 S j = -6 := by rw [eP]; exact nI_n6 (by omega)
      rw [if_neg ca, if_neg cb] at eL
      rw [if_neg ca] at eE
      simp only [c58, q58_0, q58_1, q58_4, q58_7, q58_8, q58_11, q58_14, q58_15, q58_16, q58_17, q58_64, q58_65, q58_68, q58_71, q58_72, q58_75, q58_76, q58_77, q58_80, q58_83, q58_84, q58_87, q58_88, q58_89, q58_92, q58_95, q58_96, q58_99, q58_100, q58_101, q58_104, q58_107, q58_108, q58_111, q58_112, q58_113, q58_116, q58_117, q58_120, q58_121, q58_122, q58_125, q58_126, q58_129, q58_132, q58_133, q58_136, q58_137, q58_140, q58_143, q58_145, q58_146, q58_147, q58_150, q58_151, q58_154, q58_157, q58_158, q58_161, q58_162, q58_165, q58_168, q58_170, q58_171, q58_172, q58_175, q58_176, q58_179, q58_182, q58_183, q58_186, q58_187, q58_190, q58_193, q58_195, q58_196, q58_198, rv_v, rv_n, rh_v, mu_at, isF_r, isK_r, fld_r, fset_r, gd0, gd1, gd2, gd3, gd4, gd5, gd6, gd7, gd8, gd9, gd10, gd11, gd12, gd13, inA_l, inW_l, inZ_l, inQ_l, aget_l, aset_l, qget_l, qset_l, isA_l, isA_q, alen_l, k2_i, k2_a, k2_n, k2_u, k2_l, ite_si, Option.isSome_some, List.cons_append, List.nil_append, List.length_cons, List.length_nil, Nat.reduceAdd, Nat.zero_add, Nat.reduceLT, Nat.reduceEqDiff, decide_true, decide_false, Bool.and_self, Bool.and_true, Bool.true_and, ↓reduceIte, List.set_cons_zero, List.set_cons_succ, Nat.reduceSub, Nat.add_left_cancel_iff, Nat.add_eq_left, Nat.left_eq_add, not_true_eq_false, not_false_eq_true, reduceCtorEq, i10, i01, ib10, ib01, beq_self_eq_true, eq_self, Int32.reduceLT, Int32.reduceToNatClampNeg, Int32.reduceAdd, Int32.reduceSub, Int32.reduceMul, Bool.or_true, Bool.true_or, Bool.or_false, Bool.false_or, Nat.reduceBEq, Nat.reduceMul, k1, hH, e0, hs, eL, eE, z6_0, z6_1, z6_2, z6_3, z6_4, z6_5, rStep, mP, if_neg ca, if_neg cb, if_neg n6]
theorem cnt_I {P R n : Nat} (hP : P < R) (hR : R < 1000) (hn : 0 < n) (hn2 : n < 1000) : nI (cnt P R n) = if nI P = 0 then (nI P + nI n - 1) / nI R + 1 else (nI P + nI n - 1) / nI R + 0 := by
  have e1 : nI P + nI n - 1 = nI (P + n - 1) := by
    rw [show nI P + nI n = nI (P + n) from nI_add P n]
    exact pk_sub (b := 1) (by omega)
  rw [e1, pk_div (by omega) (by omega) (by omega), cnt_val hP hn]
  by_cases hz : P = 0
  · subst hz
    rw [if_pos rfl, if_pos (show nI 0 = 0 from rfl)]
    exact (nI_1 _).symm
  · rw [if_neg hz, if_neg (nI_ne0 (by omega) (by omega)), Nat.add_zero, Int32.add_zero]
theorem c_step2_7 (hj : j < S) (hS : S ≤ 20) (h3 : σ.1 3 = nI S) (hI : RI k σ.1) : cEq 58 a [.int (nI j), .int 7] σ (rStep σ.1 S j 7) σ := by
  refine cEq.same fun h hC => ?_
  obtain ⟨k1, k2, k3, k4, k5, k6, k7, k8⟩ := hC; unfold CO at k1; obtain ⟨S', q, ri, tr, ft, hA, hR⟩ := k2; have hH := hA.1; have hs := hA.2.1.1
  obtain rfl : S = S' := (nI_eq (by omega) (by have := hR.1; omega)).mp (h3.symm.trans hR.2.1)
  have e0 := p_has (nI j) hA.2.1; rw [hR.i3, if_neg (nI_pos (show j < 2 ^ 31 by omega)), if_pos (nI_lt hj (show S < 2 ^ 31 by omega))] at e0
  have eL := p_isLaid (nI j) hA; rw [show isL q (nI j) = (if nI j < σ.1 45 then 1 else if nI j < σ.1 3 - σ.1 50 then 0 else 1) from by unfold isL; rw [hR.i5, hR.i3, hR.i10, hR.2.1]] at eL
  obtain ⟨R, eR, r2, r60⟩ := hI.rep
  obtain ⟨len, el, l1, l2⟩ := hI.len h3 hS hj
  have eO : pO q ft (nI j) = (if nI j < σ.1 45 then mB σ.1 j else mA σ.1 S j) := by unfold pO; rw [hR.i5, hR.hB (by omega), hR.hA (by omega)]
  by_cases ca : nI j < σ.1 45
  · obtain ⟨P, eP, hP⟩ := hI.mBn eR (by omega) (by omega) j
    have n6 : ¬ nI P = -6 := nI_n6 (by omega)
    rw [if_pos ca] at eL eO
    have eE := p_pattern hA (hR.i0.trans eR) (eO.trans eP) ((hR.hl hj).trans el) (by omega) (by omega) (by omega) (by omega)
    rw [cnt_I hP (by omega) (by omega) (by omega), ← eR, ← el] at eE
    simp only [c58, q58_0, q58_1, q58_4, q58_7, q58_8, q58_11, q58_14, q58_15, q58_16, q58_17, q58_64, q58_65, q58_68, q58_71, q58_72, q58_75, q58_76, q58_77, q58_80, q58_83, q58_84, q58_87, q58_88, q58_89, q58_92, q58_95, q58_96, q58_99, q58_100, q58_101, q58_104, q58_107, q58_108, q58_111, q58_112, q58_113, q58_116, q58_117, q58_120, q58_121, q58_122, q58_125, q58_126, q58_129, q58_132, q58_133, q58_136, q58_137, q58_140, q58_143, q58_145, q58_146, q58_147, q58_150, q58_151, q58_154, q58_157, q58_158, q58_161, q58_162, q58_165, q58_168, q58_170, q58_171, q58_172, q58_175, q58_176, q58_179, q58_182, q58_183, q58_186, q58_187, q58_190, q58_193, q58_195, q58_196, q58_198, rv_v, rv_n, rh_v, mu_at, isF_r, isK_r, fld_r, fset_r, gd0, gd1, gd2, gd3, gd4, gd5, gd6, gd7, gd8, gd9, gd10, gd11, gd12, gd13, inA_l, inW_l, inZ_l, inQ_l, aget_l, aset_l, qget_l, qset_l, isA_l, isA_q, alen_l, k2_i, k2_a, k2_n, k2_u, k2_l, ite_si, Option.isSome_some, List.cons_append, List.nil_append, List.length_cons, List.length_nil, Nat.reduceAdd, Nat.zero_add, Nat.reduceLT, Nat.reduceEqDiff, decide_true, decide_false, Bool.and_self, Bool.and_true, Bool.true_and, ↓reduceIte, List.set_cons_zero, List.set_cons_succ, Nat.reduceSub, Nat.add_left_cancel_iff, Nat.add_eq_left, Nat.left_eq_add, not_true_eq_false, not_false_eq_true, reduceCtorEq, i10, i01, ib10, ib01, beq_self_eq_true, eq_self, Int32.reduceLT, Int32.reduceToNatClampNeg, Int32.reduceAdd, Int32.reduceSub, Int32.reduceMul, Bool.or_true, Bool.true_or, Bool.or_false, Bool.false_or, Nat.reduceBEq, Nat.reduceMul, k1, hH, e0, hs, eL, eE, z7_0, z7_1, z7_2, z7_3, z7_4, z7_5, z7_6, rStep, mP, if_pos ca, eP, if_neg n6]
  · by_cases cb : nI j < σ.1 3 - σ.1 50
    · rw [if_neg ca, if_pos cb] at eL
      simp only [c58, q58_0, q58_1, q58_4, q58_7, q58_8, q58_11, q58_14, q58_15, q58_16, q58_17, q58_64, q58_65, q58_68, q58_71, q58_72, q58_75, q58_76, q58_77, q58_80, q58_83, q58_84, q58_87, q58_88, q58_89, q58_92, q58_95, q58_96, q58_99, q58_100, q58_101, q58_104, q58_107, q58_108, q58_111, q58_112, q58_113, q58_116, q58_117, q58_120, q58_121, q58_122, q58_125, q58_126, q58_129, q58_132, q58_133, q58_136, q58_137, q58_140, q58_143, q58_145, q58_146, q58_147, q58_150, q58_151, q58_154, q58_157, q58_158, q58_161, q58_162, q58_165, q58_168, q58_170, q58_171, q58_172, q58_175, q58_176, q58_179, q58_182, q58_183, q58_186, q58_187, q58_190, q58_193, q58_195, q58_196, q58_198, rv_v, rv_n, rh_v, mu_at, isF_r, isK_r, fld_r, fset_r, gd0, gd1, gd2, gd3, gd4, gd5, gd6, gd7, gd8, gd9, gd10, gd11, gd12, gd13, inA_l, inW_l, inZ_l, inQ_l, aget_l, aset_l, qget_l, qset_l, isA_l, isA_q, alen_l, k2_i, k2_a, k2_n, k2_u, k2_l, ite_si, Option.isSome_some, List.cons_append, List.nil_append, List.length_cons, List.length_nil, Nat.reduceAdd, Nat.zero_add, Nat.reduceLT, Nat.reduceEqDiff, decide_true, decide_false, Bool.and_self, Bool.and_true, Bool.true_and, ↓reduceIte, List.set_cons_zero, List.set_cons_succ, Nat.reduceSub, Nat.add_left_cancel_iff, Nat.add_eq_left, Nat.left_eq_add, not_true_eq_false, not_false_eq_true, reduceCtorEq, i10, i01, ib10, ib01, beq_self_eq_true, eq_self, Int32.reduceLT, Int32.reduceToNatClampNeg, Int32.reduceAdd, Int32.reduceSub, Int32.reduceMul, Bool.or_true, Bool.true_or, Bool.or_false, Bool.false_or, Nat.reduceBEq, Nat.reduceMul, k1, hH, e0, hs, eL, z7_0, z7_1, z7_2, z7_3, z7_4, z7_5, z7_6, rStep, mP, if_neg ca, if_pos cb]
    · obtain ⟨P, eP, hP⟩ := hI.mAn eR (by omega) (by omega) S j
      have n6 : ¬ nI P = -6 := nI_n6 (by omega)
      rw [if_neg ca, if_neg cb] at eL
      rw [if_neg ca] at eO
      have eE := p_pattern hA (hR.i0.trans eR) (eO.trans eP) ((hR.hl hj).trans el) (by omega) (by omega) (by omega) (by omega)
      rw [cnt_I hP (by omega) (by omega) (by omega), ← eR, ← el] at eE
      simp only [c58, q58_0, q58_1, q58_4, q58_7, q58_8, q58_11, q58_14, q58_15, q58_16, q58_17, q58_64, q58_65, q58_68, q58_71, q58_72, q58_75, q58_76, q58_77, q58_80, q58_83, q58_84, q58_87, q58_88, q58_89, q58_92, q58_95, q58_96, q58_99, q58_100, q58_101, q58_104, q58_107, q58_108, q58_111, q58_112, q58_113, q58_116, q58_117, q58_120, q58_121, q58_122, q58_125, q58_126, q58_129, q58_132, q58_133, q58_136, q58_137, q58_140, q58_143, q58_145, q58_146, q58_147, q58_150, q58_151, q58_154, q58_157, q58_158, q58_161, q58_162, q58_165, q58_168, q58_170, q58_171, q58_172, q58_175, q58_176, q58_179, q58_182, q58_183, q58_186, q58_187, q58_190, q58_193, q58_195, q58_196, q58_198, rv_v, rv_n, rh_v, mu_at, isF_r, isK_r, fld_r, fset_r, gd0, gd1, gd2, gd3, gd4, gd5, gd6, gd7, gd8, gd9, gd10, gd11, gd12, gd13, inA_l, inW_l, inZ_l, inQ_l, aget_l, aset_l, qget_l, qset_l, isA_l, isA_q, alen_l, k2_i, k2_a, k2_n, k2_u, k2_l, ite_si, Option.isSome_some, List.cons_append, List.nil_append, List.length_cons, List.length_nil, Nat.reduceAdd, Nat.zero_add, Nat.reduceLT, Nat.reduceEqDiff, decide_true, decide_false, Bool.and_self, Bool.and_true, Bool.true_and, ↓reduceIte, List.set_cons_zero, List.set_cons_succ, Nat.reduceSub, Nat.add_left_cancel_iff, Nat.add_eq_left, Nat.left_eq_add, not_true_eq_false, not_false_eq_true, reduceCtorEq, i10, i01, ib10, ib01, beq_self_eq_true, eq_self, Int32.reduceLT, Int32.reduceToNatClampNeg, Int32.reduceAdd, Int32.reduceSub, Int32.reduceMul, Bool.or_true, Bool.true_or, Bool.or_false, Bool.false_or, Nat.reduceBEq, Nat.reduceMul, k1, hH, e0, hs, eL, eE, z7_0, z7_1, z7_2, z7_3, z7_4, z7_5, z7_6, rStep, mP, if_neg ca, if_neg cb, eP, if_neg n6]
end
end
