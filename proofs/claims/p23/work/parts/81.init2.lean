theorem p_iHouse {a s : Nat} {m : xM} (h0 : m a = .inr (2, [.int 0, .int 0, .int 0, .null, .null, .null])) : ∃ m', cl 6 [.ref a] ((a + 1, s), m) = some (none, ((a + 7, s + 77), m')) ∧ Hou m' a r0 ∧ ∀ x, (x < a ∨ a + 7 ≤ x) → m' x = m x := by
  obtain ⟨m1, e1, g1, f1⟩ := p_iStairs (a := a + 1) (s := s + 4) (m := mu (mu m a (.inr (2, [.int 24, .int 120, .int 0, .null, .null, .null]))) (a + 1) (.inr (6, [.null, .null, .null, .int 0]))) (mu_s _ _ _)
  have ha : m1 a = .inr (2, [.int 24, .int 120, .int 0, .null, .null, .null]) := by rw [f1 _ (by omega), mu_n _ _ (by omega), mu_s]
  have hs := g1.1
  have f1' : ∀ x, (x < a ∨ a + 7 ≤ x) → m1 x = m x := fun x hx => by rw [f1 _ (by omega), mu_n _ _ (by omega), mu_n _ _ (by omega)]
  simp only [Nat.add_assoc, Nat.reduceAdd] at e1
  obtain ⟨r, hr⟩ : ∃ r, cl 6 [.ref a] ((a + 1, s), m) = r := ⟨_, rfl⟩
  have hr' := hr
  simp only [c6, q6_0, q6_1, q6_4, q6_5, q6_7, q6_10, q6_11, q6_13, q6_16, q6_17, q6_18, q6_21, q6_22, q6_25, q6_26, q6_29, q6_32, q6_33, q6_36, q6_37, q6_38, q6_41, q6_44, q6_45, q6_48, q6_49, q6_50, q6_53, q6_56, rv_v, rv_n, rh_v, mu_at, isF_r, isK_r, fld_r, fset_r, gd0, gd1, gd2, gd3, gd4, gd5, gd6, gd7, gd8, gd9, gd10, gd11, gd12, gd13, inA_l, inW_l, inZ_l, inQ_l, aget_l, aset_l, qget_l, qset_l, isA_l, isA_q, alen_l, k2_i, k2_a, k2_n, k2_u, k2_l, ite_si, Option.isSome_some, List.cons_append, List.nil_append, List.length_cons, List.length_nil, Nat.reduceAdd, Nat.zero_add, Nat.reduceLT, Nat.reduceEqDiff, decide_true, decide_false, Bool.and_self, Bool.and_true, Bool.true_and, ↓reduceIte, List.set_cons_zero, List.set_cons_succ, Nat.reduceSub, Nat.add_left_cancel_iff, Nat.add_eq_left, Nat.left_eq_add, not_true_eq_false, not_false_eq_true, reduceCtorEq, i10, i01, ib10, ib01, beq_self_eq_true, eq_self, Int32.reduceLT, Int32.reduceToNatClampNeg, Int32.reduceAdd, Int32.reduceSub, Int32.reduceMul, Bool.or_true, Bool.true_or, Bool.or_false, Bool.false_or, Nat.reduceBEq, Nat.reduceMul, h0, Nat.add_assoc, Nat.reduceLeDiff, and_self, true_and, and_true, mu_mu, e1, ha, p_iCrew] at hr'
  refine ⟨_, hr.trans hr'.symm, ⟨0, q0, _, _, _, ⟨?_, ?_, ?_, ?_⟩, RR0⟩, fun x hx => ?_⟩
  · simp only [rv_v, rv_n, rh_v, mu_at, isF_r, isK_r, fld_r, fset_r, gd0, gd1, gd2, gd3, gd4, gd5, gd6, gd7, gd8, gd9, gd10, gd11, gd12, gd13, inA_l, inW_l, inZ_l, inQ_l, aget_l, aset_l, qget_l, qset_l, isA_l, isA_q, alen_l, k2_i, k2_a, k2_n, k2_u, k2_l, ite_si, Option.isSome_some, List.cons_append, List.nil_append, List.length_cons, List.length_nil, Nat.reduceAdd, Nat.zero_add, Nat.reduceLT, Nat.reduceEqDiff, decide_true, decide_false, Bool.and_self, Bool.and_true, Bool.true_and, ↓reduceIte, List.set_cons_zero, List.set_cons_succ, Nat.reduceSub, Nat.add_left_cancel_iff, Nat.add_eq_left, Nat.left_eq_add, not_true_eq_false, not_false_eq_true, reduceCtorEq, i10, i01, ib10, ib01, beq_self_eq_true, eq_self, Int32.reduceLT, Int32.reduceToNatClampNeg, Int32.reduceAdd, Int32.reduceSub, Int32.reduceMul, Bool.or_true, Bool.true_or, Bool.or_false, Bool.false_or, Nat.reduceBEq, Nat.reduceMul, Nat.add_assoc, Nat.reduceAdd]
    rfl
  · refine g1.fr (fun x hx => ?_)
    have n0 : ¬ x = a := by omega
    have n1 : ¬ x = a + 5 := by omega
    have n2 : ¬ x = a + 6 := by omega
    simp only [mu_at, if_neg n0, if_neg n1, if_neg n2]
  · unfold CA
    simp only [rv_v, rv_n, rh_v, mu_at, isF_r, isK_r, fld_r, fset_r, gd0, gd1, gd2, gd3, gd4, gd5, gd6, gd7, gd8, gd9, gd10, gd11, gd12, gd13, inA_l, inW_l, inZ_l, inQ_l, aget_l, aset_l, qget_l, qset_l, isA_l, isA_q, alen_l, k2_i, k2_a, k2_n, k2_u, k2_l, ite_si, Option.isSome_some, List.cons_append, List.nil_append, List.length_cons, List.length_nil, Nat.reduceAdd, Nat.zero_add, Nat.reduceLT, Nat.reduceEqDiff, decide_true, decide_false, Bool.and_self, Bool.and_true, Bool.true_and, ↓reduceIte, List.set_cons_zero, List.set_cons_succ, Nat.reduceSub, Nat.add_left_cancel_iff, Nat.add_eq_left, Nat.left_eq_add, not_true_eq_false, not_false_eq_true, reduceCtorEq, i10, i01, ib10, ib01, beq_self_eq_true, eq_self, Int32.reduceLT, Int32.reduceToNatClampNeg, Int32.reduceAdd, Int32.reduceSub, Int32.reduceMul, Bool.or_true, Bool.true_or, Bool.or_false, Bool.false_or, Nat.reduceBEq, Nat.reduceMul]
    rfl
  · unfold CA
    simp only [rv_v, rv_n, rh_v, mu_at, isF_r, isK_r, fld_r, fset_r, gd0, gd1, gd2, gd3, gd4, gd5, gd6, gd7, gd8, gd9, gd10, gd11, gd12, gd13, inA_l, inW_l, inZ_l, inQ_l, aget_l, aset_l, qget_l, qset_l, isA_l, isA_q, alen_l, k2_i, k2_a, k2_n, k2_u, k2_l, ite_si, Option.isSome_some, List.cons_append, List.nil_append, List.length_cons, List.length_nil, Nat.reduceAdd, Nat.zero_add, Nat.reduceLT, Nat.reduceEqDiff, decide_true, decide_false, Bool.and_self, Bool.and_true, Bool.true_and, ↓reduceIte, List.set_cons_zero, List.set_cons_succ, Nat.reduceSub, Nat.add_left_cancel_iff, Nat.add_eq_left, Nat.left_eq_add, not_true_eq_false, not_false_eq_true, reduceCtorEq, i10, i01, ib10, ib01, beq_self_eq_true, eq_self, Int32.reduceLT, Int32.reduceToNatClampNeg, Int32.reduceAdd, Int32.reduceSub, Int32.reduceMul, Bool.or_true, Bool.true_or, Bool.or_false, Bool.false_or, Nat.reduceBEq, Nat.reduceMul]
    rfl
  · have n0 : ¬ x = a := by omega
    have n1 : ¬ x = a + 5 := by omega
    have n2 : ¬ x = a + 6 := by omega
    simp only [mu_at, if_neg n0, if_neg n1, if_neg n2]
    exact f1' x hx
theorem p_iSlot {a s : Nat} {m : xM} (h0 : m a = .inr (5, [.null, .int 0])) : ∃ m', cl 37 [.ref a] ((a + 1, s), m) = some (none, ((a + 8, s + 83), m')) ∧ Slo m' a none ∧ ∀ x, (x < a ∨ a + 8 ≤ x) → m' x = m x := by
  obtain ⟨m1, e1, g1, f1⟩ := p_iHouse (a := a + 1) (s := s + 6) (m := mu m (a + 1) (.inr (2, [.int 0, .int 0, .int 0, .null, .null, .null]))) (mu_s _ _ _)
  have ha : m1 a = _ := (f1 _ (by omega)).trans ((mu_n _ _ (by omega)).trans h0)
  simp only [Nat.add_assoc, Nat.reduceAdd] at e1
  obtain ⟨r, hr⟩ : ∃ r, cl 37 [.ref a] ((a + 1, s), m) = r := ⟨_, rfl⟩
  have hr' := hr
  simp only [c37, q37_0, q37_1, q37_4, q37_5, q37_8, q37_9, q37_12, q37_15, q37_16, q37_17, q37_20, rv_v, rv_n, rh_v, mu_at, isF_r, isK_r, fld_r, fset_r, gd0, gd1, gd2, gd3, gd4, gd5, gd6, gd7, gd8, gd9, gd10, gd11, gd12, gd13, inA_l, inW_l, inZ_l, inQ_l, aget_l, aset_l, qget_l, qset_l, isA_l, isA_q, alen_l, k2_i, k2_a, k2_n, k2_u, k2_l, ite_si, Option.isSome_some, List.cons_append, List.nil_append, List.length_cons, List.length_nil, Nat.reduceAdd, Nat.zero_add, Nat.reduceLT, Nat.reduceEqDiff, decide_true, decide_false, Bool.and_self, Bool.and_true, Bool.true_and, ↓reduceIte, List.set_cons_zero, List.set_cons_succ, Nat.reduceSub, Nat.add_left_cancel_iff, Nat.add_eq_left, Nat.left_eq_add, not_true_eq_false, not_false_eq_true, reduceCtorEq, i10, i01, ib10, ib01, beq_self_eq_true, eq_self, Int32.reduceLT, Int32.reduceToNatClampNeg, Int32.reduceAdd, Int32.reduceSub, Int32.reduceMul, Bool.or_true, Bool.true_or, Bool.or_false, Bool.false_or, Nat.reduceBEq, Nat.reduceMul, h0, Nat.add_assoc, Nat.reduceLeDiff, and_self, true_and, and_true, mu_mu, e1, ha] at hr'
  refine ⟨_, hr.trans hr'.symm, ⟨?_, ?_, fun x hx => by cases hx⟩, fun x hx => ?_⟩
  · simp only [rv_v, rv_n, rh_v, mu_at, isF_r, isK_r, fld_r, fset_r, gd0, gd1, gd2, gd3, gd4, gd5, gd6, gd7, gd8, gd9, gd10, gd11, gd12, gd13, inA_l, inW_l, inZ_l, inQ_l, aget_l, aset_l, qget_l, qset_l, isA_l, isA_q, alen_l, k2_i, k2_a, k2_n, k2_u, k2_l, ite_si, Option.isSome_some, List.cons_append, List.nil_append, List.length_cons, List.length_nil, Nat.reduceAdd, Nat.zero_add, Nat.reduceLT, Nat.reduceEqDiff, decide_true, decide_false, Bool.and_self, Bool.and_true, Bool.true_and, ↓reduceIte, List.set_cons_zero, List.set_cons_succ, Nat.reduceSub, Nat.add_left_cancel_iff, Nat.add_eq_left, Nat.left_eq_add, not_true_eq_false, not_false_eq_true, reduceCtorEq, i10, i01, ib10, ib01, beq_self_eq_true, eq_self, Int32.reduceLT, Int32.reduceToNatClampNeg, Int32.reduceAdd, Int32.reduceSub, Int32.reduceMul, Bool.or_true, Bool.true_or, Bool.or_false, Bool.false_or, Nat.reduceBEq, Nat.reduceMul]
    rfl
  · exact g1.x.fr (fun x q1 q2 => mu_n _ _ (by omega))
  · rw [mu_n _ _ (by omega), f1 _ (by omega), mu_n _ _ (by omega)]
theorem p_iPad {a s : Nat} {m : xM} (h0 : m a = .inr (3, [.null, .int 0])) : ∃ m', cl 35 [.ref a] ((a + 1, s), m) = some (none, ((a + 2, s + 60), m')) ∧ Pd m' a [] ∧ ∀ x, (x < a ∨ a + 2 ≤ x) → m' x = m x := by
  obtain ⟨r, hr⟩ : ∃ r, cl 35 [.ref a] ((a + 1, s), m) = r := ⟨_, rfl⟩
  have hr' := hr
  simp only [c35, q35_0, q35_1, q35_4, q35_5, q35_7, q35_9, q35_12, q35_13, q35_14, q35_17, rv_v, rv_n, rh_v, mu_at, isF_r, isK_r, fld_r, fset_r, gd0, gd1, gd2, gd3, gd4, gd5, gd6, gd7, gd8, gd9, gd10, gd11, gd12, gd13, inA_l, inW_l, inZ_l, inQ_l, aget_l, aset_l, qget_l, qset_l, isA_l, isA_q, alen_l, k2_i, k2_a, k2_n, k2_u, k2_l, ite_si, Option.isSome_some, List.cons_append, List.nil_append, List.length_cons, List.length_nil, Nat.reduceAdd, Nat.zero_add, Nat.reduceLT, Nat.reduceEqDiff, decide_true, decide_false, Bool.and_self, Bool.and_true, Bool.true_and, ↓reduceIte, List.set_cons_zero, List.set_cons_succ, Nat.reduceSub, Nat.add_left_cancel_iff, Nat.add_eq_left, Nat.left_eq_add, not_true_eq_false, not_false_eq_true, reduceCtorEq, i10, i01, ib10, ib01, beq_self_eq_true, eq_self, Int32.reduceLT, Int32.reduceToNatClampNeg, Int32.reduceAdd, Int32.reduceSub, Int32.reduceMul, Bool.or_true, Bool.true_or, Bool.or_false, Bool.false_or, Nat.reduceBEq, Nat.reduceMul, h0, Nat.add_assoc, Nat.reduceLeDiff, and_self, true_and, and_true, mu_mu] at hr'
  refine ⟨_, hr.trans hr'.symm, ⟨?_, Nat.zero_le _, fun _ => 0, ?_, fun j x hj => by simp at hj⟩, fun x hx => ?_⟩
  · simp only [rv_v, rv_n, rh_v, mu_at, isF_r, isK_r, fld_r, fset_r, gd0, gd1, gd2, gd3, gd4, gd5, gd6, gd7, gd8, gd9, gd10, gd11, gd12, gd13, inA_l, inW_l, inZ_l, inQ_l, aget_l, aset_l, qget_l, qset_l, isA_l, isA_q, alen_l, k2_i, k2_a, k2_n, k2_u, k2_l, ite_si, Option.isSome_some, List.cons_append, List.nil_append, List.length_cons, List.length_nil, Nat.reduceAdd, Nat.zero_add, Nat.reduceLT, Nat.reduceEqDiff, decide_true, decide_false, Bool.and_self, Bool.and_true, Bool.true_and, ↓reduceIte, List.set_cons_zero, List.set_cons_succ, Nat.reduceSub, Nat.add_left_cancel_iff, Nat.add_eq_left, Nat.left_eq_add, not_true_eq_false, not_false_eq_true, reduceCtorEq, i10, i01, ib10, ib01, beq_self_eq_true, eq_self, Int32.reduceLT, Int32.reduceToNatClampNeg, Int32.reduceAdd, Int32.reduceSub, Int32.reduceMul, Bool.or_true, Bool.true_or, Bool.or_false, Bool.false_or, Nat.reduceBEq, Nat.reduceMul]
    rfl
  · simp only [rv_v, rv_n, rh_v, mu_at, isF_r, isK_r, fld_r, fset_r, gd0, gd1, gd2, gd3, gd4, gd5, gd6, gd7, gd8, gd9, gd10, gd11, gd12, gd13, inA_l, inW_l, inZ_l, inQ_l, aget_l, aset_l, qget_l, qset_l, isA_l, isA_q, alen_l, k2_i, k2_a, k2_n, k2_u, k2_l, ite_si, Option.isSome_some, List.cons_append, List.nil_append, List.length_cons, List.length_nil, Nat.reduceAdd, Nat.zero_add, Nat.reduceLT, Nat.reduceEqDiff, decide_true, decide_false, Bool.and_self, Bool.and_true, Bool.true_and, ↓reduceIte, List.set_cons_zero, List.set_cons_succ, Nat.reduceSub, Nat.add_left_cancel_iff, Nat.add_eq_left, Nat.left_eq_add, not_true_eq_false, not_false_eq_true, reduceCtorEq, i10, i01, ib10, ib01, beq_self_eq_true, eq_self, Int32.reduceLT, Int32.reduceToNatClampNeg, Int32.reduceAdd, Int32.reduceSub, Int32.reduceMul, Bool.or_true, Bool.true_or, Bool.or_false, Bool.false_or, Nat.reduceBEq, Nat.reduceMul]
  · rw [mu_n _ _ (by omega), mu_n _ _ (by omega)]
theorem p_iPlan {a s : Nat} {m : xM} (h0 : m a = .inr (4, [.null, .int 0, .int 0])) : ∃ m', cl 36 [.ref a] ((a + 1, s), m) = some (none, ((a + 5, s + 65), m')) ∧ Pn m' a ∧ ∀ x, (x < a ∨ a + 5 ≤ x) → m' x = m x := by
  obtain ⟨m1, e1, g1, f1⟩ := p_iStairs (a := a + 1) (s := s + 4) (m := mu m (a + 1) (.inr (6, [.null, .null, .null, .int 0]))) (mu_s _ _ _)
  have ha : m1 a = _ := (f1 _ (by omega)).trans ((mu_n _ _ (by omega)).trans h0)
  simp only [Nat.add_assoc, Nat.reduceAdd] at e1
  obtain ⟨r, hr⟩ : ∃ r, cl 36 [.ref a] ((a + 1, s), m) = r := ⟨_, rfl⟩
  have hr' := hr
  simp only [c36, q36_0, q36_1, q36_4, q36_5, q36_8, q36_9, q36_12, q36_15, q36_16, q36_17, q36_20, q36_21, q36_22, q36_25, rv_v, rv_n, rh_v, mu_at, isF_r, isK_r, fld_r, fset_r, gd0, gd1, gd2, gd3, gd4, gd5, gd6, gd7, gd8, gd9, gd10, gd11, gd12, gd13, inA_l, inW_l, inZ_l, inQ_l, aget_l, aset_l, qget_l, qset_l, isA_l, isA_q, alen_l, k2_i, k2_a, k2_n, k2_u, k2_l, ite_si, Option.isSome_some, List.cons_append, List.nil_append, List.length_cons, List.length_nil, Nat.reduceAdd, Nat.zero_add, Nat.reduceLT, Nat.reduceEqDiff, decide_true, decide_false, Bool.and_self, Bool.and_true, Bool.true_and, ↓reduceIte, List.set_cons_zero, List.set_cons_succ, Nat.reduceSub, Nat.add_left_cancel_iff, Nat.add_eq_left, Nat.left_eq_add, not_true_eq_false, not_false_eq_true, reduceCtorEq, i10, i01, ib10, ib01, beq_self_eq_true, eq_self, Int32.reduceLT, Int32.reduceToNatClampNeg, Int32.reduceAdd, Int32.reduceSub, Int32.reduceMul, Bool.or_true, Bool.true_or, Bool.or_false, Bool.false_or, Nat.reduceBEq, Nat.reduceMul, h0, Nat.add_assoc, Nat.reduceLeDiff, and_self, true_and, and_true, mu_mu, e1, ha] at hr'
  refine ⟨_, hr.trans hr'.symm, ⟨0, 0, 0, _, _, _, ?_, g1.fr (fun x hx => mu_n _ _ (by omega))⟩, fun x hx => ?_⟩
  · simp only [rv_v, rv_n, rh_v, mu_at, isF_r, isK_r, fld_r, fset_r, gd0, gd1, gd2, gd3, gd4, gd5, gd6, gd7, gd8, gd9, gd10, gd11, gd12, gd13, inA_l, inW_l, inZ_l, inQ_l, aget_l, aset_l, qget_l, qset_l, isA_l, isA_q, alen_l, k2_i, k2_a, k2_n, k2_u, k2_l, ite_si, Option.isSome_some, List.cons_append, List.nil_append, List.length_cons, List.length_nil, Nat.reduceAdd, Nat.zero_add, Nat.reduceLT, Nat.reduceEqDiff, decide_true, decide_false, Bool.and_self, Bool.and_true, Bool.true_and, ↓reduceIte, List.set_cons_zero, List.set_cons_succ, Nat.reduceSub, Nat.add_left_cancel_iff, Nat.add_eq_left, Nat.left_eq_add, not_true_eq_false, not_false_eq_true, reduceCtorEq, i10, i01, ib10, ib01, beq_self_eq_true, eq_self, Int32.reduceLT, Int32.reduceToNatClampNeg, Int32.reduceAdd, Int32.reduceSub, Int32.reduceMul, Bool.or_true, Bool.true_or, Bool.or_false, Bool.false_or, Nat.reduceBEq, Nat.reduceMul]
  · rw [mu_n _ _ (by omega), f1 _ (by omega), mu_n _ _ (by omega)]
theorem p_iHisLoop {a : Nat} : ∀ (d i s : Nat) (m : xM) (hf : Nat → Option Nat), i + d = 6 → m a = .inr (1, [.ref (a + 1), .int 0, .int 0]) → m (a + 1) = .inl (2, 6, .inr (.inr (.inr (.inr hf)))) → (∀ j, j < i → hf j = some (a + 2 + 7 * j)) → (∀ j, j < i → HouX m (a + 2 + 7 * j)) → ∃ m' hf', rn 4 25 [.ref a, .int (nI i)] [] ((a + 2 + 7 * i, s), m) = some (none, ((a + 44, s + 83 * d), m')) ∧ m' a = .inr (1, [.ref (a + 1), .int 0, .int 0]) ∧ m' (a + 1) = .inl (2, 6, .inr (.inr (.inr (.inr hf')))) ∧ (∀ j, j < 6 → hf' j = some (a + 2 + 7 * j)) ∧ (∀ j, j < 6 → HouX m' (a + 2 + 7 * j)) ∧ ∀ x, (x < a ∨ a + 44 ≤ x) → m' x = m x := by
  intro d
  induction d with
  | zero =>
    intro i s m hf hi h1 h2 h3 h4
    obtain rfl : i = 6 := by omega
    have c1 : ¬ nI 6 < Int32.ofNat 6 := by decide
    refine ⟨m, hf, ?_, h1, h2, h3, h4, fun _ _ => rfl⟩
    rw [q4_25]
    simp only [q4_0, q4_1, q4_4, q4_5, q4_7, q4_10, q4_13, q4_14, q4_15, q4_18, q4_19, q4_20, q4_23, q4_24, q4_26, q4_27, q4_30, q4_31, q4_34, q4_35, q4_38, q4_39, q4_42, q4_43, q4_46, q4_47, q4_50, q4_53, rv_v, rv_n, rh_v, mu_at, isF_r, isK_r, fld_r, fset_r, gd0, gd1, gd2, gd3, gd4, gd5, gd6, gd7, gd8, gd9, gd10, gd11, gd12, gd13, inA_l, inW_l, inZ_l, inQ_l, aget_l, aset_l, qget_l, qset_l, isA_l, isA_q, alen_l, k2_i, k2_a, k2_n, k2_u, k2_l, ite_si, Option.isSome_some, List.cons_append, List.nil_append, List.length_cons, List.length_nil, Nat.reduceAdd, Nat.zero_add, Nat.reduceLT, Nat.reduceEqDiff, decide_true, decide_false, Bool.and_self, Bool.and_true, Bool.true_and, ↓reduceIte, List.set_cons_zero, List.set_cons_succ, Nat.reduceSub, Nat.add_left_cancel_iff, Nat.add_eq_left, Nat.left_eq_add, not_true_eq_false, not_false_eq_true, reduceCtorEq, i10, i01, ib10, ib01, beq_self_eq_true, eq_self, Int32.reduceLT, Int32.reduceToNatClampNeg, Int32.reduceAdd, Int32.reduceSub, Int32.reduceMul, Bool.or_true, Bool.true_or, Bool.or_false, Bool.false_or, Nat.reduceBEq, Nat.reduceMul, h1, h2, c1]
    rfl
  | succ d ih =>
    intro i s m hf hi h1 h2 h3 h4
    have c0 : ¬ nI i < 0 := nI_pos (by omega)
    have c1 : nI i < Int32.ofNat 6 := nI_lt (b := 6) (by omega) (by decide)
    have c2 : (nI i).toNatClampNeg = i := nI_clamp (by omega)
    have c3 : i < 6 := by omega
    obtain ⟨m1, e1, g1, f1⟩ := p_iHouse (a := a + 2 + 7 * i) (s := s + 6) (m := mu m (a + 2 + 7 * i) (.inr (2, [.int 0, .int 0, .int 0, .null, .null, .null]))) (mu_s _ _ _)
    have f1 : ∀ x, (x < a + 2 + 7 * i ∨ a + 2 + 7 * i + 7 ≤ x) → m1 x = m x := fun x hx => (f1 x hx).trans (mu_n _ _ (by omega))
    have k2 : m1 (a + 1) = _ := (f1 _ (by omega)).trans h2
    have gK : isK (m1 (a + 2 + 7 * i)) x_AOI = true := by
      obtain ⟨S, q, ri, tr, ft, hA, hR⟩ := g1
      rw [hA.1]
      rfl
    have y1 : ∀ j, j < i + 1 → va_up hf i (some (a + 2 + 7 * i)) j = some (a + 2 + 7 * j) := fun j hj => by
      by_cases hz : j = i
      · rw [hz]; simp [va_up]
      · have : va_up hf i (some (a + 2 + 7 * i)) j = hf j := by simp [va_up, hz]
        rw [this]
        exact h3 j (by omega)
    have y2 : ∀ j, j < i + 1 → HouX (mu m1 (a + 1) (.inl (2, 6, .inr (.inr (.inr (.inr (va_up hf i (some (a + 2 + 7 * i))))))))) (a + 2 + 7 * j) := fun j hj => by
      by_cases hz : j = i
      · rw [hz]
        exact g1.x.fr (fun x q1 q2 => mu_n _ _ (by omega))
      · exact (h4 j (by omega)).fr (fun x q1 q2 => by rw [mu_n _ _ (by omega), f1 x (by omega)])
    obtain ⟨m2, hf2, e2, w1, w2, w3, w4, w5⟩ := ih (i + 1) (s + 83) (mu m1 (a + 1) (.inl (2, 6, .inr (.inr (.inr (.inr (va_up hf i (some (a + 2 + 7 * i))))))))) (va_up hf i (some (a + 2 + 7 * i))) (by omega) (by rw [mu_n _ _ (by omega), f1 _ (by omega)]; exact h1) (mu_s _ _ _) y1 y2
    refine ⟨m2, hf2, ?_, w1, w2, w3, w4, fun x hx => by rw [w5 x hx, mu_n _ _ (by omega), f1 x (by omega)]⟩
    rw [q4_25]
    rw [show a + 2 + 7 * (i + 1) = a + 2 + 7 * i + 7 by omega, show s + 83 + 83 * d = s + 83 * (d + 1) by omega] at e2
    rw [← e2]
    simp only [q4_0, q4_1, q4_4, q4_5, q4_7, q4_10, q4_13, q4_14, q4_15, q4_18, q4_19, q4_20, q4_23, q4_24, q4_26, q4_27, q4_30, q4_31, q4_34, q4_35, q4_38, q4_39, q4_42, q4_43, q4_46, q4_47, q4_50, q4_53, rv_v, rv_n, rh_v, mu_at, isF_r, isK_r, fld_r, fset_r, gd0, gd1, gd2, gd3, gd4, gd5, gd6, gd7, gd8, gd9, gd10, gd11, gd12, gd13, inA_l, inW_l, inZ_l, inQ_l, aget_l, aset_l, qget_l, qset_l, isA_l, isA_q, alen_l, k2_i, k2_a, k2_n, k2_u, k2_l, ite_si, Option.isSome_some, List.cons_append, List.nil_append, List.length_cons, List.length_nil, Nat.reduceAdd, Nat.zero_add, Nat.reduceLT, Nat.reduceEqDiff, decide_true, decide_false, Bool.and_self, Bool.and_true, Bool.true_and, ↓reduceIte, List.set_cons_zero, List.set_cons_succ, Nat.reduceSub, Nat.add_left_cancel_iff, Nat.add_eq_left, Nat.left_eq_add, not_true_eq_false, not_false_eq_true, reduceCtorEq, i10, i01, ib10, ib01, beq_self_eq_true, eq_self, Int32.reduceLT, Int32.reduceToNatClampNeg, Int32.reduceAdd, Int32.reduceSub, Int32.reduceMul, Bool.or_true, Bool.true_or, Bool.or_false, Bool.false_or, Nat.reduceBEq, Nat.reduceMul, h1, h2, c0, c1, c2, c3, e1, k2, gK, nI_1]
