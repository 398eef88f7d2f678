/-- what a fresh row holds -/
def r0 : Row := upd (upd (fun _ => 0) 0 24) 1 120
def q0 : Nat → Int32 := fun i => if i = 0 then 24 else if i = 1 then 120 else 0
theorem r0_at (i : Nat) : r0 i = if i = 0 then 24 else if i = 1 then 120 else 0 := by
  unfold r0
  simp only [upd_at]
  by_cases h0 : i = 0
  · rw [if_pos h0, if_neg (by omega), if_pos h0]
  · rw [if_neg h0, if_neg h0]
theorem RR0 : RR 0 q0 (fun _ => 0) (fun _ => 0) (fun _ => 0) r0 := by
  refine ⟨by omega, by rw [r0_at]; rfl, fun i hi => ?_, fun k hk => absurd hk (by omega), fun k hk => ?_⟩
  · rw [r0_at]
    unfold q0 pl
    by_cases h4 : i < 4
    · rw [if_pos h4]
    · rw [if_neg h4, if_neg (by omega), if_neg (by omega), if_neg (by omega), if_neg (by omega)]
  · obtain rfl : k = 0 := by omega
    rfl
theorem RI0 : RI 0 r0 := by
  refine ⟨0, 0, 0, 0, 0, 24, 120, 0, 0, 0, 0, 0, ⟨?_, ?_, ?_, ?_, ?_, ?_, ?_, ?_, ?_, ?_, ?_, ?_⟩, by omega, fun j hj => absurd hj (by omega)⟩ <;> (rw [r0_at]; rfl)
theorem nar {n : Int32} (h : (decide (¬ n < 0) && decide (n.toNatClampNeg * 4 ≤ 536870912)) = true) : ¬ n < 0 ∧ n.toNatClampNeg * 4 ≤ 536870912 := by
  simpa using h
theorem nar20 : ¬ (20 : Int32) < 0 ∧ (20 : Int32).toNatClampNeg * 4 ≤ 536870912 := nar (by decide)
theorem p_iCrew {a : Nat} {h : xH} (x : Int32) (hx : (x == 0 || x == 1) = true) (h0 : h.2 a = .inr (0, [.int 0, .int 0, .int 0, .int 0, .int 0, .int 0])) : cl 0 [.ref a, .int x] h = some (none, (h.1, mu h.2 a (.inr (0, [.int x, .int 0, .int 0, .int 0, .int 0, .int 0])))) := by
  simp only [c0, q0_0, q0_1, q0_4, q0_5, q0_6, q0_9, q0_10, q0_11, q0_14, q0_15, q0_16, q0_19, q0_20, q0_21, q0_24, q0_25, q0_26, q0_29, q0_30, q0_31, q0_34, rv_v, rv_n, rh_v, mu_at, isF_r, isK_r, fld_r, fset_r, gd0, gd1, gd2, gd3, gd4, gd5, gd6, gd7, gd8, gd9, gd10, gd11, gd12, gd13, inA_l, inW_l, inZ_l, inQ_l, aget_l, aset_l, qget_l, qset_l, isA_l, isA_q, alen_l, k2_i, k2_a, k2_n, k2_u, k2_l, ite_si, Option.isSome_some, List.cons_append, List.nil_append, List.length_cons, List.length_nil, Nat.reduceAdd, Nat.zero_add, Nat.reduceLT, Nat.reduceEqDiff, decide_true, decide_false, Bool.and_self, Bool.and_true, Bool.true_and, ↓reduceIte, List.set_cons_zero, List.set_cons_succ, Nat.reduceSub, Nat.add_left_cancel_iff, Nat.add_eq_left, Nat.left_eq_add, not_true_eq_false, not_false_eq_true, reduceCtorEq, i10, i01, ib10, ib01, beq_self_eq_true, eq_self, Int32.reduceLT, Int32.reduceToNatClampNeg, Int32.reduceAdd, Int32.reduceSub, Int32.reduceMul, Bool.or_true, Bool.true_or, Bool.or_false, Bool.false_or, Nat.reduceBEq, Nat.reduceMul, h0, mu_mu, hx]
/-- the stairs' cells behind their making -/
theorem p_iStairs {a s : Nat} {m : xM} (h0 : m a = .inr (6, [.null, .null, .null, .int 0])) : ∃ m', cl 38 [.ref a] ((a + 1, s), m) = some (none, ((a + 4, s + 61), m')) ∧ SA m' a (a + 1) (a + 2) (a + 3) 0 (fun _ => 0) (fun _ => 0) (fun _ => 0) ∧ ∀ x, (x < a ∨ a + 4 ≤ x) → m' x = m x := by
  obtain ⟨r, hr⟩ : ∃ r, cl 38 [.ref a] ((a + 1, s), m) = r := ⟨_, rfl⟩
  have hr' := hr
  simp only [c38, q38_0, q38_1, q38_4, q38_5, q38_7, q38_9, q38_12, q38_13, q38_15, q38_17, q38_20, q38_21, q38_23, q38_25, q38_28, q38_29, q38_30, q38_33, rv_v, rv_n, rh_v, mu_at, isF_r, isK_r, fld_r, fset_r, gd0, gd1, gd2, gd3, gd4, gd5, gd6, gd7, gd8, gd9, gd10, gd11, gd12, gd13, inA_l, inW_l, inZ_l, inQ_l, aget_l, aset_l, qget_l, qset_l, isA_l, isA_q, alen_l, k2_i, k2_a, k2_n, k2_u, k2_l, ite_si, Option.isSome_some, List.cons_append, List.nil_append, List.length_cons, List.length_nil, Nat.reduceAdd, Nat.zero_add, Nat.reduceLT, Nat.reduceEqDiff, decide_true, decide_false, Bool.and_self, Bool.and_true, Bool.true_and, ↓reduceIte, List.set_cons_zero, List.set_cons_succ, Nat.reduceSub, Nat.add_left_cancel_iff, Nat.add_eq_left, Nat.left_eq_add, not_true_eq_false, not_false_eq_true, reduceCtorEq, i10, i01, ib10, ib01, beq_self_eq_true, eq_self, Int32.reduceLT, Int32.reduceToNatClampNeg, Int32.reduceAdd, Int32.reduceSub, Int32.reduceMul, Bool.or_true, Bool.true_or, Bool.or_false, Bool.false_or, Nat.reduceBEq, Nat.reduceMul, h0, Nat.add_assoc, Nat.reduceLeDiff, and_self, true_and, and_true] at hr'
  refine ⟨_, hr.trans hr'.symm, ⟨?_, ?_, ?_, ?_⟩, fun x hx => ?_⟩
  · simp only [rv_v, rv_n, rh_v, mu_at, isF_r, isK_r, fld_r, fset_r, gd0, gd1, gd2, gd3, gd4, gd5, gd6, gd7, gd8, gd9, gd10, gd11, gd12, gd13, inA_l, inW_l, inZ_l, inQ_l, aget_l, aset_l, qget_l, qset_l, isA_l, isA_q, alen_l, k2_i, k2_a, k2_n, k2_u, k2_l, ite_si, Option.isSome_some, List.cons_append, List.nil_append, List.length_cons, List.length_nil, Nat.reduceAdd, Nat.zero_add, Nat.reduceLT, Nat.reduceEqDiff, decide_true, decide_false, Bool.and_self, Bool.and_true, Bool.true_and, ↓reduceIte, List.set_cons_zero, List.set_cons_succ, Nat.reduceSub, Nat.add_left_cancel_iff, Nat.add_eq_left, Nat.left_eq_add, not_true_eq_false, not_false_eq_true, reduceCtorEq, i10, i01, ib10, ib01, beq_self_eq_true, eq_self, Int32.reduceLT, Int32.reduceToNatClampNeg, Int32.reduceAdd, Int32.reduceSub, Int32.reduceMul, Bool.or_true, Bool.true_or, Bool.or_false, Bool.false_or, Nat.reduceBEq, Nat.reduceMul]
  · simp only [rv_v, rv_n, rh_v, mu_at, isF_r, isK_r, fld_r, fset_r, gd0, gd1, gd2, gd3, gd4, gd5, gd6, gd7, gd8, gd9, gd10, gd11, gd12, gd13, inA_l, inW_l, inZ_l, inQ_l, aget_l, aset_l, qget_l, qset_l, isA_l, isA_q, alen_l, k2_i, k2_a, k2_n, k2_u, k2_l, ite_si, Option.isSome_some, List.cons_append, List.nil_append, List.length_cons, List.length_nil, Nat.reduceAdd, Nat.zero_add, Nat.reduceLT, Nat.reduceEqDiff, decide_true, decide_false, Bool.and_self, Bool.and_true, Bool.true_and, ↓reduceIte, List.set_cons_zero, List.set_cons_succ, Nat.reduceSub, Nat.add_left_cancel_iff, Nat.add_eq_left, Nat.left_eq_add, not_true_eq_false, not_false_eq_true, reduceCtorEq, i10, i01, ib10, ib01, beq_self_eq_true, eq_self, Int32.reduceLT, Int32.reduceToNatClampNeg, Int32.reduceAdd, Int32.reduceSub, Int32.reduceMul, Bool.or_true, Bool.true_or, Bool.or_false, Bool.false_or, Nat.reduceBEq, Nat.reduceMul]
  · simp only [rv_v, rv_n, rh_v, mu_at, isF_r, isK_r, fld_r, fset_r, gd0, gd1, gd2, gd3, gd4, gd5, gd6, gd7, gd8, gd9, gd10, gd11, gd12, gd13, inA_l, inW_l, inZ_l, inQ_l, aget_l, aset_l, qget_l, qset_l, isA_l, isA_q, alen_l, k2_i, k2_a, k2_n, k2_u, k2_l, ite_si, Option.isSome_some, List.cons_append, List.nil_append, List.length_cons, List.length_nil, Nat.reduceAdd, Nat.zero_add, Nat.reduceLT, Nat.reduceEqDiff, decide_true, decide_false, Bool.and_self, Bool.and_true, Bool.true_and, ↓reduceIte, List.set_cons_zero, List.set_cons_succ, Nat.reduceSub, Nat.add_left_cancel_iff, Nat.add_eq_left, Nat.left_eq_add, not_true_eq_false, not_false_eq_true, reduceCtorEq, i10, i01, ib10, ib01, beq_self_eq_true, eq_self, Int32.reduceLT, Int32.reduceToNatClampNeg, Int32.reduceAdd, Int32.reduceSub, Int32.reduceMul, Bool.or_true, Bool.true_or, Bool.or_false, Bool.false_or, Nat.reduceBEq, Nat.reduceMul]
  · simp only [rv_v, rv_n, rh_v, mu_at, isF_r, isK_r, fld_r, fset_r, gd0, gd1, gd2, gd3, gd4, gd5, gd6, gd7, gd8, gd9, gd10, gd11, gd12, gd13, inA_l, inW_l, inZ_l, inQ_l, aget_l, aset_l, qget_l, qset_l, isA_l, isA_q, alen_l, k2_i, k2_a, k2_n, k2_u, k2_l, ite_si, Option.isSome_some, List.cons_append, List.nil_append, List.length_cons, List.length_nil, Nat.reduceAdd, Nat.zero_add, Nat.reduceLT, Nat.reduceEqDiff, decide_true, decide_false, Bool.and_self, Bool.and_true, Bool.true_and, ↓reduceIte, List.set_cons_zero, List.set_cons_succ, Nat.reduceSub, Nat.add_left_cancel_iff, Nat.add_eq_left, Nat.left_eq_add, not_true_eq_false, not_false_eq_true, reduceCtorEq, i10, i01, ib10, ib01, beq_self_eq_true, eq_self, Int32.reduceLT, Int32.reduceToNatClampNeg, Int32.reduceAdd, Int32.reduceSub, Int32.reduceMul, Bool.or_true, Bool.true_or, Bool.or_false, Bool.false_or, Nat.reduceBEq, Nat.reduceMul]
  · have n0 : ¬ x = a := by omega
    have n1 : ¬ x = a + 1 := by omega
    have n2 : ¬ x = a + 2 := by omega
    have n3 : ¬ x = a + 3 := by omega
    simp only [mu_at, if_neg n0, if_neg n1, if_neg n2, if_neg n3]
