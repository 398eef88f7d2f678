section
variable {a k : Nat} {σ : AS}
theorem c_saveA : cDo 81 a [.int 0] σ (σ.1 3) (σ.1, σ.2.1, setS σ.2.2.1 0 σ.1, σ.2.2.2) := by
  intro h hC
  obtain ⟨k1, k2, k3, k4, k5, k6, k7, k8⟩ := hC; unfold CO at k1
  have e1 := p_slotOf0 k1
  obtain ⟨m1, e2, g1, g2⟩ := p_copyHouse (h := h) (a := a + 59 + 1) (a2 := a + 1) k5.2.1 k2 (by omega)
  have c5 := k5.1
  have d5 : m1 (a + 59) = _ := (g2 _ (by omega)).trans c5
  have j1 : m1 a = _ := (g2 _ (by omega)).trans k1
  have k2' := k2
  obtain ⟨S, q, ri, tr, ft, hA, hR⟩ := k2; have hH := hA.1; have hs := hA.2.1.1
  have jH : m1 (a + 1) = _ := (g2 _ (by omega)).trans hH
  have js : m1 (a + 1 + 1) = _ := (g2 _ (by omega)).trans hs
  have hq : q 3 = σ.1 3 := hR.i3.trans hR.2.1.symm
  have fr : ∀ x, (x < a + 59 ∨ a + 67 ≤ x) → mu m1 (a + 59) (.inr (5, [.ref (a + 59 + 1), .int 1])) x = h.2 x := fun x hx => by rw [mu_n _ _ (by omega)]; exact g2 x (by omega)
  refine ⟨mu m1 (a + 59) (.inr (5, [.ref (a + 59 + 1), .int 1])), ?_, ⟨?_, k2'.fr (fun x q1 q2 => fr x (by omega)), k3.fr (fun x q1 q2 => fr x (by omega)), k4.fr (fun x q1 q2 => fr x (by omega)), ⟨mu_s _ _ _, g1.x.fr (fun x q1 q2 => mu_n _ _ (by omega)), fun x hx => ?_⟩, k6.fr (fun x q1 q2 => fr x (by omega)), k7.fr (fun x q1 q2 => fr x (by omega)), k8.fr (fun x q1 q2 => fr x (by omega))⟩, fun y hy => fr y (by omega)⟩
  · simp only [c81, q81_0, q81_1, q81_2, q81_5, q81_5N, q81_6, q81_6N, q81_7, q81_7N, q81_10, q81_12, q81_13, q81_14, q81_17, q81_17N, q81_18, q81_21, q81_24, q81_24N, q81_25, q81_26, q81_29, q81_30, q81_33, q81_36, q81_39, rv_v, rv_n, rh_v, mu_at, isF_r, isK_r, fld_r, fset_r, gd0, gd1, gd2, gd3, gd4, gd5, gd6, gd7, gd8, gd9, gd10, gd11, gd12, gd13, inA_l, inW_l, inZ_l, inQ_l, aget_l, aset_l, qget_l, qset_l, isA_l, isA_q, alen_l, k2_i, k2_a, k2_n, k2_u, k2_l, ite_si, Option.isSome_some, List.cons_append, List.nil_append, List.length_cons, List.length_nil, Nat.reduceAdd, Nat.zero_add, Nat.reduceLT, Nat.reduceEqDiff, decide_true, decide_false, Bool.and_self, Bool.and_true, Bool.true_and, ↓reduceIte, List.set_cons_zero, List.set_cons_succ, Nat.reduceSub, Nat.add_left_cancel_iff, Nat.add_eq_left, Nat.left_eq_add, not_true_eq_false, not_false_eq_true, reduceCtorEq, i10, i01, ib10, ib01, beq_self_eq_true, eq_self, Int32.reduceLT, Int32.reduceToNatClampNeg, Int32.reduceAdd, Int32.reduceSub, Int32.reduceMul, Bool.or_true, Bool.true_or, Bool.or_false, Bool.false_or, Nat.reduceBEq, Nat.reduceMul, k1, hH, e1, c5, e2, d5, j1, jH, js, hq]
  · unfold CO
    rw [fr _ (by omega)]
    exact k1
  · cases hx
    exact g1.fr (fun x q1 q2 => mu_n _ _ (by omega))
theorem c_saveB : cDo 81 a [.int 1] σ (σ.1 3) (σ.1, σ.2.1, setS σ.2.2.1 1 σ.1, σ.2.2.2) := by
  intro h hC
  obtain ⟨k1, k2, k3, k4, k5, k6, k7, k8⟩ := hC; unfold CO at k1
  have e1 := p_slotOf1 k1
  obtain ⟨m1, e2, g1, g2⟩ := p_copyHouse (h := h) (a := a + 67 + 1) (a2 := a + 1) k6.2.1 k2 (by omega)
  have c5 := k6.1
  have d5 : m1 (a + 67) = _ := (g2 _ (by omega)).trans c5
  have j1 : m1 a = _ := (g2 _ (by omega)).trans k1
  have k2' := k2
  obtain ⟨S, q, ri, tr, ft, hA, hR⟩ := k2; have hH := hA.1; have hs := hA.2.1.1
  have jH : m1 (a + 1) = _ := (g2 _ (by omega)).trans hH
  have js : m1 (a + 1 + 1) = _ := (g2 _ (by omega)).trans hs
  have hq : q 3 = σ.1 3 := hR.i3.trans hR.2.1.symm
  have fr : ∀ x, (x < a + 67 ∨ a + 75 ≤ x) → mu m1 (a + 67) (.inr (5, [.ref (a + 67 + 1), .int 1])) x = h.2 x := fun x hx => by rw [mu_n _ _ (by omega)]; exact g2 x (by omega)
  refine ⟨mu m1 (a + 67) (.inr (5, [.ref (a + 67 + 1), .int 1])), ?_, ⟨?_, k2'.fr (fun x q1 q2 => fr x (by omega)), k3.fr (fun x q1 q2 => fr x (by omega)), k4.fr (fun x q1 q2 => fr x (by omega)), k5.fr (fun x q1 q2 => fr x (by omega)), ⟨mu_s _ _ _, g1.x.fr (fun x q1 q2 => mu_n _ _ (by omega)), fun x hx => ?_⟩, k7.fr (fun x q1 q2 => fr x (by omega)), k8.fr (fun x q1 q2 => fr x (by omega))⟩, fun y hy => fr y (by omega)⟩
  · simp only [c81, q81_0, q81_1, q81_2, q81_5, q81_5N, q81_6, q81_6N, q81_7, q81_7N, q81_10, q81_12, q81_13, q81_14, q81_17, q81_17N, q81_18, q81_21, q81_24, q81_24N, q81_25, q81_26, q81_29, q81_30, q81_33, q81_36, q81_39, rv_v, rv_n, rh_v, mu_at, isF_r, isK_r, fld_r, fset_r, gd0, gd1, gd2, gd3, gd4, gd5, gd6, gd7, gd8, gd9, gd10, gd11, gd12, gd13, inA_l, inW_l, inZ_l, inQ_l, aget_l, aset_l, qget_l, qset_l, isA_l, isA_q, alen_l, k2_i, k2_a, k2_n, k2_u, k2_l, ite_si, Option.isSome_some, List.cons_append, List.nil_append, List.length_cons, List.length_nil, Nat.reduceAdd, Nat.zero_add, Nat.reduceLT, Nat.reduceEqDiff, decide_true, decide_false, Bool.and_self, Bool.and_true, Bool.true_and, ↓reduceIte, List.set_cons_zero, List.set_cons_succ, Nat.reduceSub, Nat.add_left_cancel_iff, Nat.add_eq_left, Nat.left_eq_add, not_true_eq_false, not_false_eq_true, reduceCtorEq, i10, i01, ib10, ib01, beq_self_eq_true, eq_self, Int32.reduceLT, Int32.reduceToNatClampNeg, Int32.reduceAdd, Int32.reduceSub, Int32.reduceMul, Bool.or_true, Bool.true_or, Bool.or_false, Bool.false_or, Nat.reduceBEq, Nat.reduceMul, k1, hH, e1, c5, e2, d5, j1, jH, js, hq]
  · unfold CO
    rw [fr _ (by omega)]
    exact k1
  · cases hx
    exact g1.fr (fun x q1 q2 => mu_n _ _ (by omega))
theorem c_rest1A (hs : σ.2.2.1.1 = none) : cDo 82 a [.int 0] σ (-5) σ := by
  refine cDo.same fun h hC => ?_
  obtain ⟨k1, k2, k3, k4, k5, k6, k7, k8⟩ := hC; unfold CO at k1
  have e := p_slotOf0 k1
  have c5 := k5.1
  rw [hs, show oI none = 0 from rfl] at c5
  simp only [c82, q82_0, q82_1, q82_2, q82_5, q82_5N, q82_6, q82_6N, q82_7, q82_7N, q82_10, q82_12, q82_13, q82_13N, q82_14, q82_17, q82_20, q82_22, q82_23, q82_24, q82_27, q82_28, q82_31, q82_34, q82_34N, q82_35, q82_38, q82_39, q82_42, q82_45, q82_46, q82_49, q82_52, q82_55, rv_v, rv_n, rh_v, mu_at, isF_r, isK_r, fld_r, fset_r, gd0, gd1, gd2, gd3, gd4, gd5, gd6, gd7, gd8, gd9, gd10, gd11, gd12, gd13, inA_l, inW_l, inZ_l, inQ_l, aget_l, aset_l, qget_l, qset_l, isA_l, isA_q, alen_l, k2_i, k2_a, k2_n, k2_u, k2_l, ite_si, Option.isSome_some, List.cons_append, List.nil_append, List.length_cons, List.length_nil, Nat.reduceAdd, Nat.zero_add, Nat.reduceLT, Nat.reduceEqDiff, decide_true, decide_false, Bool.and_self, Bool.and_true, Bool.true_and, ↓reduceIte, List.set_cons_zero, List.set_cons_succ, Nat.reduceSub, Nat.add_left_cancel_iff, Nat.add_eq_left, Nat.left_eq_add, not_true_eq_false, not_false_eq_true, reduceCtorEq, i10, i01, ib10, ib01, beq_self_eq_true, eq_self, Int32.reduceLT, Int32.reduceToNatClampNeg, Int32.reduceAdd, Int32.reduceSub, Int32.reduceMul, Bool.or_true, Bool.true_or, Bool.or_false, Bool.false_or, Nat.reduceBEq, Nat.reduceMul, k1, e, c5]
theorem c_rest1B (hs : σ.2.2.1.2 = none) : cDo 82 a [.int 1] σ (-5) σ := by
  refine cDo.same fun h hC => ?_
  obtain ⟨k1, k2, k3, k4, k5, k6, k7, k8⟩ := hC; unfold CO at k1
  have e := p_slotOf1 k1
  have c5 := k6.1
  rw [hs, show oI none = 0 from rfl] at c5
  simp only [c82, q82_0, q82_1, q82_2, q82_5, q82_5N, q82_6, q82_6N, q82_7, q82_7N, q82_10, q82_12, q82_13, q82_13N, q82_14, q82_17, q82_20, q82_22, q82_23, q82_24, q82_27, q82_28, q82_31, q82_34, q82_34N, q82_35, q82_38, q82_39, q82_42, q82_45, q82_46, q82_49, q82_52, q82_55, rv_v, rv_n, rh_v, mu_at, isF_r, isK_r, fld_r, fset_r, gd0, gd1, gd2, gd3, gd4, gd5, gd6, gd7, gd8, gd9, gd10, gd11, gd12, gd13, inA_l, inW_l, inZ_l, inQ_l, aget_l, aset_l, qget_l, qset_l, isA_l, isA_q, alen_l, k2_i, k2_a, k2_n, k2_u, k2_l, ite_si, Option.isSome_some, List.cons_append, List.nil_append, List.length_cons, List.length_nil, Nat.reduceAdd, Nat.zero_add, Nat.reduceLT, Nat.reduceEqDiff, decide_true, decide_false, Bool.and_self, Bool.and_true, Bool.true_and, ↓reduceIte, List.set_cons_zero, List.set_cons_succ, Nat.reduceSub, Nat.add_left_cancel_iff, Nat.add_eq_left, Nat.left_eq_add, not_true_eq_false, not_false_eq_true, reduceCtorEq, i10, i01, ib10, ib01, beq_self_eq_true, eq_self, Int32.reduceLT, Int32.reduceToNatClampNeg, Int32.reduceAdd, Int32.reduceSub, Int32.reduceMul, Bool.or_true, Bool.true_or, Bool.or_false, Bool.false_or, Nat.reduceBEq, Nat.reduceMul, k1, e, c5]
theorem c_rest2A {x : Row} {h : xH} (hs : σ.2.2.1.1 = some x) (hC : CC h.2 a σ) : ∃ m' : xM, cl 82 [.ref a, .int 0] h = some (some (.int (x 3)), (h.1, m')) ∧ (∀ r', REq r' x → CC m' a (r', pushH σ.2.1 σ.1, σ.2.2)) ∧ fC a h.2 m' := by
  obtain ⟨m1, ek, gH, gf⟩ := c_keep hC
  have hC0 := hC
  obtain ⟨k1, k2, k3, k4, k5, k6, k7, k8⟩ := hC; unfold CO at k1
  obtain ⟨kv1, kv2, hK⟩ := k4.kk
  have e1 := p_slotOf0 k1
  have c5 := k5.1
  rw [hs, show oI (some x) = 1 from rfl] at c5
  have d5 : m1 (a + 59) = _ := (gf _ (by omega)).trans c5
  have j1 : m1 a = _ := (gf _ (by omega)).trans k1
  obtain ⟨m2, e2, g1, g2⟩ := p_copyHouse (h := (h.1, m1)) (a := a + 1) (a2 := a + 59 + 1) (k2.x.fr (fun x q1 q2 => gf x (by omega))) ((k5.2.2 x hs).fr (fun x q1 q2 => gf x (by omega))) (by omega)
  have i1 : m2 a = _ := (g2 _ (by omega)).trans j1
  have hm : ∀ r', REq r' x → CC m2 a (r', pushH σ.2.1 σ.1, σ.2.2) ∧ fC a h.2 m2 := fun r' hr => hC0.ch (g1.cg hr.sy) (gH.fr (fun y q1 q2 => g2 y (by omega))) (fun y q1 q2 => by rw [g2 y (by omega)]; exact gf y (by omega))
  obtain ⟨S, q, ri, tr, ft, hA, hR⟩ := g1
  have jH := hA.1
  have js := hA.2.1.1
  have hq : q 3 = x 3 := hR.i3.trans hR.2.1.symm
  refine ⟨m2, ?_, fun r' hr => (hm r' hr).1, (hm x (fun _ _ => rfl)).2⟩
  simp only [c82, q82_0, q82_1, q82_2, q82_5, q82_5N, q82_6, q82_6N, q82_7, q82_7N, q82_10, q82_12, q82_13, q82_13N, q82_14, q82_17, q82_20, q82_22, q82_23, q82_24, q82_27, q82_28, q82_31, q82_34, q82_34N, q82_35, q82_38, q82_39, q82_42, q82_45, q82_46, q82_49, q82_52, q82_55, rv_v, rv_n, rh_v, mu_at, isF_r, isK_r, fld_r, fset_r, gd0, gd1, gd2, gd3, gd4, gd5, gd6, gd7, gd8, gd9, gd10, gd11, gd12, gd13, inA_l, inW_l, inZ_l, inQ_l, aget_l, aset_l, qget_l, qset_l, isA_l, isA_q, alen_l, k2_i, k2_a, k2_n, k2_u, k2_l, ite_si, Option.isSome_some, List.cons_append, List.nil_append, List.length_cons, List.length_nil, Nat.reduceAdd, Nat.zero_add, Nat.reduceLT, Nat.reduceEqDiff, decide_true, decide_false, Bool.and_self, Bool.and_true, Bool.true_and, ↓reduceIte, List.set_cons_zero, List.set_cons_succ, Nat.reduceSub, Nat.add_left_cancel_iff, Nat.add_eq_left, Nat.left_eq_add, not_true_eq_false, not_false_eq_true, reduceCtorEq, i10, i01, ib10, ib01, beq_self_eq_true, eq_self, Int32.reduceLT, Int32.reduceToNatClampNeg, Int32.reduceAdd, Int32.reduceSub, Int32.reduceMul, Bool.or_true, Bool.true_or, Bool.or_false, Bool.false_or, Nat.reduceBEq, Nat.reduceMul, k1, hK, e1, c5, ek, d5, j1, e2, i1, jH, js, hq]
theorem c_rest2B {x : Row} {h : xH} (hs : σ.2.2.1.2 = some x) (hC : CC h.2 a σ) : ∃ m' : xM, cl 82 [.ref a, .int 1] h = some (some (.int (x 3)), (h.1, m')) ∧ (∀ r', REq r' x → CC m' a (r', pushH σ.2.1 σ.1, σ.2.2)) ∧ fC a h.2 m' := by
  obtain ⟨m1, ek, gH, gf⟩ := c_keep hC
  have hC0 := hC
  obtain ⟨k1, k2, k3, k4, k5, k6, k7, k8⟩ := hC; unfold CO at k1
  obtain ⟨kv1, kv2, hK⟩ := k4.kk
  have e1 := p_slotOf1 k1
  have c5 := k6.1
  rw [hs, show oI (some x) = 1 from rfl] at c5
  have d5 : m1 (a + 67) = _ := (gf _ (by omega)).trans c5
  have j1 : m1 a = _ := (gf _ (by omega)).trans k1
  obtain ⟨m2, e2, g1, g2⟩ := p_copyHouse (h := (h.1, m1)) (a := a + 1) (a2 := a + 67 + 1) (k2.x.fr (fun x q1 q2 => gf x (by omega))) ((k6.2.2 x hs).fr (fun x q1 q2 => gf x (by omega))) (by omega)
  have i1 : m2 a = _ := (g2 _ (by omega)).trans j1
  have hm : ∀ r', REq r' x → CC m2 a (r', pushH σ.2.1 σ.1, σ.2.2) ∧ fC a h.2 m2 := fun r' hr => hC0.ch (g1.cg hr.sy) (gH.fr (fun y q1 q2 => g2 y (by omega))) (fun y q1 q2 => by rw [g2 y (by omega)]; exact gf y (by omega))
  obtain ⟨S, q, ri, tr, ft, hA, hR⟩ := g1
  have jH := hA.1
  have js := hA.2.1.1
  have hq : q 3 = x 3 := hR.i3.trans hR.2.1.symm
  refine ⟨m2, ?_, fun r' hr => (hm r' hr).1, (hm x (fun _ _ => rfl)).2⟩
  simp only [c82, q82_0, q82_1, q82_2, q82_5, q82_5N, q82_6, q82_6N, q82_7, q82_7N, q82_10, q82_12, q82_13, q82_13N, q82_14, q82_17, q82_20, q82_22, q82_23, q82_24, q82_27, q82_28, q82_31, q82_34, q82_34N, q82_35, q82_38, q82_39, q82_42, q82_45, q82_46, q82_49, q82_52, q82_55, rv_v, rv_n, rh_v, mu_at, isF_r, isK_r, fld_r, fset_r, gd0, gd1, gd2, gd3, gd4, gd5, gd6, gd7, gd8, gd9, gd10, gd11, gd12, gd13, inA_l, inW_l, inZ_l, inQ_l, aget_l, aset_l, qget_l, qset_l, isA_l, isA_q, alen_l, k2_i, k2_a, k2_n, k2_u, k2_l, ite_si, Option.isSome_some, List.cons_append, List.nil_append, List.length_cons, List.length_nil, Nat.reduceAdd, Nat.zero_add, Nat.reduceLT, Nat.reduceEqDiff, decide_true, decide_false, Bool.and_self, Bool.and_true, Bool.true_and, ↓reduceIte, List.set_cons_zero, List.set_cons_succ, Nat.reduceSub, Nat.add_left_cancel_iff, Nat.add_eq_left, Nat.left_eq_add, not_true_eq_false, not_false_eq_true, reduceCtorEq, i10, i01, ib10, ib01, beq_self_eq_true, eq_self, Int32.reduceLT, Int32.reduceToNatClampNeg, Int32.reduceAdd, Int32.reduceSub, Int32.reduceMul, Bool.or_true, Bool.true_or, Bool.or_false, Bool.false_or, Nat.reduceBEq, Nat.reduceMul, k1, hK, e1, c5, ek, d5, j1, e2, i1, jH, js, hq]
end
