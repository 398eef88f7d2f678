section
variable {b : Nat} {h : xH} {σ : AS} {st le sp nu fl : Int32}
theorem m_undoLoop {n : Nat} {hf : Nat → Int32} (hn : n ≤ 5) (h1 : h.2 b = MO b (nI n) le sp nu fl) (hh : h.2 (b + 2) = .inl (0, 324, .inl hf)) : ∀ (d k : Nat) (g : Nat → Int32), k + d = 54 → rn 101 22 [.ref b, .int (nI k)] [] (aw h (b + 1) 54 g) = rn 101 54 [.ref b, .int (nI 54)] [] (aw h (b + 1) 54 (bcs hf g (54 * n) 0 k 54)) := by
  intro d
  unfold MO at h1
  have f1 : ∀ g, (aw h (b + 1) 54 g).2 b = _ := fun g => aw_n (f := g) h1 (by omega)
  have f2 := aw_w h (b + 1) 54
  have f3 : ∀ g, (aw h (b + 1) 54 g).2 (b + 2) = _ := fun g => aw_n (f := g) hh (by omega)
  induction d with
  | zero =>
    intro k g hk
    obtain rfl : k = 54 := by omega
    rw [q101_22]
    simp only [q101_23, q101_25, show ¬ nI 54 < 54 by decide, ↓reduceIte]
    rw [bcs_end]
  | succ d ih =>
    intro k g hk
    have c0 : ¬ nI k < 0 := nI_pos (by omega)
    have c1 : nI k < 54 := nI_lt (b := 54) (by omega) (by decide)
    have c2 : (nI k).toNatClampNeg = k := nI_clamp (by omega)
    have c3 : k < 54 := by omega
    have e0 : (54 : Int32) * nI n = nI (54 * n) := pk_mul 54 n
    have e1 : nI (54 * n) + nI k = nI (54 * n + k) := nI_add _ _
    have d0 : ¬ nI (54 * n + k) < 0 := nI_pos (by omega)
    have d2 : (nI (54 * n + k)).toNatClampNeg = 54 * n + k := nI_clamp (by omega)
    have d3 : 54 * n + k < 324 := by omega
    rw [q101_22]
    simp only [q101_0, q101_1, q101_4, q101_7, q101_9, q101_10, q101_11, q101_12, q101_15, q101_16, q101_17, q101_20, q101_21, q101_23, q101_25, q101_28, q101_29, q101_32, q101_33, q101_34, q101_37, q101_39, q101_40, q101_43, q101_44, q101_45, q101_46, q101_47, q101_48, q101_51, q101_55, q101_58, rv_v, rv_n, rh_v, mu_at, isF_r, isK_r, fld_r, fset_r, gd0, gd1, gd2, gd3, gd4, gd5, gd6, gd7, gd8, gd9, gd10, gd11, gd12, gd13, inA_l, inW_l, inZ_l, inQ_l, aget_l, aset_l, qget_l, qset_l, isA_l, isA_q, alen_l, k2_i, k2_a, k2_n, k2_u, k2_l, ite_si, Option.isSome_some, List.cons_append, List.nil_append, List.length_cons, List.length_nil, Nat.reduceAdd, Nat.zero_add, Nat.reduceLT, Nat.reduceEqDiff, decide_true, decide_false, Bool.and_self, Bool.and_true, Bool.true_and, ↓reduceIte, List.set_cons_zero, List.set_cons_succ, Nat.reduceSub, Nat.add_left_cancel_iff, Nat.add_eq_left, Nat.left_eq_add, not_true_eq_false, not_false_eq_true, reduceCtorEq, i10, i01, ib10, ib01, beq_self_eq_true, eq_self, Int32.reduceLT, Int32.reduceToNatClampNeg, Int32.reduceAdd, Int32.reduceSub, Int32.reduceMul, Bool.or_true, Bool.true_or, Bool.or_false, Bool.false_or, Nat.reduceBEq, Nat.reduceMul, f1, f2, f3, c0, c1, c2, c3, e0, e1, d0, d2, d3, nI_1]
    rw [aw_aw, ih (k + 1) _ (by omega)]
    have := bcs_step hf g (54 * n) 0 c3
    rw [Nat.zero_add] at this
    rw [this]
theorem mm_undo0 (hL : σ.2.1 = []) : mDo 101 b [] σ (-5) σ := by
  refine mDo.same fun h hM => ?_
  obtain ⟨sp, nu, fl, hf, sf, bf, asd, pf, mn, rs, ts, a1, -⟩ := hM
  rw [hL] at a1
  unfold MO at a1
  have e : (nI ([] : List Row).length) = 0 := rfl
  rw [e] at a1
  simp only [c101, q101_0, q101_1, q101_4, q101_7, q101_9, q101_10, q101_11, q101_12, q101_15, q101_16, q101_17, q101_20, q101_21, q101_22, q101_23, q101_25, q101_28, q101_29, q101_32, q101_33, q101_34, q101_37, q101_39, q101_40, q101_43, q101_44, q101_45, q101_46, q101_47, q101_48, q101_51, q101_54, q101_55, q101_58, rv_v, rv_n, rh_v, mu_at, isF_r, isK_r, fld_r, fset_r, gd0, gd1, gd2, gd3, gd4, gd5, gd6, gd7, gd8, gd9, gd10, gd11, gd12, gd13, inA_l, inW_l, inZ_l, inQ_l, aget_l, aset_l, qget_l, qset_l, isA_l, isA_q, alen_l, k2_i, k2_a, k2_n, k2_u, k2_l, ite_si, Option.isSome_some, List.cons_append, List.nil_append, List.length_cons, List.length_nil, Nat.reduceAdd, Nat.zero_add, Nat.reduceLT, Nat.reduceEqDiff, decide_true, decide_false, Bool.and_self, Bool.and_true, Bool.true_and, ↓reduceIte, List.set_cons_zero, List.set_cons_succ, Nat.reduceSub, Nat.add_left_cancel_iff, Nat.add_eq_left, Nat.left_eq_add, not_true_eq_false, not_false_eq_true, reduceCtorEq, i10, i01, ib10, ib01, beq_self_eq_true, eq_self, Int32.reduceLT, Int32.reduceToNatClampNeg, Int32.reduceAdd, Int32.reduceSub, Int32.reduceMul, Bool.or_true, Bool.true_or, Bool.or_false, Bool.false_or, Nat.reduceBEq, Nat.reduceMul, a1]
/-- a row is known by its places -/
def REq (x y : Row) : Prop := ∀ k, k < 54 → x k = y k
theorem mm_undo1 {L : List Row} {x : Row} (hL : σ.2.1 = L ++ [x]) (hM : MM h.2 b σ) : ∃ (m' : xM) (r' : Row), cl 101 [.ref b] h = some (some (.int (nI L.length)), (h.1, m')) ∧ REq r' x ∧ MM m' b (r', L, σ.2.2) ∧ fB b h.2 m' := by
  obtain ⟨sp, nu, fl, hf, sf, bf, asd, pf, mn, rs, ts, a1, a2, a3, a4, a5, a6, a7, a8, a9, a10, a11, a12, a13, a14, a15, a16, a17, a18⟩ := hM
  have hlen : σ.2.1.length = L.length + 1 := by rw [hL]; simp
  have hn : L.length ≤ 5 := by omega
  rw [hlen] at a1
  have a1' := a1
  unfold MO at a1'
  have hne : ¬ nI (L.length + 1) = 0 := nI_ne0 (by omega) (by omega)
  have ep : nI (L.length + 1) - 1 = nI L.length := nI_pred _
  have g1 : (h.1, mu h.2 b (MO b (nI L.length) (nI σ.2.2.2.length) sp nu fl)).2 (b + 1) = .inl (0, 54, .inl σ.1) := by
    show mu _ _ _ _ = _
    rw [mu_n _ _ (by omega)]; exact a3
  have k2 := m_undoLoop (h := (h.1, mu h.2 b (MO b (nI L.length) (nI σ.2.2.2.length) sp nu fl))) (hf := hf) hn (mu_s _ _ _) (by show mu _ _ _ _ = _; rw [mu_n _ _ (by omega)]; exact a4) 54 0 σ.1 (by omega)
  rw [show nI 0 = 0 from rfl, aw_eq g1] at k2
  have f1 : ∀ G, (aw (h.1, mu h.2 b (MO b (nI L.length) (nI σ.2.2.2.length) sp nu fl)) (b + 1) 54 G).2 b = MO b (nI L.length) (nI σ.2.2.2.length) sp nu fl := fun G => aw_n (f := G) (mu_s _ _ _) (by omega)
  unfold MO at k2 f1
  refine ⟨mu (mu h.2 b (MO b (nI L.length) (nI σ.2.2.2.length) sp nu fl)) (b + 1) (.inl (0, 54, .inl (bcs hf σ.1 (54 * L.length) 0 0 54))), bcs hf σ.1 (54 * L.length) 0 0 54, ?_, ?_, ⟨sp, nu, fl, hf, sf, bf, asd, pf, mn, rs, ts, ?_, by show L.length ≤ 6; omega, mu_s _ _ _, ?_, ?_, ?_, a7, a8, ?_, a10, a11, ?_, ?_, a14, a15, ?_, ?_, ?_⟩, ?_⟩
  · simp only [c101, q101_0, q101_1, q101_4, q101_7, q101_9, q101_10, q101_11, q101_12, q101_15, q101_16, q101_17, q101_20, q101_21, q101_23, q101_25, q101_28, q101_29, q101_32, q101_33, q101_34, q101_37, q101_39, q101_40, q101_43, q101_44, q101_45, q101_46, q101_47, q101_48, q101_51, q101_55, q101_58, rv_v, rv_n, rh_v, mu_at, isF_r, isK_r, fld_r, fset_r, gd0, gd1, gd2, gd3, gd4, gd5, gd6, gd7, gd8, gd9, gd10, gd11, gd12, gd13, inA_l, inW_l, inZ_l, inQ_l, aget_l, aset_l, qget_l, qset_l, isA_l, isA_q, alen_l, k2_i, k2_a, k2_n, k2_u, k2_l, ite_si, Option.isSome_some, List.cons_append, List.nil_append, List.length_cons, List.length_nil, Nat.reduceAdd, Nat.zero_add, Nat.reduceLT, Nat.reduceEqDiff, decide_true, decide_false, Bool.and_self, Bool.and_true, Bool.true_and, ↓reduceIte, List.set_cons_zero, List.set_cons_succ, Nat.reduceSub, Nat.add_left_cancel_iff, Nat.add_eq_left, Nat.left_eq_add, not_true_eq_false, not_false_eq_true, reduceCtorEq, i10, i01, ib10, ib01, beq_self_eq_true, eq_self, Int32.reduceLT, Int32.reduceToNatClampNeg, Int32.reduceAdd, Int32.reduceSub, Int32.reduceMul, Bool.or_true, Bool.true_or, Bool.or_false, Bool.false_or, Nat.reduceBEq, Nat.reduceMul, a1', hne, ep, k2]
    simp only [q101_0, q101_1, q101_4, q101_7, q101_9, q101_10, q101_11, q101_12, q101_15, q101_16, q101_17, q101_20, q101_21, q101_23, q101_25, q101_28, q101_29, q101_32, q101_33, q101_34, q101_37, q101_39, q101_40, q101_43, q101_44, q101_45, q101_46, q101_47, q101_48, q101_51, q101_54, q101_55, q101_58, rv_v, rv_n, rh_v, mu_at, isF_r, isK_r, fld_r, fset_r, gd0, gd1, gd2, gd3, gd4, gd5, gd6, gd7, gd8, gd9, gd10, gd11, gd12, gd13, inA_l, inW_l, inZ_l, inQ_l, aget_l, aset_l, qget_l, qset_l, isA_l, isA_q, alen_l, k2_i, k2_a, k2_n, k2_u, k2_l, ite_si, Option.isSome_some, List.cons_append, List.nil_append, List.length_cons, List.length_nil, Nat.reduceAdd, Nat.zero_add, Nat.reduceLT, Nat.reduceEqDiff, decide_true, decide_false, Bool.and_self, Bool.and_true, Bool.true_and, ↓reduceIte, List.set_cons_zero, List.set_cons_succ, Nat.reduceSub, Nat.add_left_cancel_iff, Nat.add_eq_left, Nat.left_eq_add, not_true_eq_false, not_false_eq_true, reduceCtorEq, i10, i01, ib10, ib01, beq_self_eq_true, eq_self, Int32.reduceLT, Int32.reduceToNatClampNeg, Int32.reduceAdd, Int32.reduceSub, Int32.reduceMul, Bool.or_true, Bool.true_or, Bool.or_false, Bool.false_or, Nat.reduceBEq, Nat.reduceMul, f1]
    rfl
  · intro k hk
    show bcs hf σ.1 (54 * L.length) 0 0 54 k = x k
    unfold bcs
    rw [if_pos (by omega), Nat.sub_zero]
    exact a5 L.length x (by rw [hL]; simp) k hk
  · rw [mu_n _ _ (by omega), mu_s]
  · rw [mu_n _ _ (by omega), mu_n _ _ (by omega)]; exact a4
  · intro j y hj k hk
    refine a5 j y ?_ k hk
    rw [hL, List.getElem?_append_left (List.getElem?_eq_some_iff.mp hj).1]
    exact hj
  · rw [mu_n _ _ (by omega), mu_n _ _ (by omega)]; exact a6
  · rw [mu_n _ _ (by omega), mu_n _ _ (by omega)]; exact a9
  · rw [mu_n _ _ (by omega), mu_n _ _ (by omega)]; exact a12
  · rw [mu_n _ _ (by omega), mu_n _ _ (by omega)]; exact a13
  · rw [mu_n _ _ (by omega), mu_n _ _ (by omega)]; exact a16
  · rw [mu_n _ _ (by omega), mu_n _ _ (by omega)]; exact a17
  · rw [mu_n _ _ (by omega), mu_n _ _ (by omega)]; exact a18
  · exact (fB.rf.mu (by omega) (by omega)).mu (by omega) (by omega)
end
