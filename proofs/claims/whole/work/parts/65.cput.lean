section
variable {a k : Nat} {σ : AS}
theorem p_append {h : xH} {p : Nat} {L : List Int32} (hP : Pd h.2 p L) (hl : L.length < 60) (x : Int32) : ∃ m', cl 37 [.ref p, .int x] h = some (none, (h.1, m')) ∧ Pd m' p (L ++ [x]) ∧ ∀ y, (y < p ∨ p + 2 ≤ y) → m' y = h.2 y := by
  obtain ⟨h1, h2, cf, h3, h4⟩ := hP
  have c0 : ¬ nI L.length < 0 := nI_pos (by omega)
  have c1 : nI L.length < Int32.ofNat 60 := nI_lt (b := 60) hl (by decide)
  have c2 : (nI L.length).toNatClampNeg = L.length := nI_clamp (by omega)
  have en : nI L.length + 1 = nI (L.length + 1) := nI_1 _
  have el : (L ++ [x]).length = L.length + 1 := by simp
  refine ⟨mu (mu h.2 (p + 1) (.inl (0, 60, .inl (upd cf L.length x)))) p (.inr (3, [.ref (p + 1), .int (nI (L.length + 1))])), ?_, ⟨by rw [mu_s, el], by rw [el]; omega, _, by rw [mu_n _ _ (by omega), mu_s], h4.app x⟩, fun y hy => by rw [mu_n _ _ (by omega), mu_n _ _ (by omega)]⟩
  simp only [c37, q37_0, q37_1, q37_4, q37_7, q37_8, q37_11, q37_12, q37_15, q37_16, q37_19, q37_20, q37_23, q37_24, q37_27, q37_28, q37_29, q37_30, q37_31, q37_34, q37_35, q37_36, q37_39, rv_v, rv_n, rh_v, mu_at, isF_r, isK_r, fld_r, fset_r, gd0, gd1, gd2, gd3, gd4, gd5, gd6, gd7, gd8, gd9, gd10, gd11, gd12, gd13, inA_l, inW_l, inZ_l, inQ_l, aget_l, aset_l, qget_l, qset_l, isA_l, isA_q, alen_l, k2_i, k2_a, k2_n, k2_u, k2_l, ite_si, Option.isSome_some, List.cons_append, List.nil_append, List.length_cons, List.length_nil, Nat.reduceAdd, Nat.zero_add, Nat.reduceLT, Nat.reduceEqDiff, decide_true, decide_false, Bool.and_self, Bool.and_true, Bool.true_and, ↓reduceIte, List.set_cons_zero, List.set_cons_succ, Nat.reduceSub, Nat.add_left_cancel_iff, Nat.add_eq_left, Nat.left_eq_add, not_true_eq_false, not_false_eq_true, reduceCtorEq, i10, i01, ib10, ib01, beq_self_eq_true, eq_self, Int32.reduceLT, Int32.reduceToNatClampNeg, Int32.reduceAdd, Int32.reduceSub, Int32.reduceMul, Bool.or_true, Bool.true_or, Bool.or_false, Bool.false_or, Nat.reduceBEq, Nat.reduceMul, h1, h3, c0, c1, c2, hl, en]
theorem c_put0 {x : Int64} (hz : sz x 0 8 = 0) : cDo 77 a [.long x] σ (-2) σ := by
  refine cDo.same fun h hC => ?_
  obtain ⟨k1, k2, k3, k4, k5, k6, k7, k8⟩ := hC; unfold CO at k1
  have e := p_chars x h
  rw [hz, show nI 0 = 0 from rfl] at e
  simp only [c77, q77_0, q77_1, q77_4, q77_5, q77_6, q77_9, q77_11, q77_12, q77_13, q77_16, q77_19, q77_20, q77_21, q77_23, q77_26, q77_28, q77_29, q77_30, q77_31, q77_32, q77_36, q77_39, q77_40, q77_43, q77_44, q77_46, q77_49, q77_52, q77_55, q77_58, q77_59, q77_62, q77_65, rv_v, rv_n, rh_v, mu_at, isF_r, isK_r, fld_r, fset_r, gd0, gd1, gd2, gd3, gd4, gd5, gd6, gd7, gd8, gd9, gd10, gd11, gd12, gd13, inA_l, inW_l, inZ_l, inQ_l, aget_l, aset_l, qget_l, qset_l, isA_l, isA_q, alen_l, k2_i, k2_a, k2_n, k2_u, k2_l, ite_si, Option.isSome_some, List.cons_append, List.nil_append, List.length_cons, List.length_nil, Nat.reduceAdd, Nat.zero_add, Nat.reduceLT, Nat.reduceEqDiff, decide_true, decide_false, Bool.and_self, Bool.and_true, Bool.true_and, ↓reduceIte, List.set_cons_zero, List.set_cons_succ, Nat.reduceSub, Nat.add_left_cancel_iff, Nat.add_eq_left, Nat.left_eq_add, not_true_eq_false, not_false_eq_true, reduceCtorEq, i10, i01, ib10, ib01, beq_self_eq_true, eq_self, Int32.reduceLT, Int32.reduceToNatClampNeg, Int32.reduceAdd, Int32.reduceSub, Int32.reduceMul, Bool.or_true, Bool.true_or, Bool.or_false, Bool.false_or, Nat.reduceBEq, Nat.reduceMul, k1, e]
theorem c_put1 {x : Int64} (hz : ¬ sz x 0 8 = 0) (hl : 60 < σ.2.2.2.length + sz x 0 8) : cDo 77 a [.long x] σ (-4) σ := by
  refine cDo.same fun h hC => ?_
  obtain ⟨k1, k2, k3, k4, k5, k6, k7, k8⟩ := hC; unfold CO at k1
  have e := p_chars x h
  have kp := k7.1
  have k60 := k7.2.1
  have hs := sz_le x 8 0
  have hn : ¬ nI (sz x 0 8) = 0 := nI_ne0 (by omega) (by omega)
  have ea : nI σ.2.2.2.length + nI (sz x 0 8) = nI (σ.2.2.2.length + sz x 0 8) := nI_add _ _
  have c1 : 60 < nI (σ.2.2.2.length + sz x 0 8) := nI_lt (a := 60) hl (by omega)
  simp only [c77, q77_0, q77_1, q77_4, q77_5, q77_6, q77_9, q77_11, q77_12, q77_13, q77_16, q77_19, q77_20, q77_21, q77_23, q77_26, q77_28, q77_29, q77_30, q77_31, q77_32, q77_36, q77_39, q77_40, q77_43, q77_44, q77_46, q77_49, q77_52, q77_55, q77_58, q77_59, q77_62, q77_65, rv_v, rv_n, rh_v, mu_at, isF_r, isK_r, fld_r, fset_r, gd0, gd1, gd2, gd3, gd4, gd5, gd6, gd7, gd8, gd9, gd10, gd11, gd12, gd13, inA_l, inW_l, inZ_l, inQ_l, aget_l, aset_l, qget_l, qset_l, isA_l, isA_q, alen_l, k2_i, k2_a, k2_n, k2_u, k2_l, ite_si, Option.isSome_some, List.cons_append, List.nil_append, List.length_cons, List.length_nil, Nat.reduceAdd, Nat.zero_add, Nat.reduceLT, Nat.reduceEqDiff, decide_true, decide_false, Bool.and_self, Bool.and_true, Bool.true_and, ↓reduceIte, List.set_cons_zero, List.set_cons_succ, Nat.reduceSub, Nat.add_left_cancel_iff, Nat.add_eq_left, Nat.left_eq_add, not_true_eq_false, not_false_eq_true, reduceCtorEq, i10, i01, ib10, ib01, beq_self_eq_true, eq_self, Int32.reduceLT, Int32.reduceToNatClampNeg, Int32.reduceAdd, Int32.reduceSub, Int32.reduceMul, Bool.or_true, Bool.true_or, Bool.or_false, Bool.false_or, Nat.reduceBEq, Nat.reduceMul, k1, e, kp, hn, ea, c1]
theorem p_putLoop {x : Int64} {n : Int32} : ∀ (d : Nat) (L : List Int32) (h : xH), CO h.2 a → Pd h.2 (a + 75) L → L.length + d ≤ 60 → ∃ m', rn 77 34 [.ref a, .long x, unk, .int n, .int (nI d - 1)] [] h = some (some (.int (nI (L ++ cs x d).length)), (h.1, m')) ∧ Pd m' (a + 75) (L ++ cs x d) ∧ ∀ y, (y < a + 75 ∨ a + 77 ≤ y) → m' y = h.2 y := by
  intro d
  induction d with
  | zero =>
    intro L h k1 hP hl
    have kp := hP.1
    unfold CO at k1
    have c1 : nI 0 - 1 < 0 := by decide
    refine ⟨h.2, ?_, by rw [show cs x 0 = [] from rfl, List.append_nil]; exact hP, fun _ _ => rfl⟩
    rw [show cs x 0 = [] from rfl, List.append_nil, q77_34]
    simp only [q77_0, q77_1, q77_4, q77_5, q77_6, q77_9, q77_11, q77_12, q77_13, q77_16, q77_19, q77_20, q77_21, q77_23, q77_26, q77_28, q77_29, q77_30, q77_31, q77_32, q77_36, q77_39, q77_40, q77_43, q77_44, q77_46, q77_49, q77_52, q77_55, q77_58, q77_59, q77_62, q77_65, rv_v, rv_n, rh_v, mu_at, isF_r, isK_r, fld_r, fset_r, gd0, gd1, gd2, gd3, gd4, gd5, gd6, gd7, gd8, gd9, gd10, gd11, gd12, gd13, inA_l, inW_l, inZ_l, inQ_l, aget_l, aset_l, qget_l, qset_l, isA_l, isA_q, alen_l, k2_i, k2_a, k2_n, k2_u, k2_l, ite_si, Option.isSome_some, List.cons_append, List.nil_append, List.length_cons, List.length_nil, Nat.reduceAdd, Nat.zero_add, Nat.reduceLT, Nat.reduceEqDiff, decide_true, decide_false, Bool.and_self, Bool.and_true, Bool.true_and, ↓reduceIte, List.set_cons_zero, List.set_cons_succ, Nat.reduceSub, Nat.add_left_cancel_iff, Nat.add_eq_left, Nat.left_eq_add, not_true_eq_false, not_false_eq_true, reduceCtorEq, i10, i01, ib10, ib01, beq_self_eq_true, eq_self, Int32.reduceLT, Int32.reduceToNatClampNeg, Int32.reduceAdd, Int32.reduceSub, Int32.reduceMul, Bool.or_true, Bool.true_or, Bool.or_false, Bool.false_or, Nat.reduceBEq, Nat.reduceMul, k1, kp, c1]
  | succ d ih =>
    intro L h k1 hP hl
    have k1' := k1
    have kp := hP.1
    unfold CO at k1
    have ep : nI (d + 1) - 1 = nI d := nI_pred d
    have c1 : ¬ nI d < 0 := nI_pos (by omega)
    have em : nI d + -1 = nI d - 1 := (Int32.sub_eq_add_neg _ _).symm
    obtain ⟨m1, e1, g1, g2⟩ := p_append hP (by omega) (cA x (nI d))
    obtain ⟨m2, e2, g3, g4⟩ := ih (L ++ [cA x (nI d)]) (h.1, m1) (by unfold CO; exact (g2 _ (by omega)).trans k1) g1 (by simp; omega)
    rw [List.append_assoc, show [cA x (nI d)] ++ cs x d = cs x (d + 1) from rfl] at e2 g3
    refine ⟨m2, ?_, g3, fun y hy => (g4 y hy).trans (g2 y (by omega))⟩
    rw [← e2, ep, q77_34]
    simp only [q77_0, q77_1, q77_4, q77_5, q77_6, q77_9, q77_11, q77_12, q77_13, q77_16, q77_19, q77_20, q77_21, q77_23, q77_26, q77_28, q77_29, q77_30, q77_31, q77_32, q77_36, q77_39, q77_40, q77_43, q77_44, q77_46, q77_49, q77_52, q77_55, q77_58, q77_59, q77_62, q77_65, rv_v, rv_n, rh_v, mu_at, isF_r, isK_r, fld_r, fset_r, gd0, gd1, gd2, gd3, gd4, gd5, gd6, gd7, gd8, gd9, gd10, gd11, gd12, gd13, inA_l, inW_l, inZ_l, inQ_l, aget_l, aset_l, qget_l, qset_l, isA_l, isA_q, alen_l, k2_i, k2_a, k2_n, k2_u, k2_l, ite_si, Option.isSome_some, List.cons_append, List.nil_append, List.length_cons, List.length_nil, Nat.reduceAdd, Nat.zero_add, Nat.reduceLT, Nat.reduceEqDiff, decide_true, decide_false, Bool.and_self, Bool.and_true, Bool.true_and, ↓reduceIte, List.set_cons_zero, List.set_cons_succ, Nat.reduceSub, Nat.add_left_cancel_iff, Nat.add_eq_left, Nat.left_eq_add, not_true_eq_false, not_false_eq_true, reduceCtorEq, i10, i01, ib10, ib01, beq_self_eq_true, eq_self, Int32.reduceLT, Int32.reduceToNatClampNeg, Int32.reduceAdd, Int32.reduceSub, Int32.reduceMul, Bool.or_true, Bool.true_or, Bool.or_false, Bool.false_or, Nat.reduceBEq, Nat.reduceMul, k1, kp, c1, p_codeAt, e1, em]
theorem c_put2 {x : Int64} (hz : ¬ sz x 0 8 = 0) (hl : σ.2.2.2.length + sz x 0 8 ≤ 60) : cDo 77 a [.long x] σ (nI (σ.2.2.2.length + sz x 0 8)) (σ.1, σ.2.1, σ.2.2.1, σ.2.2.2 ++ cs x (sz x 0 8)) := by
  intro h hC
  have k1c := hC.1
  obtain ⟨k1, k2, k3, k4, k5, k6, k7, k8⟩ := hC; unfold CO at k1
  have e := p_chars x h
  have kp := k7.1
  have hs := sz_le x 8 0
  have hn : ¬ nI (sz x 0 8) = 0 := nI_ne0 (by omega) (by omega)
  have ea : nI σ.2.2.2.length + nI (sz x 0 8) = nI (σ.2.2.2.length + sz x 0 8) := nI_add _ _
  have c1 : ¬ 60 < nI (σ.2.2.2.length + sz x 0 8) := nI_nlt (a := 60) hl (by decide)
  obtain ⟨m', e2, g1, g2⟩ := p_putLoop (x := x) (n := nI (sz x 0 8)) (sz x 0 8) σ.2.2.2 h k1c k7 hl
  have el : (σ.2.2.2 ++ cs x (sz x 0 8)).length = σ.2.2.2.length + sz x 0 8 := by rw [List.length_append, cs_len]
  rw [el] at e2
  refine ⟨m', ?_, ⟨by unfold CO; exact (g2 _ (by omega)).trans k1, k2.fr (fun y q1 q2 => g2 y (by omega)), k3.fr (fun y q1 q2 => g2 y (by omega)), k4.fr (fun y q1 q2 => g2 y (by omega)), k5.fr (fun y q1 q2 => g2 y (by omega)), k6.fr (fun y q1 q2 => g2 y (by omega)), g1, k8.fr (fun y q1 q2 => g2 y (by omega))⟩, fun y hy => g2 y (by omega)⟩
  rw [← e2]
  simp only [c77, q77_0, q77_1, q77_4, q77_5, q77_6, q77_9, q77_11, q77_12, q77_13, q77_16, q77_19, q77_20, q77_21, q77_23, q77_26, q77_28, q77_29, q77_30, q77_31, q77_32, q77_36, q77_39, q77_40, q77_43, q77_44, q77_46, q77_49, q77_52, q77_55, q77_58, q77_59, q77_62, q77_65, rv_v, rv_n, rh_v, mu_at, isF_r, isK_r, fld_r, fset_r, gd0, gd1, gd2, gd3, gd4, gd5, gd6, gd7, gd8, gd9, gd10, gd11, gd12, gd13, inA_l, inW_l, inZ_l, inQ_l, aget_l, aset_l, qget_l, qset_l, isA_l, isA_q, alen_l, k2_i, k2_a, k2_n, k2_u, k2_l, ite_si, Option.isSome_some, List.cons_append, List.nil_append, List.length_cons, List.length_nil, Nat.reduceAdd, Nat.zero_add, Nat.reduceLT, Nat.reduceEqDiff, decide_true, decide_false, Bool.and_self, Bool.and_true, Bool.true_and, ↓reduceIte, List.set_cons_zero, List.set_cons_succ, Nat.reduceSub, Nat.add_left_cancel_iff, Nat.add_eq_left, Nat.left_eq_add, not_true_eq_false, not_false_eq_true, reduceCtorEq, i10, i01, ib10, ib01, beq_self_eq_true, eq_self, Int32.reduceLT, Int32.reduceToNatClampNeg, Int32.reduceAdd, Int32.reduceSub, Int32.reduceMul, Bool.or_true, Bool.true_or, Bool.or_false, Bool.false_or, Nat.reduceBEq, Nat.reduceMul, k1, e, kp, hn, ea, c1]
end
