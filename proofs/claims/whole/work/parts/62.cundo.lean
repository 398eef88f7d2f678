theorem REq.sy {x y : Row} (h : REq x y) : REq y x := fun k hk => (h k hk).symm
section
variable {a k : Nat} {σ : AS}
theorem His.k3 {m : xM} {a : Nat} {L : List Row} (h : His m a L) : ∃ v1 : Value, m a = .inr (1, [.ref (a + 1), v1, .int (nI L.length)]) := by
  obtain ⟨nx, hf, -, -, h3, -⟩ := h
  exact ⟨_, h3⟩
theorem c_undo0 (hL : σ.2.1 = []) : cDo 80 a [] σ (-5) σ := by
  refine cDo.same fun h hC => ?_
  obtain ⟨k1, k2, k3, k4, k5, k6, k7, k8⟩ := hC; unfold CO at k1
  obtain ⟨v1, hk⟩ := k4.k3
  rw [hL, show nI ([] : List Row).length = 0 from rfl] at hk
  simp only [c80, q80_0, q80_1, q80_4, q80_7, q80_10, q80_12, q80_13, q80_14, q80_17, q80_18, q80_21, q80_24, q80_25, q80_28, q80_31, rv_v, rv_n, rh_v, mu_at, isF_r, isK_r, fld_r, fset_r, gd0, gd1, gd2, gd3, gd4, gd5, gd6, gd7, gd8, gd9, gd10, gd11, gd12, gd13, inA_l, inW_l, inZ_l, inQ_l, aget_l, aset_l, qget_l, qset_l, isA_l, isA_q, alen_l, k2_i, k2_a, k2_n, k2_u, k2_l, ite_si, Option.isSome_some, List.cons_append, List.nil_append, List.length_cons, List.length_nil, Nat.reduceAdd, Nat.zero_add, Nat.reduceLT, Nat.reduceEqDiff, decide_true, decide_false, Bool.and_self, Bool.and_true, Bool.true_and, ↓reduceIte, List.set_cons_zero, List.set_cons_succ, Nat.reduceSub, Nat.add_left_cancel_iff, Nat.add_eq_left, Nat.left_eq_add, not_true_eq_false, not_false_eq_true, reduceCtorEq, i10, i01, ib10, ib01, beq_self_eq_true, eq_self, Int32.reduceLT, Int32.reduceToNatClampNeg, Int32.reduceAdd, Int32.reduceSub, Int32.reduceMul, Bool.or_true, Bool.true_or, Bool.or_false, Bool.false_or, Nat.reduceBEq, Nat.reduceMul, k1, hk]
theorem c_undo1 {L : List Row} {x : Row} {h : xH} (hL : σ.2.1 = L ++ [x]) (hC : CC h.2 a σ) : ∃ m' : xM, cl 80 [.ref a] h = some (some (.int (nI L.length)), (h.1, m')) ∧ (∀ r', REq r' x → CC m' a (r', L, σ.2.2)) ∧ fC a h.2 m' := by
  have hC0 := hC
  obtain ⟨k1, k2, k3, k4, k5, k6, k7, k8⟩ := hC; unfold CO at k1
  have hlen : σ.2.1.length = L.length + 1 := by rw [hL]; simp
  have hle : σ.2.1.length ≤ 6 := by
    obtain ⟨nx, hf, -, q, -⟩ := k4
    exact q
  obtain ⟨v1, hk⟩ := k4.k3
  rw [hlen] at hk
  have hne : ¬ nI (L.length + 1) = 0 := nI_ne0 (by omega) (by omega)
  rw [hL] at k4
  obtain ⟨m', e, gH, gR, gf⟩ := p_bring k4 k2.x (by omega)
  obtain ⟨v2, hk2⟩ := gH.k3
  have j1 : m' a = _ := (gf a (by omega) (by omega)).trans k1
  have hm : ∀ r', REq r' x → CC m' a (r', L, σ.2.2) ∧ fC a h.2 m' := fun r' hr => hC0.ch (gR.cg hr.sy) gH (fun y q1 q2 => gf y (by omega) (by omega))
  refine ⟨m', ?_, fun r' hr => (hm r' hr).1, (hm x (fun _ _ => rfl)).2⟩
  simp only [c80, q80_0, q80_1, q80_4, q80_7, q80_10, q80_12, q80_13, q80_14, q80_17, q80_18, q80_21, q80_24, q80_25, q80_28, q80_31, rv_v, rv_n, rh_v, mu_at, isF_r, isK_r, fld_r, fset_r, gd0, gd1, gd2, gd3, gd4, gd5, gd6, gd7, gd8, gd9, gd10, gd11, gd12, gd13, inA_l, inW_l, inZ_l, inQ_l, aget_l, aset_l, qget_l, qset_l, isA_l, isA_q, alen_l, k2_i, k2_a, k2_n, k2_u, k2_l, ite_si, Option.isSome_some, List.cons_append, List.nil_append, List.length_cons, List.length_nil, Nat.reduceAdd, Nat.zero_add, Nat.reduceLT, Nat.reduceEqDiff, decide_true, decide_false, Bool.and_self, Bool.and_true, Bool.true_and, ↓reduceIte, List.set_cons_zero, List.set_cons_succ, Nat.reduceSub, Nat.add_left_cancel_iff, Nat.add_eq_left, Nat.left_eq_add, not_true_eq_false, not_false_eq_true, reduceCtorEq, i10, i01, ib10, ib01, beq_self_eq_true, eq_self, Int32.reduceLT, Int32.reduceToNatClampNeg, Int32.reduceAdd, Int32.reduceSub, Int32.reduceMul, Bool.or_true, Bool.true_or, Bool.or_false, Bool.false_or, Nat.reduceBEq, Nat.reduceMul, k1, hk, hne, e, j1, hk2]
end
