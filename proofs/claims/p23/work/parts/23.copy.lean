def cp (n : Nat) (f g : Nat → Int32) : Nat → Int32 := fun k => if k < n then f k else g k
theorem p_copyLoop {p p' n : Nat} {f : Nat → Int32} {z : Nat × Nat} (hpp : p ≠ p') (hn : n < 2 ^ 31) : ∀ (d i : Nat) (g : Nat → Int32) (m : xM), i + d = n → m p = .inl (0, n, .inl f) → m p' = .inl (0, n, .inl g) → rn 69 2 [.ref p, .ref p', .int (nI i)] [] (z, m) = some (none, (z, mu m p' (.inl (0, n, .inl (fun k => if i ≤ k ∧ k < n then f k else g k))))) := by
  intro d
  induction d with
  | zero =>
    intro i g m hi hp hp'
    have c1 : ¬ nI i < Int32.ofNat n := nI_nlt (by omega) (by omega)
    rw [q69_2]
    simp only [q69_0, q69_1, q69_3, q69_3N, q69_4, q69_5, q69_8, q69_9, q69_9N, q69_10, q69_11, q69_14, q69_14N, q69_15, q69_16, q69_16N, q69_17, q69_18, q69_19, q69_20, q69_23, q69_26, rv_v, rv_n, rh_v, mu_at, isF_r, isK_r, fld_r, fset_r, gd0, gd1, gd2, gd3, gd4, gd5, gd6, gd7, gd8, gd9, gd10, gd11, gd12, gd13, inA_l, inW_l, inZ_l, inQ_l, aget_l, aset_l, qget_l, qset_l, isA_l, isA_q, alen_l, k2_i, k2_a, k2_n, k2_u, k2_l, ite_si, Option.isSome_some, List.cons_append, List.nil_append, List.length_cons, List.length_nil, Nat.reduceAdd, Nat.zero_add, Nat.reduceLT, Nat.reduceEqDiff, decide_true, decide_false, Bool.and_self, Bool.and_true, Bool.true_and, ↓reduceIte, List.set_cons_zero, List.set_cons_succ, Nat.reduceSub, Nat.add_left_cancel_iff, Nat.add_eq_left, Nat.left_eq_add, not_true_eq_false, not_false_eq_true, reduceCtorEq, i10, i01, ib10, ib01, beq_self_eq_true, eq_self, Int32.reduceLT, Int32.reduceToNatClampNeg, Int32.reduceAdd, Int32.reduceSub, Int32.reduceMul, Bool.or_true, Bool.true_or, Bool.or_false, Bool.false_or, Nat.reduceBEq, Nat.reduceMul, hp, hp', c1]
    have e : (fun k => if i ≤ k ∧ k < n then f k else g k) = g := by
      funext k
      rw [if_neg (by omega)]
    rw [e]
    congr 3
    funext x
    by_cases hx : x = p'
    · subst hx; rw [mu_s, hp']
    · rw [mu_n _ _ hx]
  | succ d ih =>
    intro i g m hi hp hp'
    have c0 : ¬ nI i < 0 := nI_pos (by omega)
    have c1 : nI i < Int32.ofNat n := nI_lt (by omega) hn
    have c2 : (nI i).toNatClampNeg = i := nI_clamp (by omega)
    have c3 : i < n := by omega
    rw [q69_2]
    simp only [q69_0, q69_1, q69_3, q69_3N, q69_4, q69_5, q69_8, q69_9, q69_9N, q69_10, q69_11, q69_14, q69_14N, q69_15, q69_16, q69_16N, q69_17, q69_18, q69_19, q69_20, q69_23, q69_26, rv_v, rv_n, rh_v, mu_at, isF_r, isK_r, fld_r, fset_r, gd0, gd1, gd2, gd3, gd4, gd5, gd6, gd7, gd8, gd9, gd10, gd11, gd12, gd13, inA_l, inW_l, inZ_l, inQ_l, aget_l, aset_l, qget_l, qset_l, isA_l, isA_q, alen_l, k2_i, k2_a, k2_n, k2_u, k2_l, ite_si, Option.isSome_some, List.cons_append, List.nil_append, List.length_cons, List.length_nil, Nat.reduceAdd, Nat.zero_add, Nat.reduceLT, Nat.reduceEqDiff, decide_true, decide_false, Bool.and_self, Bool.and_true, Bool.true_and, ↓reduceIte, List.set_cons_zero, List.set_cons_succ, Nat.reduceSub, Nat.add_left_cancel_iff, Nat.add_eq_left, Nat.left_eq_add, not_true_eq_false, not_false_eq_true, reduceCtorEq, i10, i01, ib10, ib01, beq_self_eq_true, eq_self, Int32.reduceLT, Int32.reduceToNatClampNeg, Int32.reduceAdd, Int32.reduceSub, Int32.reduceMul, Bool.or_true, Bool.true_or, Bool.or_false, Bool.false_or, Nat.reduceBEq, Nat.reduceMul, hp, hp', c0, c1, c2, c3, nI_1]
    rw [ih (i + 1) (upd g i (f i)) _ (by omega) (by rw [mu_n _ _ hpp]; exact hp) (by rw [mu_s]), mu_mu]
    congr 8
    funext k
    by_cases hk : k = i
    · subst hk
      rw [if_neg (by omega), if_pos (by omega)]
      simp [upd]
    · by_cases hk2 : i + 1 ≤ k ∧ k < n
      · rw [if_pos hk2, if_pos (by omega)]
      · rw [if_neg hk2, if_neg (by omega)]
        simp [upd, hk]
theorem p_copyNumbers {p p' n : Nat} {f g : Nat → Int32} {h : xH} (hpp : p ≠ p') (hn : n < 2 ^ 31) (hp : h.2 p = .inl (0, n, .inl f)) (hp' : h.2 p' = .inl (0, n, .inl g)) : cl 69 [.ref p, .ref p'] h = some (none, (h.1, mu h.2 p' (.inl (0, n, .inl (cp n f g))))) := by
  obtain ⟨z, m⟩ := h
  simp only [c69, q69_0, q69_1, q69_3, q69_3N, q69_4, q69_5, q69_8, q69_9, q69_9N, q69_10, q69_11, q69_14, q69_14N, q69_15, q69_16, q69_16N, q69_17, q69_18, q69_19, q69_20, q69_23, q69_26, rv_v, rv_n, rh_v, mu_at, isF_r, isK_r, fld_r, fset_r, gd0, gd1, gd2, gd3, gd4, gd5, gd6, gd7, gd8, gd9, gd10, gd11, gd12, gd13, inA_l, inW_l, inZ_l, inQ_l, aget_l, aset_l, qget_l, qset_l, isA_l, isA_q, alen_l, k2_i, k2_a, k2_n, k2_u, k2_l, ite_si, Option.isSome_some, List.cons_append, List.nil_append, List.length_cons, List.length_nil, Nat.reduceAdd, Nat.zero_add, Nat.reduceLT, Nat.reduceEqDiff, decide_true, decide_false, Bool.and_self, Bool.and_true, Bool.true_and, ↓reduceIte, List.set_cons_zero, List.set_cons_succ, Nat.reduceSub, Nat.add_left_cancel_iff, Nat.add_eq_left, Nat.left_eq_add, not_true_eq_false, not_false_eq_true, reduceCtorEq, i10, i01, ib10, ib01, beq_self_eq_true, eq_self, Int32.reduceLT, Int32.reduceToNatClampNeg, Int32.reduceAdd, Int32.reduceSub, Int32.reduceMul, Bool.or_true, Bool.true_or, Bool.or_false, Bool.false_or, Nat.reduceBEq, Nat.reduceMul]
  have := p_copyLoop (z := z) hpp hn n 0 g m (by omega) hp hp'
  rw [show (nI 0) = 0 from rfl] at this
  rw [this]
  congr 8
  funext k
  unfold cp
  by_cases hk : k < n
  · rw [if_pos hk, if_pos (by omega)]
  · rw [if_neg hk, if_neg (by omega)]
