theorem p_addStep {b r t f S : Nat} {ri tr ft : Nat → Int32} {x y : Int32} {h : xH} (hS : SA h.2 b r t f (nI S) ri tr ft) (hl : S < 20) (d1 : b ≠ r) (d2 : b ≠ t) (d3 : b ≠ f) (d4 : r ≠ t) (d5 : r ≠ f) (d6 : t ≠ f) : cl 40 [.ref b, .int x, .int y] h = some (none, (h.1, mu (mu (mu (mu h.2 r (.inl (0, 20, .inl (upd ri S x)))) t (.inl (0, 20, .inl (upd tr S y)))) f (.inl (0, 21, .inl (upd ft (S + 1) (ft S + x + y))))) b (.inr (6, [.ref r, .ref t, .ref f, .int (nI (S + 1))])))) := by
  obtain ⟨s1, s2, s3, s4⟩ := hS
  have c0 : ¬ nI S < 0 := nI_pos (by omega)
  have c1 : nI S < Int32.ofNat 20 := nI_lt (b := 20) hl (by decide)
  have c2 : (nI S).toNatClampNeg = S := nI_clamp (by omega)
  have c3 : S < 21 := by omega
  have en : nI S + 1 = nI (S + 1) := nI_1 S
  have e0 : ¬ nI (S + 1) < 0 := nI_pos (by omega)
  have e1 : nI (S + 1) < Int32.ofNat 21 := nI_lt (b := 21) (by omega) (by decide)
  have e2 : (nI (S + 1)).toNatClampNeg = S + 1 := nI_clamp (by omega)
  have e3 : S + 1 < 21 := by omega
  have d4' := d4.symm
  have d5' := d5.symm
  have d6' := d6.symm
  simp only [c40, q40_0, q40_1, q40_4, q40_7, q40_8, q40_11, q40_12, q40_15, q40_16, q40_19, q40_20, q40_23, q40_24, q40_27, q40_28, q40_31, q40_32, q40_35, q40_36, q40_37, q40_38, q40_41, q40_42, q40_45, q40_46, q40_49, q40_50, q40_53, q40_54, q40_55, q40_56, q40_59, q40_60, q40_63, q40_64, q40_65, q40_66, q40_69, q40_70, q40_73, q40_74, q40_75, q40_76, q40_79, q40_80, q40_83, q40_84, q40_85, q40_86, q40_87, q40_88, q40_89, q40_90, q40_91, q40_94, q40_95, q40_96, q40_99, rv_v, rv_n, rh_v, mu_at, isF_r, isK_r, fld_r, fset_r, gd0, gd1, gd2, gd3, gd4, gd5, gd6, gd7, gd8, gd9, gd10, gd11, gd12, gd13, inA_l, inW_l, inZ_l, inQ_l, aget_l, aset_l, qget_l, qset_l, isA_l, isA_q, alen_l, k2_i, k2_a, k2_n, k2_u, k2_l, ite_si, Option.isSome_some, List.cons_append, List.nil_append, List.length_cons, List.length_nil, Nat.reduceAdd, Nat.zero_add, Nat.reduceLT, Nat.reduceEqDiff, decide_true, decide_false, Bool.and_self, Bool.and_true, Bool.true_and, ↓reduceIte, List.set_cons_zero, List.set_cons_succ, Nat.reduceSub, Nat.add_left_cancel_iff, Nat.add_eq_left, Nat.left_eq_add, not_true_eq_false, not_false_eq_true, reduceCtorEq, i10, i01, ib10, ib01, beq_self_eq_true, eq_self, Int32.reduceLT, Int32.reduceToNatClampNeg, Int32.reduceAdd, Int32.reduceSub, Int32.reduceMul, Bool.or_true, Bool.true_or, Bool.or_false, Bool.false_or, Nat.reduceBEq, Nat.reduceMul, s1, s2, s3, s4, c0, c1, c2, c3, hl, en, e0, e1, e2, e3, d1, d2, d3, d4', d5', d6']
theorem p_addFull {b r t f : Nat} {ri tr ft : Nat → Int32} {x y : Int32} {h : xH} (hS : SA h.2 b r t f 20 ri tr ft) : cl 40 [.ref b, .int x, .int y] h = some (none, h) := by
  obtain ⟨s1, s2, s3, s4⟩ := hS
  have c1 : ¬ (20 : Int32) < Int32.ofNat 20 := by decide
  simp only [c40, q40_0, q40_1, q40_4, q40_7, q40_8, q40_11, q40_12, q40_15, q40_16, q40_19, q40_20, q40_23, q40_24, q40_27, q40_28, q40_31, q40_32, q40_35, q40_36, q40_37, q40_38, q40_41, q40_42, q40_45, q40_46, q40_49, q40_50, q40_53, q40_54, q40_55, q40_56, q40_59, q40_60, q40_63, q40_64, q40_65, q40_66, q40_69, q40_70, q40_73, q40_74, q40_75, q40_76, q40_79, q40_80, q40_83, q40_84, q40_85, q40_86, q40_87, q40_88, q40_89, q40_90, q40_91, q40_94, q40_95, q40_96, q40_99, rv_v, rv_n, rh_v, mu_at, isF_r, isK_r, fld_r, fset_r, gd0, gd1, gd2, gd3, gd4, gd5, gd6, gd7, gd8, gd9, gd10, gd11, gd12, gd13, inA_l, inW_l, inZ_l, inQ_l, aget_l, aset_l, qget_l, qset_l, isA_l, isA_q, alen_l, k2_i, k2_a, k2_n, k2_u, k2_l, ite_si, Option.isSome_some, List.cons_append, List.nil_append, List.length_cons, List.length_nil, Nat.reduceAdd, Nat.zero_add, Nat.reduceLT, Nat.reduceEqDiff, decide_true, decide_false, Bool.and_self, Bool.and_true, Bool.true_and, ↓reduceIte, List.set_cons_zero, List.set_cons_succ, Nat.reduceSub, Nat.add_left_cancel_iff, Nat.add_eq_left, Nat.left_eq_add, not_true_eq_false, not_false_eq_true, reduceCtorEq, i10, i01, ib10, ib01, beq_self_eq_true, eq_self, Int32.reduceLT, Int32.reduceToNatClampNeg, Int32.reduceAdd, Int32.reduceSub, Int32.reduceMul, Bool.or_true, Bool.true_or, Bool.or_false, Bool.false_or, Nat.reduceBEq, Nat.reduceMul, s1, s2, c1]
theorem SA.add {m : xM} {b r t f S : Nat} {ri tr ft : Nat → Int32} {x y : Int32} {n : Int32} (d1 : b ≠ r) (d2 : b ≠ t) (d3 : b ≠ f) (d4 : r ≠ t) (d5 : r ≠ f) (d6 : t ≠ f) : SA (mu (mu (mu (mu m r (.inl (0, 20, .inl ri))) t (.inl (0, 20, .inl tr))) f (.inl (0, 21, .inl ft))) b (.inr (6, [.ref r, .ref t, .ref f, .int n]))) b r t f n ri tr ft :=
  ⟨mu_s _ _ _, by rw [mu_n _ _ d1.symm, mu_n _ _ d5, mu_n _ _ d4, mu_s], by rw [mu_n _ _ d2.symm, mu_n _ _ d6, mu_s], by rw [mu_n _ _ d3.symm, mu_s]⟩
section
variable {a S : Nat} {q ri tr ft : Nat → Int32} {m : xM} {h : xH} {r : Row}
/-- a house with one more step -/
theorem HA.add (hA : HA h.2 a q ri tr ft) (hq : q 3 = nI S) (hS : S < 20) (x y : Int32) : ∃ m', cl 40 [.ref (a + 1), .int x, .int y] h = some (none, (h.1, m')) ∧ HA m' a (upd q 3 (nI (S + 1))) (upd ri S x) (upd tr S y) (upd ft (S + 1) (ft S + x + y)) ∧ ∀ z, (z < a ∨ a + 7 ≤ z) → m' z = h.2 z := by
  obtain ⟨h1, h2, h5, h6⟩ := hA
  rw [hq] at h2
  refine ⟨_, p_addStep h2 hS (by omega) (by omega) (by omega) (by omega) (by omega) (by omega), ⟨?_, ?_, ?_, ?_⟩, fun z hz => ?_⟩
  · rw [mu_n _ _ (by omega), mu_n _ _ (by omega), mu_n _ _ (by omega), mu_n _ _ (by omega)]
    exact h1
  · rw [upd_s]
    exact SA.add (S := S) (x := x) (y := y) (by omega) (by omega) (by omega) (by omega) (by omega) (by omega)
  · unfold CA at h5 ⊢
    rw [mu_n _ _ (by omega), mu_n _ _ (by omega), mu_n _ _ (by omega), mu_n _ _ (by omega)]
    exact h5
  · unfold CA at h6 ⊢
    rw [mu_n _ _ (by omega), mu_n _ _ (by omega), mu_n _ _ (by omega), mu_n _ _ (by omega)]
    exact h6
  · rw [mu_n _ _ (by omega), mu_n _ _ (by omega), mu_n _ _ (by omega), mu_n _ _ (by omega)]
theorem bld_lns {S : Nat} (hS : S < 20) (r : Row) (x y : Int32) {k : Nat} (hk : k ≤ S) : lns (bld r S x y) 0 k = lns r 0 k := by
  refine lns_cg k 0 (fun j h1 h2 => ?_)
  unfold ln bld
  rw [upd_n _ _ (by omega), upd_n _ _ (by omega), upd_n _ _ (by omega), upd_n _ _ (by omega), upd_n _ _ (by omega), upd_n _ _ (by omega)]
theorem RR.add (hR : RR S q ri tr ft r) (hS : S < 20) (x y : Int32) : RR (S + 1) (upd q 3 (nI (S + 1))) (upd ri S x) (upd tr S y) (upd ft (S + 1) (ft S + x + y)) (bld r S x y) := by
  obtain ⟨h1, h2, h3, h4, h5⟩ := hR
  refine ⟨by omega, upd_s _ _ _, fun i hi => ?_, fun k hk => ?_, fun k hk => ?_⟩
  · by_cases hz : i = 3
    · subst hz; rw [upd_s]; exact (upd_s _ _ _).symm
    · have hp : pl i < 3 ∨ 44 ≤ pl i := by unfold pl; split <;> omega
      unfold bld
      rw [upd_n _ _ hz, upd_n _ _ (by omega), upd_n _ _ (by omega), upd_n _ _ (by omega)]
      exact h3 i hi
  · unfold bld
    by_cases hz : k = S
    · subst hz
      rw [upd_s, upd_s, upd_n _ _ (by omega), upd_n _ _ (by omega), upd_s, upd_n _ _ (by omega), upd_s]
      exact ⟨rfl, rfl⟩
    · rw [upd_n _ _ hz, upd_n _ _ hz, upd_n _ _ (by omega), upd_n _ _ (by omega), upd_n _ _ (by omega), upd_n _ _ (by omega), upd_n _ _ (by omega), upd_n _ _ (by omega)]
      exact h4 k (by omega)
  · by_cases hz : k = S + 1
    · subst hz
      rw [upd_s, lns, bld_lns hS r x y (Nat.le_refl _), h5 S (Nat.le_refl _), Nat.zero_add]
      have e : ln (bld r S x y) S = x + y := by
        unfold ln bld
        rw [upd_n _ _ (by omega), upd_n _ _ (by omega), upd_s, upd_n _ _ (by omega), upd_s]
      rw [e, Int32.add_assoc]
    · rw [upd_n _ _ hz, h5 k (by omega), bld_lns hS r x y (by omega)]
end
section
variable {a k : Nat} {σ : AS}
theorem c_build0 (x y : Int32) (hb : bw x 10 25 = 0 ∨ bw y 15 40 = 0) : cDo 53 a [.int x, .int y] σ (-2) σ := by
  refine cDo.same fun h hC => ?_
  by_cases hx : bw x 10 25 = 0
  · simp only [c53, q53_0, q53_1, q53_3, q53_5, q53_8, q53_11, q53_12, q53_14, q53_16, q53_19, q53_22, q53_24, q53_25, q53_26, q53_29, q53_32, q53_35, q53_37, q53_38, q53_39, q53_42, q53_45, q53_48, q53_50, q53_53, q53_55, q53_56, q53_57, q53_60, q53_61, q53_64, q53_67, q53_68, q53_71, q53_74, q53_75, q53_76, q53_79, q53_80, q53_83, q53_86, q53_89, q53_90, q53_91, rv_v, rv_n, rh_v, mu_at, isF_r, isK_r, fld_r, fset_r, gd0, gd1, gd2, gd3, gd4, gd5, gd6, gd7, gd8, gd9, gd10, gd11, gd12, gd13, inA_l, inW_l, inZ_l, inQ_l, aget_l, aset_l, qget_l, qset_l, isA_l, isA_q, alen_l, k2_i, k2_a, k2_n, k2_u, k2_l, ite_si, Option.isSome_some, List.cons_append, List.nil_append, List.length_cons, List.length_nil, Nat.reduceAdd, Nat.zero_add, Nat.reduceLT, Nat.reduceEqDiff, decide_true, decide_false, Bool.and_self, Bool.and_true, Bool.true_and, ↓reduceIte, List.set_cons_zero, List.set_cons_succ, Nat.reduceSub, Nat.add_left_cancel_iff, Nat.add_eq_left, Nat.left_eq_add, not_true_eq_false, not_false_eq_true, reduceCtorEq, i10, i01, ib10, ib01, beq_self_eq_true, eq_self, Int32.reduceLT, Int32.reduceToNatClampNeg, Int32.reduceAdd, Int32.reduceSub, Int32.reduceMul, Bool.or_true, Bool.true_or, Bool.or_false, Bool.false_or, Nat.reduceBEq, Nat.reduceMul, p_isWithin, if_pos hx]
  · have hy := hb.resolve_left hx
    simp only [c53, q53_0, q53_1, q53_3, q53_5, q53_8, q53_11, q53_12, q53_14, q53_16, q53_19, q53_22, q53_24, q53_25, q53_26, q53_29, q53_32, q53_35, q53_37, q53_38, q53_39, q53_42, q53_45, q53_48, q53_50, q53_53, q53_55, q53_56, q53_57, q53_60, q53_61, q53_64, q53_67, q53_68, q53_71, q53_74, q53_75, q53_76, q53_79, q53_80, q53_83, q53_86, q53_89, q53_90, q53_91, rv_v, rv_n, rh_v, mu_at, isF_r, isK_r, fld_r, fset_r, gd0, gd1, gd2, gd3, gd4, gd5, gd6, gd7, gd8, gd9, gd10, gd11, gd12, gd13, inA_l, inW_l, inZ_l, inQ_l, aget_l, aset_l, qget_l, qset_l, isA_l, isA_q, alen_l, k2_i, k2_a, k2_n, k2_u, k2_l, ite_si, Option.isSome_some, List.cons_append, List.nil_append, List.length_cons, List.length_nil, Nat.reduceAdd, Nat.zero_add, Nat.reduceLT, Nat.reduceEqDiff, decide_true, decide_false, Bool.and_self, Bool.and_true, Bool.true_and, ↓reduceIte, List.set_cons_zero, List.set_cons_succ, Nat.reduceSub, Nat.add_left_cancel_iff, Nat.add_eq_left, Nat.left_eq_add, not_true_eq_false, not_false_eq_true, reduceCtorEq, i10, i01, ib10, ib01, beq_self_eq_true, eq_self, Int32.reduceLT, Int32.reduceToNatClampNeg, Int32.reduceAdd, Int32.reduceSub, Int32.reduceMul, Bool.or_true, Bool.true_or, Bool.or_false, Bool.false_or, Nat.reduceBEq, Nat.reduceMul, p_isWithin, if_neg hx, if_pos hy]
theorem c_build1 (x y : Int32) (hx : ¬ bw x 10 25 = 0) (hy : ¬ bw y 15 40 = 0) (hl : 0 < σ.1 45 + σ.1 50) : cDo 53 a [.int x, .int y] σ (-5) σ := by
  refine cDo.same fun h hC => ?_
  obtain ⟨k1, k2, k3, k4, k5, k6, k7, k8⟩ := hC; unfold CO at k1; obtain ⟨S, q, ri, tr, ft, hA, hR⟩ := k2; have hH := hA.1; have h5 := hA.2.2.1; have h6 := hA.2.2.2; unfold CA at h5 h6; obtain ⟨kv1, kv2, hK⟩ := k4.kk
  have e1 := p_stepsLaid hA
  rw [hR.i5, hR.i10] at e1
  simp only [c53, q53_0, q53_1, q53_3, q53_5, q53_8, q53_11, q53_12, q53_14, q53_16, q53_19, q53_22, q53_24, q53_25, q53_26, q53_29, q53_32, q53_35, q53_37, q53_38, q53_39, q53_42, q53_45, q53_48, q53_50, q53_53, q53_55, q53_56, q53_57, q53_60, q53_61, q53_64, q53_67, q53_68, q53_71, q53_74, q53_75, q53_76, q53_79, q53_80, q53_83, q53_86, q53_89, q53_90, q53_91, rv_v, rv_n, rh_v, mu_at, isF_r, isK_r, fld_r, fset_r, gd0, gd1, gd2, gd3, gd4, gd5, gd6, gd7, gd8, gd9, gd10, gd11, gd12, gd13, inA_l, inW_l, inZ_l, inQ_l, aget_l, aset_l, qget_l, qset_l, isA_l, isA_q, alen_l, k2_i, k2_a, k2_n, k2_u, k2_l, ite_si, Option.isSome_some, List.cons_append, List.nil_append, List.length_cons, List.length_nil, Nat.reduceAdd, Nat.zero_add, Nat.reduceLT, Nat.reduceEqDiff, decide_true, decide_false, Bool.and_self, Bool.and_true, Bool.true_and, ↓reduceIte, List.set_cons_zero, List.set_cons_succ, Nat.reduceSub, Nat.add_left_cancel_iff, Nat.add_eq_left, Nat.left_eq_add, not_true_eq_false, not_false_eq_true, reduceCtorEq, i10, i01, ib10, ib01, beq_self_eq_true, eq_self, Int32.reduceLT, Int32.reduceToNatClampNeg, Int32.reduceAdd, Int32.reduceSub, Int32.reduceMul, Bool.or_true, Bool.true_or, Bool.or_false, Bool.false_or, Nat.reduceBEq, Nat.reduceMul, p_isWithin, if_neg hx, if_neg hy, k1, hH, e1, if_pos hl]
theorem c_build2 (x y : Int32) (hx : ¬ bw x 10 25 = 0) (hy : ¬ bw y 15 40 = 0) (hl : ¬ 0 < σ.1 45 + σ.1 50) (h3 : σ.1 3 = 20) : cDo 53 a [.int x, .int y] σ (-4) σ := by
  refine cDo.same fun h hC => ?_
  obtain ⟨k1, k2, k3, k4, k5, k6, k7, k8⟩ := hC; unfold CO at k1; obtain ⟨S, q, ri, tr, ft, hA, hR⟩ := k2; have hH := hA.1; have h5 := hA.2.2.1; have h6 := hA.2.2.2; unfold CA at h5 h6; obtain ⟨kv1, kv2, hK⟩ := k4.kk
  have e1 := p_stepsLaid hA
  rw [hR.i5, hR.i10] at e1
  have s1 := hA.2.1.1
  have hq : q 3 = 20 := by rw [hR.i3, ← hR.2.1, h3]
  simp only [c53, q53_0, q53_1, q53_3, q53_5, q53_8, q53_11, q53_12, q53_14, q53_16, q53_19, q53_22, q53_24, q53_25, q53_26, q53_29, q53_32, q53_35, q53_37, q53_38, q53_39, q53_42, q53_45, q53_48, q53_50, q53_53, q53_55, q53_56, q53_57, q53_60, q53_61, q53_64, q53_67, q53_68, q53_71, q53_74, q53_75, q53_76, q53_79, q53_80, q53_83, q53_86, q53_89, q53_90, q53_91, rv_v, rv_n, rh_v, mu_at, isF_r, isK_r, fld_r, fset_r, gd0, gd1, gd2, gd3, gd4, gd5, gd6, gd7, gd8, gd9, gd10, gd11, gd12, gd13, inA_l, inW_l, inZ_l, inQ_l, aget_l, aset_l, qget_l, qset_l, isA_l, isA_q, alen_l, k2_i, k2_a, k2_n, k2_u, k2_l, ite_si, Option.isSome_some, List.cons_append, List.nil_append, List.length_cons, List.length_nil, Nat.reduceAdd, Nat.zero_add, Nat.reduceLT, Nat.reduceEqDiff, decide_true, decide_false, Bool.and_self, Bool.and_true, Bool.true_and, ↓reduceIte, List.set_cons_zero, List.set_cons_succ, Nat.reduceSub, Nat.add_left_cancel_iff, Nat.add_eq_left, Nat.left_eq_add, not_true_eq_false, not_false_eq_true, reduceCtorEq, i10, i01, ib10, ib01, beq_self_eq_true, eq_self, Int32.reduceLT, Int32.reduceToNatClampNeg, Int32.reduceAdd, Int32.reduceSub, Int32.reduceMul, Bool.or_true, Bool.true_or, Bool.or_false, Bool.false_or, Nat.reduceBEq, Nat.reduceMul, p_isWithin, if_neg hx, if_neg hy, k1, hH, e1, if_neg hl, s1, hq, Int32.lt_irrefl]
theorem c_build3 {S' : Nat} (x y : Int32) (hx : ¬ bw x 10 25 = 0) (hy : ¬ bw y 15 40 = 0) (hl : ¬ 0 < σ.1 45 + σ.1 50) (h3 : σ.1 3 = nI S') (hS : S' < 20) : cDo 53 a [.int x, .int y] σ (nI S') (chg σ (some (bld σ.1 S' x y))) := by
  intro h hC
  obtain ⟨m1, ek, gH, gf⟩ := c_keep hC
  have hC0 := hC
  obtain ⟨k1, k2, k3, k4, k5, k6, k7, k8⟩ := hC; unfold CO at k1; obtain ⟨S, q, ri, tr, ft, hA, hR⟩ := k2; have hH := hA.1; have h5 := hA.2.2.1; have h6 := hA.2.2.2; unfold CA at h5 h6; obtain ⟨kv1, kv2, hK⟩ := k4.kk
  have j1 := (gf a (by omega)).trans k1; have jA := hA.frame (m' := m1) (fun x g1 g2 => gf x (by omega)); have jH := jA.1; have j5 := jA.2.2.1; have j6 := jA.2.2.2; unfold CA at j5 j6
  have e1 := p_stepsLaid hA
  rw [hR.i5, hR.i10] at e1
  have s1 := hA.2.1.1
  obtain rfl : S' = S := (nI_eq (by omega) (by have := hR.1; omega)).mp (h3.symm.trans hR.2.1)
  obtain ⟨m2, ea, gA, g2⟩ := jA.add (h := (h.1, m1)) hR.i3 hS x y
  have c1 : q 3 < 20 := by rw [hR.i3]; exact nI_lt (b := 20) hS (by decide)
  have hm := hC0.ch (m' := m2) (r' := bld σ.1 S' x y) (L' := pushH σ.2.1 σ.1) ⟨_, _, _, _, _, gA, hR.add hS x y⟩ (gH.fr (fun z q1 q2 => g2 z (by omega))) (fun z q1 q2 => by rw [g2 z (by omega)]; exact gf z q2)
  have j2 : m2 a = _ := (g2 a (by omega)).trans j1
  have jH2 := gA.1
  have js := jA.2.1.1
  have js2 := gA.2.1.1
  rw [upd_s] at js2
  have ep : nI (S' + 1) - 1 = nI S' := nI_pred S'
  refine ⟨_, ?_, hm.1, hm.2⟩
  simp only [c53, q53_0, q53_1, q53_3, q53_5, q53_8, q53_11, q53_12, q53_14, q53_16, q53_19, q53_22, q53_24, q53_25, q53_26, q53_29, q53_32, q53_35, q53_37, q53_38, q53_39, q53_42, q53_45, q53_48, q53_50, q53_53, q53_55, q53_56, q53_57, q53_60, q53_61, q53_64, q53_67, q53_68, q53_71, q53_74, q53_75, q53_76, q53_79, q53_80, q53_83, q53_86, q53_89, q53_90, q53_91, rv_v, rv_n, rh_v, mu_at, isF_r, isK_r, fld_r, fset_r, gd0, gd1, gd2, gd3, gd4, gd5, gd6, gd7, gd8, gd9, gd10, gd11, gd12, gd13, inA_l, inW_l, inZ_l, inQ_l, aget_l, aset_l, qget_l, qset_l, isA_l, isA_q, alen_l, k2_i, k2_a, k2_n, k2_u, k2_l, ite_si, Option.isSome_some, List.cons_append, List.nil_append, List.length_cons, List.length_nil, Nat.reduceAdd, Nat.zero_add, Nat.reduceLT, Nat.reduceEqDiff, decide_true, decide_false, Bool.and_self, Bool.and_true, Bool.true_and, ↓reduceIte, List.set_cons_zero, List.set_cons_succ, Nat.reduceSub, Nat.add_left_cancel_iff, Nat.add_eq_left, Nat.left_eq_add, not_true_eq_false, not_false_eq_true, reduceCtorEq, i10, i01, ib10, ib01, beq_self_eq_true, eq_self, Int32.reduceLT, Int32.reduceToNatClampNeg, Int32.reduceAdd, Int32.reduceSub, Int32.reduceMul, Bool.or_true, Bool.true_or, Bool.or_false, Bool.false_or, Nat.reduceBEq, Nat.reduceMul, p_isWithin, if_neg hx, if_neg hy, k1, hH, hK, e1, if_neg hl, s1, if_pos c1, ek, j1, jH, js, ea, j2, jH2, js2, ep]
end
