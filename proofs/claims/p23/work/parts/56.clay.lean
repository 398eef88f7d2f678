section
variable {a k : Nat} {σ : AS}
theorem c_clear : cDo 57 a [] σ (σ.1 45 + σ.1 50) (chg σ (some (clr σ.1))) := by
  intro h hC
  obtain ⟨m1, ek, gH, gf⟩ := c_keep hC
  have hC0 := hC
  obtain ⟨k1, k2, k3, k4, k5, k6, k7, k8⟩ := hC; unfold CO at k1; obtain ⟨S, q, ri, tr, ft, hA, hR⟩ := k2; have hH := hA.1; have h5 := hA.2.2.1; have h6 := hA.2.2.2; unfold CA at h5 h6; obtain ⟨kv1, kv2, hK⟩ := k4.kk
  have j1 := (gf a (by omega)).trans k1; have jA := hA.frame (m' := m1) (fun x g1 g2 => gf x (by omega)); have jH := jA.1; have j5 := jA.2.2.1; have j6 := jA.2.2.2; unfold CA at j5 j6
  have es := p_stepsLaid (h := (h.1, m1)) jA
  rw [hR.i5, hR.i10] at es
  have et := p_takeAllUp (h := (h.1, m1)) jA
  have hw := (jA.w5 (q' := upd (upd (upd (upd q 5 0) 6 0) 7 0) 8 0) (fun i hi => by rw [upd_n _ _ (by omega), upd_n _ _ (by omega), upd_n _ _ (by omega), upd_n _ _ (by omega)])).w6 (q' := upd (upd (upd (upd (upd (upd (upd (upd q 5 0) 6 0) 7 0) 8 0) 10 0) 11 0) 12 0) 13 0) (fun i hi => by rw [upd_n _ _ (by omega), upd_n _ _ (by omega), upd_n _ _ (by omega), upd_n _ _ (by omega)])
  have hr := (((((((hR.up (i := 5) 0 (by decide) (by decide)).up (i := 6) 0 (by decide) (by decide)).up (i := 7) 0 (by decide) (by decide)).up (i := 8) 0 (by decide) (by decide)).up (i := 10) 0 (by decide) (by decide)).up (i := 11) 0 (by decide) (by decide)).up (i := 12) 0 (by decide) (by decide)).up (i := 13) 0 (by decide) (by decide)
  have hm := hC0.ch (m' := mu (mu m1 (a + 1 + 5) (.inr (0, [.int 1, .int (q 4), .int 0, .int 0, .int 0, .int 0]))) (a + 1 + 6) (.inr (0, [.int 0, .int (q 9), .int 0, .int 0, .int 0, .int 0]))) (r' := clr σ.1) (L' := pushH σ.2.1 σ.1) ⟨S, _, _, _, _, hw, hr⟩ (gH.fr (fun x q1 q2 => by rw [mu_n _ _ (by omega), mu_n _ _ (by omega)])) (fun x q1 q2 => by rw [mu_n _ _ (by omega), mu_n _ _ (by omega)]; exact gf x q2)
  refine ⟨_, ?_, hm.1, hm.2⟩
  simp only [c57, q57_0, q57_1, q57_4, q57_5, q57_8, q57_11, q57_12, q57_15, q57_18, q57_19, q57_20, q57_23, q57_26, q57_27, rv_v, rv_n, rh_v, mu_at, isF_r, isK_r, fld_r, fset_r, gd0, gd1, gd2, gd3, gd4, gd5, gd6, gd7, gd8, gd9, gd10, gd11, gd12, gd13, inA_l, inW_l, inZ_l, inQ_l, aget_l, aset_l, qget_l, qset_l, isA_l, isA_q, alen_l, k2_i, k2_a, k2_n, k2_u, k2_l, ite_si, Option.isSome_some, List.cons_append, List.nil_append, List.length_cons, List.length_nil, Nat.reduceAdd, Nat.zero_add, Nat.reduceLT, Nat.reduceEqDiff, decide_true, decide_false, Bool.and_self, Bool.and_true, Bool.true_and, ↓reduceIte, List.set_cons_zero, List.set_cons_succ, Nat.reduceSub, Nat.add_left_cancel_iff, Nat.add_eq_left, Nat.left_eq_add, not_true_eq_false, not_false_eq_true, reduceCtorEq, i10, i01, ib10, ib01, beq_self_eq_true, eq_self, Int32.reduceLT, Int32.reduceToNatClampNeg, Int32.reduceAdd, Int32.reduceSub, Int32.reduceMul, Bool.or_true, Bool.true_or, Bool.or_false, Bool.false_or, Nat.reduceBEq, Nat.reduceMul, k1, hK, ek, j1, jH, es, et]
end
