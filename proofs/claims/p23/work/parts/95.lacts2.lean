def cfZ (cf : Nat → Int32) : Nat → Int32 := upd (upd (upd (upd (upd (upd (upd (upd (upd (upd cf 1 0) 7 0) 2 0) 8 0) 3 0) 9 0) 4 0) 10 0) 5 0) 11 0
theorem LC.z {r : Row} {cf : Nat → Int32} (hc : LC r cf) : LC (clr r) (cfZ cf) := by
  obtain ⟨q45, q46, q47, q48, q50, q51, q52, q53⟩ := clr_at r
  obtain ⟨c0, c1, c2, c3, c4, c6, c7, c8, c9, c10, c5, c11⟩ := hc
  have w44 : clr r 44 = r 44 := clr_keep r (by omega)
  have w49 : clr r 49 = r 49 := clr_keep r (by omega)
  refine ⟨?_, ?_, ?_, ?_, ?_, ?_, ?_, ?_, ?_, ?_, fun q => absurd q47 q, fun q => absurd q52 q⟩
  · rw [w44]; exact c0
  · rw [q45]; rfl
  · rw [q46]; rfl
  · rw [q47]; rfl
  · rw [q48]; rfl
  · rw [w49]; exact c6
  · rw [q50]; rfl
  · rw [q51]; rfl
  · rw [q52]; rfl
  · rw [q53]; rfl
section
variable {k a S u0 u1 : Nat} {z : Nat × Nat} {m : xM} {σ : AS} {rf tf pf bf cf nf : Nat → Int32} {y x x9 x10 x14 : Int32}
theorem p_clrC (ec : m (a + 86) = .inl (0, 12, .inl cf)) : rn 87 316 [.ref a, .ref (a + 82), .ref (a + 83), .ref (a + 84), .ref (a + 85), .ref (a + 86), .ref (a + 87), .int y, .int x, .int x9, .int x10, unk, unk, unk, .int x14, .int 1, unk] [] (z, m) = rn 87 344 [.ref a, .ref (a + 82), .ref (a + 83), .ref (a + 84), .ref (a + 85), .ref (a + 86), .ref (a + 87), .int y, .int x, .int x9, .int x10, unk, unk, unk, .int x14, .int 6, unk] [] (z, mu m (a + 86) (.inl (0, 12, .inl (cfZ cf)))) := by
  unfold cfZ
  simp only [q87_316, q87_318, q87_320, q87_323, q87_323N, q87_325, q87_327, q87_328, q87_329, q87_329N, q87_331, q87_333, q87_335, q87_336, q87_337, q87_338, q87_341, rv_v, rv_n, rh_v, mu_at, isF_r, isK_r, fld_r, fset_r, gd0, gd1, gd2, gd3, gd4, gd5, gd6, gd7, gd8, gd9, gd10, gd11, gd12, gd13, inA_l, inW_l, inZ_l, inQ_l, aget_l, aset_l, qget_l, qset_l, isA_l, isA_q, alen_l, k2_i, k2_a, k2_n, k2_u, k2_l, ite_si, Option.isSome_some, List.cons_append, List.nil_append, List.length_cons, List.length_nil, Nat.reduceAdd, Nat.zero_add, Nat.reduceLT, Nat.reduceEqDiff, decide_true, decide_false, Bool.and_self, Bool.and_true, Bool.true_and, ↓reduceIte, List.set_cons_zero, List.set_cons_succ, Nat.reduceSub, Nat.add_left_cancel_iff, Nat.add_eq_left, Nat.left_eq_add, not_true_eq_false, not_false_eq_true, reduceCtorEq, i10, i01, ib10, ib01, beq_self_eq_true, eq_self, Int32.reduceLT, Int32.reduceToNatClampNeg, Int32.reduceAdd, Int32.reduceSub, Int32.reduceMul, Bool.or_true, Bool.true_or, Bool.or_false, Bool.false_or, Nat.reduceBEq, Nat.reduceMul, ec, mu_mu]
theorem p_clrL (hS : S ≤ 20) (hn : nf 3 = nI S) : ∀ (d i : Nat) (m : xM) (pf bf : Nat → Int32), i + d = S → wl6 m a rf tf pf bf cf nf → ∃ m' pf' bf', rn 87 347 [.ref a, .ref (a + 82), .ref (a + 83), .ref (a + 84), .ref (a + 85), .ref (a + 86), .ref (a + 87), .int y, .int x, .int x9, .int x10, unk, unk, unk, .int x14, .int (nI i), unk] [] (z, m) = rn 87 375 [.ref a, .ref (a + 82), .ref (a + 83), .ref (a + 84), .ref (a + 85), .ref (a + 86), .ref (a + 87), .int y, .int x, .int x9, .int x10, unk, unk, unk, .int x14, .int (nI S), unk] [] (z, m') ∧ wl6 m' a rf tf pf' bf' cf nf ∧ (∀ j, j < S → (i ≤ j → pf' j = -6 ∧ bf' j = -6) ∧ (j < i → pf' j = pf j ∧ bf' j = bf j)) ∧ ∀ q, (q < a + 82 ∨ a + 88 ≤ q) → m' q = m q := by
  intro d
  induction d with
  | zero =>
    intro i m pf bf hi hw
    obtain rfl : i = S := by omega
    have q1 : ¬ nI i < nI i := Int32.lt_irrefl
    have en := hw.2.2.2.2.2
    refine ⟨m, pf, bf, ?_, hw, fun j hj => ⟨fun q => by omega, fun _ => ⟨rfl, rfl⟩⟩, fun _ _ => rfl⟩
    rw [q87_347]
    simp only [q87_349, q87_349N, q87_351, q87_352, q87_353, q87_356, q87_356N, q87_357, q87_359, q87_361, q87_362, q87_362N, q87_364, q87_366, q87_368, q87_369, q87_372, rv_v, rv_n, rh_v, mu_at, isF_r, isK_r, fld_r, fset_r, gd0, gd1, gd2, gd3, gd4, gd5, gd6, gd7, gd8, gd9, gd10, gd11, gd12, gd13, inA_l, inW_l, inZ_l, inQ_l, aget_l, aset_l, qget_l, qset_l, isA_l, isA_q, alen_l, k2_i, k2_a, k2_n, k2_u, k2_l, ite_si, Option.isSome_some, List.cons_append, List.nil_append, List.length_cons, List.length_nil, Nat.reduceAdd, Nat.zero_add, Nat.reduceLT, Nat.reduceEqDiff, decide_true, decide_false, Bool.and_self, Bool.and_true, Bool.true_and, ↓reduceIte, List.set_cons_zero, List.set_cons_succ, Nat.reduceSub, Nat.add_left_cancel_iff, Nat.add_eq_left, Nat.left_eq_add, not_true_eq_false, not_false_eq_true, reduceCtorEq, i10, i01, ib10, ib01, beq_self_eq_true, eq_self, Int32.reduceLT, Int32.reduceToNatClampNeg, Int32.reduceAdd, Int32.reduceSub, Int32.reduceMul, Bool.or_true, Bool.true_or, Bool.or_false, Bool.false_or, Nat.reduceBEq, Nat.reduceMul, en, hn, if_neg q1]
  | succ d ih =>
    intro i m pf bf hi hw
    have q1 : nI i < nI S := nI_lt (by omega) (by omega)
    have i0 : ¬ nI i < 0 := nI_pos (by omega)
    have i1 : (nI i).toNatClampNeg = i := nI_clamp (by omega)
    have i2 : i < 20 := by omega
    have y1 : ¬ a + 85 = a + 84 := by omega
    obtain ⟨er, et, ep, eb, ec, en⟩ := hw
    have hW : wl6 (mu (mu m (a + 84) (.inl (0, 20, .inl (upd pf i (-6))))) (a + 85) (.inl (0, 20, .inl (upd bf i (-6))))) a rf tf (upd pf i (-6)) (upd bf i (-6)) cf nf := by
      refine ⟨?_, ?_, ?_, ?_, ?_, ?_⟩
      · rw [mu_n _ _ (by omega), mu_n _ _ (by omega)]; exact er
      · rw [mu_n _ _ (by omega), mu_n _ _ (by omega)]; exact et
      · rw [mu_n _ _ (by omega), mu_s]
      · rw [mu_s]
      · rw [mu_n _ _ (by omega), mu_n _ _ (by omega)]; exact ec
      · rw [mu_n _ _ (by omega), mu_n _ _ (by omega)]; exact en
    obtain ⟨m', pf', bf', e, g1, g2, g3⟩ := ih (i + 1) _ _ _ (by omega) hW
    refine ⟨m', pf', bf', ?_, g1, fun j hj => ⟨fun q => ?_, fun q => ?_⟩, fun q hq => by rw [g3 q hq, mu_n _ _ (by omega), mu_n _ _ (by omega)]⟩
    · rw [← e, q87_347]
      simp only [q87_349, q87_349N, q87_351, q87_352, q87_353, q87_356, q87_356N, q87_357, q87_359, q87_361, q87_362, q87_362N, q87_364, q87_366, q87_368, q87_369, q87_372, rv_v, rv_n, rh_v, mu_at, isF_r, isK_r, fld_r, fset_r, gd0, gd1, gd2, gd3, gd4, gd5, gd6, gd7, gd8, gd9, gd10, gd11, gd12, gd13, inA_l, inW_l, inZ_l, inQ_l, aget_l, aset_l, qget_l, qset_l, isA_l, isA_q, alen_l, k2_i, k2_a, k2_n, k2_u, k2_l, ite_si, Option.isSome_some, List.cons_append, List.nil_append, List.length_cons, List.length_nil, Nat.reduceAdd, Nat.zero_add, Nat.reduceLT, Nat.reduceEqDiff, decide_true, decide_false, Bool.and_self, Bool.and_true, Bool.true_and, ↓reduceIte, List.set_cons_zero, List.set_cons_succ, Nat.reduceSub, Nat.add_left_cancel_iff, Nat.add_eq_left, Nat.left_eq_add, not_true_eq_false, not_false_eq_true, reduceCtorEq, i10, i01, ib10, ib01, beq_self_eq_true, eq_self, Int32.reduceLT, Int32.reduceToNatClampNeg, Int32.reduceAdd, Int32.reduceSub, Int32.reduceMul, Bool.or_true, Bool.true_or, Bool.or_false, Bool.false_or, Nat.reduceBEq, Nat.reduceMul, ep, eb, en, hn, if_pos q1, i0, i1, i2, y1, nI_1]
    · by_cases hz : j = i
      · obtain ⟨w1, w2⟩ := (g2 j hj).2 (by omega)
        rw [w1, w2, hz, upd_s, upd_s]
        exact ⟨rfl, rfl⟩
      · exact (g2 j hj).1 (by omega)
    · obtain ⟨w1, w2⟩ := (g2 j hj).2 (by omega)
      rw [w1, w2, upd_n _ _ (by omega), upd_n _ _ (by omega)]
      exact ⟨rfl, rfl⟩
theorem p_actClear (hC : CC m a σ) (hw : wl6 m a rf tf pf bf cf nf) (hQ : wlQ k S u0 u1 σ.1 rf tf pf bf cf nf) : wlD k a z m (rn 87 275 [.ref a, .ref (a + 82), .ref (a + 83), .ref (a + 84), .ref (a + 85), .ref (a + 86), .ref (a + 87), .int y, .int x, .int x9, .int x10, unk, unk, unk, unk, unk, unk] [] (z, m)) := by
  have hQ0 := hQ; obtain ⟨hI, ⟨h3, h45, h50, hS, hu⟩, hc, ⟨n0, n1, n2, n3⟩, hrt, hp, hcar, z0, z1⟩ := hQ; obtain ⟨er, et, ep, eb, ec, en⟩ := hw; have hw : wl6 m a rf tf pf bf cf nf := ⟨er, et, ep, eb, ec, en⟩; have k1 := hC.1; unfold CO at k1; have hc0 := hc; obtain ⟨c0, c1, c2, c3, c4, c6, c7, c8, c9, c10, c5, c11⟩ := hc
  have w1 := p_low (x >>> (2 &&& 31)) (D := 3) (d := 3) (by omega) (by omega) rfl (z, m)
  have hX := lw_lt (x >>> (2 &&& 31)) (show 0 < 3 by omega)
  generalize lw (x >>> (2 &&& 31)) 3 = X at *
  by_cases hz : 0 < X
  · have q1 : 0 < nI X := nI_0lt hz (by omega)
    obtain ⟨m1, e, g1, g2⟩ := c_lay0 (a := a) (σ := σ) 2 (by decide) (z, m) hC
    refine wlD.of (hw.fr (fun y q1 q2 => g2 y (by omega))) g1 hQ0.nx ?_ (fun y hy => g2 y (by omega))
    simp only [q87_275, q87_277, q87_278, q87_279, q87_280, q87_283, q87_286, q87_286N, q87_287, q87_288, q87_291, q87_292, q87_295, q87_296, q87_299, q87_300, rv_v, rv_n, rh_v, mu_at, isF_r, isK_r, fld_r, fset_r, gd0, gd1, gd2, gd3, gd4, gd5, gd6, gd7, gd8, gd9, gd10, gd11, gd12, gd13, inA_l, inW_l, inZ_l, inQ_l, aget_l, aset_l, qget_l, qset_l, isA_l, isA_q, alen_l, k2_i, k2_a, k2_n, k2_u, k2_l, ite_si, Option.isSome_some, List.cons_append, List.nil_append, List.length_cons, List.length_nil, Nat.reduceAdd, Nat.zero_add, Nat.reduceLT, Nat.reduceEqDiff, decide_true, decide_false, Bool.and_self, Bool.and_true, Bool.true_and, ↓reduceIte, List.set_cons_zero, List.set_cons_succ, Nat.reduceSub, Nat.add_left_cancel_iff, Nat.add_eq_left, Nat.left_eq_add, not_true_eq_false, not_false_eq_true, reduceCtorEq, i10, i01, ib10, ib01, beq_self_eq_true, eq_self, Int32.reduceLT, Int32.reduceToNatClampNeg, Int32.reduceAdd, Int32.reduceSub, Int32.reduceMul, Bool.or_true, Bool.true_or, Bool.or_false, Bool.false_or, Nat.reduceBEq, Nat.reduceMul, w1, if_pos q1, k1, e]
  · obtain rfl : X = 0 := by omega
    have q1 : ¬ 0 < nI 0 := by decide
    have hn : nf 3 = nI S := n3.trans h3
    have s1 : rn 87 275 [.ref a, .ref (a + 82), .ref (a + 83), .ref (a + 84), .ref (a + 85), .ref (a + 86), .ref (a + 87), .int y, .int x, .int x9, .int x10, unk, unk, unk, unk, unk, unk] [] (z, m) = rn 87 316 [.ref a, .ref (a + 82), .ref (a + 83), .ref (a + 84), .ref (a + 85), .ref (a + 86), .ref (a + 87), .int y, .int x, .int x9, .int x10, unk, unk, unk, .int (σ.1 45 + σ.1 50), .int 1, unk] [] (z, m) := by
      simp only [q87_275, q87_277, q87_278, q87_279, q87_280, q87_283, q87_286, q87_286N, q87_287, q87_288, q87_291, q87_292, q87_295, q87_296, q87_299, q87_300, q87_301, q87_301N, q87_303, q87_304, q87_305, q87_305N, q87_307, q87_309, q87_310, q87_311, q87_313, q87_314, rv_v, rv_n, rh_v, mu_at, isF_r, isK_r, fld_r, fset_r, gd0, gd1, gd2, gd3, gd4, gd5, gd6, gd7, gd8, gd9, gd10, gd11, gd12, gd13, inA_l, inW_l, inZ_l, inQ_l, aget_l, aset_l, qget_l, qset_l, isA_l, isA_q, alen_l, k2_i, k2_a, k2_n, k2_u, k2_l, ite_si, Option.isSome_some, List.cons_append, List.nil_append, List.length_cons, List.length_nil, Nat.reduceAdd, Nat.zero_add, Nat.reduceLT, Nat.reduceEqDiff, decide_true, decide_false, Bool.and_self, Bool.and_true, Bool.true_and, ↓reduceIte, List.set_cons_zero, List.set_cons_succ, Nat.reduceSub, Nat.add_left_cancel_iff, Nat.add_eq_left, Nat.left_eq_add, not_true_eq_false, not_false_eq_true, reduceCtorEq, i10, i01, ib10, ib01, beq_self_eq_true, eq_self, Int32.reduceLT, Int32.reduceToNatClampNeg, Int32.reduceAdd, Int32.reduceSub, Int32.reduceMul, Bool.or_true, Bool.true_or, Bool.or_false, Bool.false_or, Nat.reduceBEq, Nat.reduceMul, w1, if_neg q1, ec, c1, c7]
    have s2 := p_clrC (y := y) (x := x) (x9 := x9) (x10 := x10) (x14 := σ.1 45 + σ.1 50) (z := z) ec
    have hW : wl6 (mu m (a + 86) (.inl (0, 12, .inl (cfZ cf)))) a rf tf pf bf (cfZ cf) nf := by
      refine ⟨?_, ?_, ?_, ?_, mu_s _ _ _, ?_⟩
      · rw [mu_n _ _ (by omega)]; exact er
      · rw [mu_n _ _ (by omega)]; exact et
      · rw [mu_n _ _ (by omega)]; exact ep
      · rw [mu_n _ _ (by omega)]; exact eb
      · rw [mu_n _ _ (by omega)]; exact en
    have hf : ∀ y, (y < a + 82 ∨ a + 88 ≤ y) → mu m (a + 86) (.inl (0, 12, .inl (cfZ cf))) y = m y := fun y hy => mu_n _ _ (by omega)
    generalize mu m (a + 86) (.inl (0, 12, .inl (cfZ cf))) = mW at s2 hW hf
    have s3 : rn 87 344 [.ref a, .ref (a + 82), .ref (a + 83), .ref (a + 84), .ref (a + 85), .ref (a + 86), .ref (a + 87), .int y, .int x, .int x9, .int x10, unk, unk, unk, .int (σ.1 45 + σ.1 50), .int 6, unk] [] (z, mW) = rn 87 347 [.ref a, .ref (a + 82), .ref (a + 83), .ref (a + 84), .ref (a + 85), .ref (a + 86), .ref (a + 87), .int y, .int x, .int x9, .int x10, unk, unk, unk, .int (σ.1 45 + σ.1 50), .int 0, unk] [] (z, mW) := by
      simp only [q87_344, q87_345, rv_v, rv_n, rh_v, mu_at, isF_r, isK_r, fld_r, fset_r, gd0, gd1, gd2, gd3, gd4, gd5, gd6, gd7, gd8, gd9, gd10, gd11, gd12, gd13, inA_l, inW_l, inZ_l, inQ_l, aget_l, aset_l, qget_l, qset_l, isA_l, isA_q, alen_l, k2_i, k2_a, k2_n, k2_u, k2_l, ite_si, Option.isSome_some, List.cons_append, List.nil_append, List.length_cons, List.length_nil, Nat.reduceAdd, Nat.zero_add, Nat.reduceLT, Nat.reduceEqDiff, decide_true, decide_false, Bool.and_self, Bool.and_true, Bool.true_and, ↓reduceIte, List.set_cons_zero, List.set_cons_succ, Nat.reduceSub, Nat.add_left_cancel_iff, Nat.add_eq_left, Nat.left_eq_add, not_true_eq_false, not_false_eq_true, reduceCtorEq, i10, i01, ib10, ib01, beq_self_eq_true, eq_self, Int32.reduceLT, Int32.reduceToNatClampNeg, Int32.reduceAdd, Int32.reduceSub, Int32.reduceMul, Bool.or_true, Bool.true_or, Bool.or_false, Bool.false_or, Nat.reduceBEq, Nat.reduceMul]
    obtain ⟨mX, pf', bf', s4, hX6, hpb, hfX⟩ := p_clrL (y := y) (x := x) (x9 := x9) (x10 := x10) (x14 := σ.1 45 + σ.1 50) (z := z) hS hn S 0 mW pf bf (by omega) hW
    rw [show nI 0 = 0 from rfl] at s4
    have hfX : ∀ q, (q < a + 82 ∨ a + 88 ≤ q) → mX q = m q := fun q hq => (hfX q hq).trans (hf q hq)
    obtain ⟨m1, e, g1, g2⟩ := c_clear (a := a) (σ := σ) (z, mX) (hC.fr (fun y q1 q2 => hfX y (by omega)))
    have kX : mX a = _ := (hfX a (by omega)).trans k1
    refine wlD.of (hX6.fr (m' := m1) (fun y q1 q2 => g2 y (by omega))) g1 (hQ0.allUp (fun j hj => (hpb j hj).1 (by omega)) hc0.z) ?_ (fun y hy => (g2 y (by omega)).trans (hfX y (by omega)))
    rw [s1, s2, s3, s4]
    simp only [q87_375, q87_375N, q87_376, q87_379, q87_381, q87_384, q87_385, q87_388, q87_389, rv_v, rv_n, rh_v, mu_at, isF_r, isK_r, fld_r, fset_r, gd0, gd1, gd2, gd3, gd4, gd5, gd6, gd7, gd8, gd9, gd10, gd11, gd12, gd13, inA_l, inW_l, inZ_l, inQ_l, aget_l, aset_l, qget_l, qset_l, isA_l, isA_q, alen_l, k2_i, k2_a, k2_n, k2_u, k2_l, ite_si, Option.isSome_some, List.cons_append, List.nil_append, List.length_cons, List.length_nil, Nat.reduceAdd, Nat.zero_add, Nat.reduceLT, Nat.reduceEqDiff, decide_true, decide_false, Bool.and_self, Bool.and_true, Bool.true_and, ↓reduceIte, List.set_cons_zero, List.set_cons_succ, Nat.reduceSub, Nat.add_left_cancel_iff, Nat.add_eq_left, Nat.left_eq_add, not_true_eq_false, not_false_eq_true, reduceCtorEq, i10, i01, ib10, ib01, beq_self_eq_true, eq_self, Int32.reduceLT, Int32.reduceToNatClampNeg, Int32.reduceAdd, Int32.reduceSub, Int32.reduceMul, Bool.or_true, Bool.true_or, Bool.or_false, Bool.false_or, Nat.reduceBEq, Nat.reduceMul, kX, e]
theorem p_actLay0 (hk : k < 900) (hC : CC m a σ) (hw : wl6 m a rf tf pf bf cf nf) (hQ : wlQ k S u0 u1 σ.1 rf tf pf bf cf nf) : wlD k a z m (rn 87 390 [.ref a, .ref (a + 82), .ref (a + 83), .ref (a + 84), .ref (a + 85), .ref (a + 86), .ref (a + 87), .int y, .int x, .int 0, .int 0, unk, unk, unk, unk, unk, unk] [] (z, m)) := by
  have hQ0 := hQ; obtain ⟨hI, ⟨h3, h45, h50, hS, hu⟩, hc, ⟨n0, n1, n2, n3⟩, hrt, hp, hcar, z0, z1⟩ := hQ; obtain ⟨er, et, ep, eb, ec, en⟩ := hw; have hw : wl6 m a rf tf pf bf cf nf := ⟨er, et, ep, eb, ec, en⟩; have k1 := hC.1; unfold CO at k1; have hc0 := hc; obtain ⟨c0, c1, c2, c3, c4, c6, c7, c8, c9, c10, c5, c11⟩ := hc
  have wn := p_next0 (h := (z, m)) ec en
  rw [c1, c7, n3] at wn
  have z6 : (-6 : Int32) < 0 := by decide
  by_cases hl : σ.1 45 + σ.1 50 = σ.1 3
  · obtain ⟨m1, e, g1, g2⟩ := c_lay1 (a := a) 0 (by decide) hl (z, m) hC
    rw [if_pos hl] at wn
    refine wlD.of (hw.fr (fun y q1 q2 => g2 y (by omega))) g1 hQ0.nx ?_ (fun y hy => g2 y (by omega))
    simp only [q87_390, q87_390N, q87_392, q87_392N, q87_394, q87_396, q87_399, q87_401, q87_403, q87_406, q87_406N, q87_407, q87_407N, q87_408, q87_408N, q87_409, q87_409N, q87_411, q87_411N, q87_413, q87_413N, q87_415, q87_417, q87_419, q87_422, q87_425, q87_426, q87_429, q87_430, q87_432, q87_432N, q87_433, q87_435, q87_438, q87_440, q87_443, q87_443N, q87_444, q87_446, q87_447, q87_450, q87_452, q87_455, q87_456, q87_459, q87_460, rv_v, rv_n, rh_v, mu_at, isF_r, isK_r, fld_r, fset_r, gd0, gd1, gd2, gd3, gd4, gd5, gd6, gd7, gd8, gd9, gd10, gd11, gd12, gd13, inA_l, inW_l, inZ_l, inQ_l, aget_l, aset_l, qget_l, qset_l, isA_l, isA_q, alen_l, k2_i, k2_a, k2_n, k2_u, k2_l, ite_si, Option.isSome_some, List.cons_append, List.nil_append, List.length_cons, List.length_nil, Nat.reduceAdd, Nat.zero_add, Nat.reduceLT, Nat.reduceEqDiff, decide_true, decide_false, Bool.and_self, Bool.and_true, Bool.true_and, ↓reduceIte, List.set_cons_zero, List.set_cons_succ, Nat.reduceSub, Nat.add_left_cancel_iff, Nat.add_eq_left, Nat.left_eq_add, not_true_eq_false, not_false_eq_true, reduceCtorEq, i10, i01, ib10, ib01, beq_self_eq_true, eq_self, Int32.reduceLT, Int32.reduceToNatClampNeg, Int32.reduceAdd, Int32.reduceSub, Int32.reduceMul, Bool.or_true, Bool.true_or, Bool.or_false, Bool.false_or, Nat.reduceBEq, Nat.reduceMul, wn, if_pos z6, k1, e]
  · have hlt : u0 + u1 < S := by
      have : ¬ u0 + u1 = S := fun q => hl (by rw [h45, h50, h3, ← q]; exact nI_add _ _)
      omega
    have i0 : ¬ nI u0 < 0 := nI_pos (by omega)
    have i1 : (nI u0).toNatClampNeg = u0 := nI_clamp (by omega)
    have i2 : u0 < 20 := by omega
    rw [if_neg hl, h45] at wn
    obtain ⟨s0, s1⟩ := p_lays0 (h := (z, m)) (ar := a + 82) (at_ := a + 83) (ap := a + 84) (ab := a + 85) (ac := a + 86) (an := a + 87) hI (by omega) h3 hS (show u0 < S by omega) er et ep eb ec en hrt (fun j hj => ((hp j (by omega)).1 hj).1) hc0 n0 n1 (by omega) (by omega) (by omega) (by omega) (by omega) (by omega)
    cases hn : lay0 σ.1 u0 with
    | none =>
      have es := s0 hn
      obtain ⟨m1, e, g1, g2⟩ := c_lay20 (a := a) hI (by omega) h45 h3 hS (show u0 < S by omega) hl hn (z, m) hC
      refine wlD.of (hw.fr (fun y q1 q2 => g2 y (by omega))) g1 hQ0.nx ?_ (fun y hy => g2 y (by omega))
      simp only [q87_390, q87_390N, q87_392, q87_392N, q87_394, q87_396, q87_399, q87_401, q87_403, q87_406, q87_406N, q87_407, q87_407N, q87_408, q87_408N, q87_409, q87_409N, q87_411, q87_411N, q87_413, q87_413N, q87_415, q87_417, q87_419, q87_422, q87_425, q87_426, q87_429, q87_430, q87_432, q87_432N, q87_433, q87_435, q87_438, q87_440, q87_443, q87_443N, q87_444, q87_446, q87_447, q87_450, q87_452, q87_455, q87_456, q87_459, q87_460, rv_v, rv_n, rh_v, mu_at, isF_r, isK_r, fld_r, fset_r, gd0, gd1, gd2, gd3, gd4, gd5, gd6, gd7, gd8, gd9, gd10, gd11, gd12, gd13, inA_l, inW_l, inZ_l, inQ_l, aget_l, aset_l, qget_l, qset_l, isA_l, isA_q, alen_l, k2_i, k2_a, k2_n, k2_u, k2_l, ite_si, Option.isSome_some, List.cons_append, List.nil_append, List.length_cons, List.length_nil, Nat.reduceAdd, Nat.zero_add, Nat.reduceLT, Nat.reduceEqDiff, decide_true, decide_false, Bool.and_self, Bool.and_true, Bool.true_and, ↓reduceIte, List.set_cons_zero, List.set_cons_succ, Nat.reduceSub, Nat.add_left_cancel_iff, Nat.add_eq_left, Nat.left_eq_add, not_true_eq_false, not_false_eq_true, reduceCtorEq, i10, i01, ib10, ib01, beq_self_eq_true, eq_self, Int32.reduceLT, Int32.reduceToNatClampNeg, Int32.reduceAdd, Int32.reduceSub, Int32.reduceMul, Bool.or_true, Bool.true_or, Bool.or_false, Bool.false_or, Nat.reduceBEq, Nat.reduceMul, wn, if_neg i0, es, k1, e]
    | some r' =>
      obtain ⟨cf', mW, es, gL, gc, gb, gp, gf⟩ := s1 r' hn
      have hf : ∀ y, (y < a + 82 ∨ a + 88 ≤ y) → mW y = m y := fun y hy => gf y (by omega) (by omega) (by omega)
      have hW : wl6 mW a rf tf (upd pf u0 (mB σ.1 u0)) (upd bf u0 0) cf' nf := ⟨(gf _ (by omega) (by omega) (by omega)).trans er, (gf _ (by omega) (by omega) (by omega)).trans et, gp, gb, gc, (gf _ (by omega) (by omega) (by omega)).trans en⟩
      obtain ⟨m1, e, g1, g2⟩ := c_lay30 (a := a) hI (by omega) h45 h3 hS (show u0 < S by omega) hl hn (z, mW) (hC.fr (fun y q1 q2 => hf y (by omega)))
      have hP : mP r' S u0 = mB σ.1 u0 := by
        have q1 : nI u0 < nI (u0 + 1) := nI_lt (by omega) (by omega)
        unfold mP
        rw [lay0_45 hn h45, if_pos q1]
        exact mB_cg (lay0_keep hn (by omega)) (lay0_keep hn (by omega)) (fun j h1 h2 => lay0_keep hn (by omega)) (by omega)
      rw [hP] at e
      have hW1 := hW.fr (m' := m1) (fun y q1 q2 => g2 y (by omega))
      have ep1 := hW1.2.2.1
      have kW : mW a = _ := (hf a (by omega)).trans k1
      refine wlD.of hW1 g1 (hQ0.ly0 (by omega) hlt hn gL) ?_ (fun y hy => (g2 y (by omega)).trans (hf y (by omega)))
      simp only [q87_390, q87_390N, q87_392, q87_392N, q87_394, q87_396, q87_399, q87_401, q87_403, q87_406, q87_406N, q87_407, q87_407N, q87_408, q87_408N, q87_409, q87_409N, q87_411, q87_411N, q87_413, q87_413N, q87_415, q87_417, q87_419, q87_422, q87_425, q87_426, q87_429, q87_430, q87_432, q87_432N, q87_433, q87_435, q87_438, q87_440, q87_443, q87_443N, q87_444, q87_446, q87_447, q87_450, q87_452, q87_455, q87_456, q87_459, q87_460, rv_v, rv_n, rh_v, mu_at, isF_r, isK_r, fld_r, fset_r, gd0, gd1, gd2, gd3, gd4, gd5, gd6, gd7, gd8, gd9, gd10, gd11, gd12, gd13, inA_l, inW_l, inZ_l, inQ_l, aget_l, aset_l, qget_l, qset_l, isA_l, isA_q, alen_l, k2_i, k2_a, k2_n, k2_u, k2_l, ite_si, Option.isSome_some, List.cons_append, List.nil_append, List.length_cons, List.length_nil, Nat.reduceAdd, Nat.zero_add, Nat.reduceLT, Nat.reduceEqDiff, decide_true, decide_false, Bool.and_self, Bool.and_true, Bool.true_and, ↓reduceIte, List.set_cons_zero, List.set_cons_succ, Nat.reduceSub, Nat.add_left_cancel_iff, Nat.add_eq_left, Nat.left_eq_add, not_true_eq_false, not_false_eq_true, reduceCtorEq, i10, i01, ib10, ib01, beq_self_eq_true, eq_self, Int32.reduceLT, Int32.reduceToNatClampNeg, Int32.reduceAdd, Int32.reduceSub, Int32.reduceMul, Bool.or_true, Bool.true_or, Bool.or_false, Bool.false_or, Nat.reduceBEq, Nat.reduceMul, wn, if_neg i0, es, kW, e, ep1, i0, i1, i2, upd_at]
theorem p_actLay1 (hk : k < 900) (hC : CC m a σ) (hw : wl6 m a rf tf pf bf cf nf) (hQ : wlQ k S u0 u1 σ.1 rf tf pf bf cf nf) : wlD k a z m (rn 87 390 [.ref a, .ref (a + 82), .ref (a + 83), .ref (a + 84), .ref (a + 85), .ref (a + 86), .ref (a + 87), .int y, .int x, .int 1, .int 6, unk, unk, unk, unk, unk, unk] [] (z, m)) := by
  have hQ0 := hQ; obtain ⟨hI, ⟨h3, h45, h50, hS, hu⟩, hc, ⟨n0, n1, n2, n3⟩, hrt, hp, hcar, z0, z1⟩ := hQ; obtain ⟨er, et, ep, eb, ec, en⟩ := hw; have hw : wl6 m a rf tf pf bf cf nf := ⟨er, et, ep, eb, ec, en⟩; have k1 := hC.1; unfold CO at k1; have hc0 := hc; obtain ⟨c0, c1, c2, c3, c4, c6, c7, c8, c9, c10, c5, c11⟩ := hc
  have wn := p_next1 (h := (z, m)) ec en
  rw [c1, c7, n3] at wn
  have z6 : (-6 : Int32) < 0 := by decide
  by_cases hl : σ.1 45 + σ.1 50 = σ.1 3
  · obtain ⟨m1, e, g1, g2⟩ := c_lay1 (a := a) 1 (by decide) hl (z, m) hC
    rw [if_pos hl] at wn
    refine wlD.of (hw.fr (fun y q1 q2 => g2 y (by omega))) g1 hQ0.nx ?_ (fun y hy => g2 y (by omega))
    simp only [q87_390, q87_390N, q87_392, q87_392N, q87_394, q87_396, q87_399, q87_401, q87_403, q87_406, q87_406N, q87_407, q87_407N, q87_408, q87_408N, q87_409, q87_409N, q87_411, q87_411N, q87_413, q87_413N, q87_415, q87_417, q87_419, q87_422, q87_425, q87_426, q87_429, q87_430, q87_432, q87_432N, q87_433, q87_435, q87_438, q87_440, q87_443, q87_443N, q87_444, q87_446, q87_447, q87_450, q87_452, q87_455, q87_456, q87_459, q87_460, rv_v, rv_n, rh_v, mu_at, isF_r, isK_r, fld_r, fset_r, gd0, gd1, gd2, gd3, gd4, gd5, gd6, gd7, gd8, gd9, gd10, gd11, gd12, gd13, inA_l, inW_l, inZ_l, inQ_l, aget_l, aset_l, qget_l, qset_l, isA_l, isA_q, alen_l, k2_i, k2_a, k2_n, k2_u, k2_l, ite_si, Option.isSome_some, List.cons_append, List.nil_append, List.length_cons, List.length_nil, Nat.reduceAdd, Nat.zero_add, Nat.reduceLT, Nat.reduceEqDiff, decide_true, decide_false, Bool.and_self, Bool.and_true, Bool.true_and, ↓reduceIte, List.set_cons_zero, List.set_cons_succ, Nat.reduceSub, Nat.add_left_cancel_iff, Nat.add_eq_left, Nat.left_eq_add, not_true_eq_false, not_false_eq_true, reduceCtorEq, i10, i01, ib10, ib01, beq_self_eq_true, eq_self, Int32.reduceLT, Int32.reduceToNatClampNeg, Int32.reduceAdd, Int32.reduceSub, Int32.reduceMul, Bool.or_true, Bool.true_or, Bool.or_false, Bool.false_or, Nat.reduceBEq, Nat.reduceMul, wn, if_pos z6, k1, e]
  · have hlt : u0 + u1 < S := by
      have : ¬ u0 + u1 = S := fun q => hl (by rw [h45, h50, h3, ← q]; exact nI_add _ _)
      omega
    have hix : σ.1 3 - 1 - σ.1 50 = nI (S - 1 - u1) := by
      rw [h3, h50, show (1 : Int32) = nI 1 from rfl, pk_sub (by omega), pk_sub (by omega)]
    rw [if_neg hl, hix] at wn
    have q20 := fun hn => c_lay21 (a := a) (σ := σ) hI (show k < 1000 by omega) h50 h3 hS (show u1 < S by omega) hl hn
    have q30 := fun r' hn => c_lay31 (a := a) (σ := σ) (r' := r') hI (show k < 1000 by omega) h50 h3 hS (show u1 < S by omega) hl hn
    have qly := fun (r' : Row) (cf' : Nat → Int32) hn (hc' : LC r' cf') => hQ0.ly1 (r' := r') (show k < 1000 by omega) hlt hn hc'
    have hiS : S - 1 - u1 < S := by omega
    have hi1 : S - 1 - u1 + 1 + u1 = S := by omega
    generalize S - 1 - u1 = i at *
    have i0 : ¬ nI i < 0 := nI_pos (by omega)
    have i1 : (nI i).toNatClampNeg = i := nI_clamp (by omega)
    have i2 : i < 20 := by omega
    obtain ⟨s0, s1⟩ := p_lays1 (h := (z, m)) (ar := a + 82) (at_ := a + 83) (ap := a + 84) (ab := a + 85) (ac := a + 86) (an := a + 87) hI (by omega) h3 hS hiS er et ep eb ec en hrt (fun j hj hj2 => ((hp j hj2).2.2 (by omega)).1) hc0 n0 n1 n3 (by omega) (by omega) (by omega) (by omega) (by omega) (by omega)
    cases hn : lay1 σ.1 S i with
    | none =>
      have es := s0 hn
      obtain ⟨m1, e, g1, g2⟩ := q20 hn (z, m) hC
      refine wlD.of (hw.fr (fun y q1 q2 => g2 y (by omega))) g1 hQ0.nx ?_ (fun y hy => g2 y (by omega))
      simp only [q87_390, q87_390N, q87_392, q87_392N, q87_394, q87_396, q87_399, q87_401, q87_403, q87_406, q87_406N, q87_407, q87_407N, q87_408, q87_408N, q87_409, q87_409N, q87_411, q87_411N, q87_413, q87_413N, q87_415, q87_417, q87_419, q87_422, q87_425, q87_426, q87_429, q87_430, q87_432, q87_432N, q87_433, q87_435, q87_438, q87_440, q87_443, q87_443N, q87_444, q87_446, q87_447, q87_450, q87_452, q87_455, q87_456, q87_459, q87_460, rv_v, rv_n, rh_v, mu_at, isF_r, isK_r, fld_r, fset_r, gd0, gd1, gd2, gd3, gd4, gd5, gd6, gd7, gd8, gd9, gd10, gd11, gd12, gd13, inA_l, inW_l, inZ_l, inQ_l, aget_l, aset_l, qget_l, qset_l, isA_l, isA_q, alen_l, k2_i, k2_a, k2_n, k2_u, k2_l, ite_si, Option.isSome_some, List.cons_append, List.nil_append, List.length_cons, List.length_nil, Nat.reduceAdd, Nat.zero_add, Nat.reduceLT, Nat.reduceEqDiff, decide_true, decide_false, Bool.and_self, Bool.and_true, Bool.true_and, ↓reduceIte, List.set_cons_zero, List.set_cons_succ, Nat.reduceSub, Nat.add_left_cancel_iff, Nat.add_eq_left, Nat.left_eq_add, not_true_eq_false, not_false_eq_true, reduceCtorEq, i10, i01, ib10, ib01, beq_self_eq_true, eq_self, Int32.reduceLT, Int32.reduceToNatClampNeg, Int32.reduceAdd, Int32.reduceSub, Int32.reduceMul, Bool.or_true, Bool.true_or, Bool.or_false, Bool.false_or, Nat.reduceBEq, Nat.reduceMul, wn, if_neg i0, es, k1, e]
    | some r' =>
      obtain ⟨cf', mW, es, gL, gc, gb, gp, gf⟩ := s1 r' hn
      have hf : ∀ y, (y < a + 82 ∨ a + 88 ≤ y) → mW y = m y := fun y hy => gf y (by omega) (by omega) (by omega)
      have hW : wl6 mW a rf tf (upd pf i (mA σ.1 S i)) (upd bf i 1) cf' nf := ⟨(gf _ (by omega) (by omega) (by omega)).trans er, (gf _ (by omega) (by omega) (by omega)).trans et, gp, gb, gc, (gf _ (by omega) (by omega) (by omega)).trans en⟩
      obtain ⟨m1, e, g1, g2⟩ := q30 r' hn (z, mW) (hC.fr (fun y q1 q2 => hf y (by omega)))
      have hP : mP r' S i = mA σ.1 S i := by
        have r45 : r' 45 = nI u0 := (lay1_keep hn (by omega)).trans h45
        have r3 : r' 3 = nI S := (lay1_keep hn (by omega)).trans h3
        have r50 := lay1_50 hn h50
        have q1 : ¬ nI i < nI u0 := nI_nlt (by omega) (by omega)
        have q2 : ¬ nI i < nI (S - (u1 + 1)) := nI_nlt (by omega) (by omega)
        unfold mP
        rw [r45, r3, r50, pk_sub (by omega), if_neg q1, if_neg q2]
        exact mA_cg (lay1_keep hn (by omega)) (lay1_keep hn (by omega)) (fun j h1 h2 => lay1_keep hn (by omega)) hS (by omega)
      rw [hP] at e
      have hW1 := hW.fr (m' := m1) (fun y q1 q2 => g2 y (by omega))
      have ep1 := hW1.2.2.1
      have kW : mW a = _ := (hf a (by omega)).trans k1
      refine wlD.of hW1 g1 (qly r' cf' hn gL) ?_ (fun y hy => (g2 y (by omega)).trans (hf y (by omega)))
      simp only [q87_390, q87_390N, q87_392, q87_392N, q87_394, q87_396, q87_399, q87_401, q87_403, q87_406, q87_406N, q87_407, q87_407N, q87_408, q87_408N, q87_409, q87_409N, q87_411, q87_411N, q87_413, q87_413N, q87_415, q87_417, q87_419, q87_422, q87_425, q87_426, q87_429, q87_430, q87_432, q87_432N, q87_433, q87_435, q87_438, q87_440, q87_443, q87_443N, q87_444, q87_446, q87_447, q87_450, q87_452, q87_455, q87_456, q87_459, q87_460, rv_v, rv_n, rh_v, mu_at, isF_r, isK_r, fld_r, fset_r, gd0, gd1, gd2, gd3, gd4, gd5, gd6, gd7, gd8, gd9, gd10, gd11, gd12, gd13, inA_l, inW_l, inZ_l, inQ_l, aget_l, aset_l, qget_l, qset_l, isA_l, isA_q, alen_l, k2_i, k2_a, k2_n, k2_u, k2_l, ite_si, Option.isSome_some, List.cons_append, List.nil_append, List.length_cons, List.length_nil, Nat.reduceAdd, Nat.zero_add, Nat.reduceLT, Nat.reduceEqDiff, decide_true, decide_false, Bool.and_self, Bool.and_true, Bool.true_and, ↓reduceIte, List.set_cons_zero, List.set_cons_succ, Nat.reduceSub, Nat.add_left_cancel_iff, Nat.add_eq_left, Nat.left_eq_add, not_true_eq_false, not_false_eq_true, reduceCtorEq, i10, i01, ib10, ib01, beq_self_eq_true, eq_self, Int32.reduceLT, Int32.reduceToNatClampNeg, Int32.reduceAdd, Int32.reduceSub, Int32.reduceMul, Bool.or_true, Bool.true_or, Bool.or_false, Bool.false_or, Nat.reduceBEq, Nat.reduceMul, wn, if_neg i0, es, kW, e, ep1, i0, i1, i2, upd_at]
/-- one change -/
theorem p_acts (hk : k < 900) {K : Nat} (hK : K < 15) (hC : CC m a σ) (hw : wl6 m a rf tf pf bf cf nf) (hQ : wlQ k S u0 u1 σ.1 rf tf pf bf cf nf) : wlD k a z m (cl 87 [.ref a, .ref (a + 82), .ref (a + 83), .ref (a + 84), .ref (a + 85), .ref (a + 86), .ref (a + 87), .int (nI K), .int x] (z, m)) := by
  have w1 := p_low x (D := 2) (d := 2) (by omega) (by omega) rfl (z, m)
  have hX := lw_lt x (show 0 < 2 by omega)
  obtain ⟨b1, bs1, be1, bi1, bf1⟩ := p_builds (k := k) (z := z) x hC hw hQ
  obtain ⟨b2, bs2, be2, bi2, bf2⟩ := p_sets (z := z) hk x hC hw hQ
  rcases (show lw x 2 = 0 ∨ lw x 2 = 1 by omega) with hc | hc
  · rw [hc, show nI 0 = 0 from rfl] at w1
    have st : cl 87 [.ref a, .ref (a + 82), .ref (a + 83), .ref (a + 84), .ref (a + 85), .ref (a + 86), .ref (a + 87), .int (nI K), .int x] (z, m) = rn 87 17 [.ref a, .ref (a + 82), .ref (a + 83), .ref (a + 84), .ref (a + 85), .ref (a + 86), .ref (a + 87), .int (nI K), .int x, .int 0, .int 0, unk, unk, unk, unk, unk, unk] [.int (nI K)] (z, m) := by
      simp only [c87, q87_0, q87_2, q87_3, q87_6, q87_8, q87_10, q87_12, q87_13, q87_15, rv_v, rv_n, rh_v, mu_at, isF_r, isK_r, fld_r, fset_r, gd0, gd1, gd2, gd3, gd4, gd5, gd6, gd7, gd8, gd9, gd10, gd11, gd12, gd13, inA_l, inW_l, inZ_l, inQ_l, aget_l, aset_l, qget_l, qset_l, isA_l, isA_q, alen_l, k2_i, k2_a, k2_n, k2_u, k2_l, ite_si, Option.isSome_some, List.cons_append, List.nil_append, List.length_cons, List.length_nil, Nat.reduceAdd, Nat.zero_add, Nat.reduceLT, Nat.reduceEqDiff, decide_true, decide_false, Bool.and_self, Bool.and_true, Bool.true_and, ↓reduceIte, List.set_cons_zero, List.set_cons_succ, Nat.reduceSub, Nat.add_left_cancel_iff, Nat.add_eq_left, Nat.left_eq_add, not_true_eq_false, not_false_eq_true, reduceCtorEq, i10, i01, ib10, ib01, beq_self_eq_true, eq_self, Int32.reduceLT, Int32.reduceToNatClampNeg, Int32.reduceAdd, Int32.reduceSub, Int32.reduceMul, Bool.or_true, Bool.true_or, Bool.or_false, Bool.false_or, Nat.reduceBEq, Nat.reduceMul, w1]
    rw [st]
    by_cases hK7 : 7 ≤ K
    · have n : ∀ j : Nat, j < 7 → ¬ nI K = nI j := fun j hj q => by have := nI_inj (by omega) (by omega) q; omega
      have q0 : ¬ nI K = 0 := n 0 (by omega)
      have q1 : ¬ nI K = 1 := n 1 (by omega)
      have q2 : ¬ nI K = 2 := n 2 (by omega)
      have q3 : ¬ nI K = 3 := n 3 (by omega)
      have q4 : ¬ nI K = 4 := n 4 (by omega)
      have q5 : ¬ nI K = 5 := n 5 (by omega)
      have q6 : ¬ nI K = 6 := n 6 (by omega)
      rw [q87_17, if_neg q0, if_neg q1, if_neg q2, if_neg q3, if_neg q4, if_neg q5, if_neg q6]
      exact p_actLay0 hk hC hw hQ
    · rcases (show K = 0 ∨ K = 1 ∨ K = 2 ∨ K = 3 ∨ K = 4 ∨ K = 5 ∨ K = 6 by omega) with rfl | rfl | rfl | rfl | rfl | rfl | rfl
      · refine ⟨b1, bs1, ?_, bi1, bf1⟩
        rw [show nI 0 = 0 from rfl]
        simp only [q87_17, q87_60, q87_60N, q87_61, q87_61N, q87_62, q87_62N, q87_63, q87_63N, q87_64, q87_64N, q87_66, q87_66N, q87_68, q87_68N, q87_70, q87_72, q87_75, rv_v, rv_n, rh_v, mu_at, isF_r, isK_r, fld_r, fset_r, gd0, gd1, gd2, gd3, gd4, gd5, gd6, gd7, gd8, gd9, gd10, gd11, gd12, gd13, inA_l, inW_l, inZ_l, inQ_l, aget_l, aset_l, qget_l, qset_l, isA_l, isA_q, alen_l, k2_i, k2_a, k2_n, k2_u, k2_l, ite_si, Option.isSome_some, List.cons_append, List.nil_append, List.length_cons, List.length_nil, Nat.reduceAdd, Nat.zero_add, Nat.reduceLT, Nat.reduceEqDiff, decide_true, decide_false, Bool.and_self, Bool.and_true, Bool.true_and, ↓reduceIte, List.set_cons_zero, List.set_cons_succ, Nat.reduceSub, Nat.add_left_cancel_iff, Nat.add_eq_left, Nat.left_eq_add, not_true_eq_false, not_false_eq_true, reduceCtorEq, i10, i01, ib10, ib01, beq_self_eq_true, eq_self, Int32.reduceLT, Int32.reduceToNatClampNeg, Int32.reduceAdd, Int32.reduceSub, Int32.reduceMul, Bool.or_true, Bool.true_or, Bool.or_false, Bool.false_or, Nat.reduceBEq, Nat.reduceMul, be1]
      · refine ⟨b1, bs1, ?_, bi1, bf1⟩
        rw [show nI 1 = 1 from rfl]
        simp only [q87_17, q87_60, q87_60N, q87_61, q87_61N, q87_62, q87_62N, q87_63, q87_63N, q87_64, q87_64N, q87_66, q87_66N, q87_68, q87_68N, q87_70, q87_72, q87_75, rv_v, rv_n, rh_v, mu_at, isF_r, isK_r, fld_r, fset_r, gd0, gd1, gd2, gd3, gd4, gd5, gd6, gd7, gd8, gd9, gd10, gd11, gd12, gd13, inA_l, inW_l, inZ_l, inQ_l, aget_l, aset_l, qget_l, qset_l, isA_l, isA_q, alen_l, k2_i, k2_a, k2_n, k2_u, k2_l, ite_si, Option.isSome_some, List.cons_append, List.nil_append, List.length_cons, List.length_nil, Nat.reduceAdd, Nat.zero_add, Nat.reduceLT, Nat.reduceEqDiff, decide_true, decide_false, Bool.and_self, Bool.and_true, Bool.true_and, ↓reduceIte, List.set_cons_zero, List.set_cons_succ, Nat.reduceSub, Nat.add_left_cancel_iff, Nat.add_eq_left, Nat.left_eq_add, not_true_eq_false, not_false_eq_true, reduceCtorEq, i10, i01, ib10, ib01, beq_self_eq_true, eq_self, Int32.reduceLT, Int32.reduceToNatClampNeg, Int32.reduceAdd, Int32.reduceSub, Int32.reduceMul, Bool.or_true, Bool.true_or, Bool.or_false, Bool.false_or, Nat.reduceBEq, Nat.reduceMul, be1]
      · refine ⟨b2, bs2, ?_, bi2, bf2⟩
        rw [show nI 2 = 2 from rfl]
        simp only [q87_17, q87_60, q87_60N, q87_61, q87_61N, q87_62, q87_62N, q87_63, q87_63N, q87_64, q87_64N, q87_66, q87_66N, q87_68, q87_68N, q87_70, q87_72, q87_75, q87_76, q87_76N, q87_77, q87_77N, q87_79, q87_79N, q87_81, q87_83, q87_86, rv_v, rv_n, rh_v, mu_at, isF_r, isK_r, fld_r, fset_r, gd0, gd1, gd2, gd3, gd4, gd5, gd6, gd7, gd8, gd9, gd10, gd11, gd12, gd13, inA_l, inW_l, inZ_l, inQ_l, aget_l, aset_l, qget_l, qset_l, isA_l, isA_q, alen_l, k2_i, k2_a, k2_n, k2_u, k2_l, ite_si, Option.isSome_some, List.cons_append, List.nil_append, List.length_cons, List.length_nil, Nat.reduceAdd, Nat.zero_add, Nat.reduceLT, Nat.reduceEqDiff, decide_true, decide_false, Bool.and_self, Bool.and_true, Bool.true_and, ↓reduceIte, List.set_cons_zero, List.set_cons_succ, Nat.reduceSub, Nat.add_left_cancel_iff, Nat.add_eq_left, Nat.left_eq_add, not_true_eq_false, not_false_eq_true, reduceCtorEq, i10, i01, ib10, ib01, beq_self_eq_true, eq_self, Int32.reduceLT, Int32.reduceToNatClampNeg, Int32.reduceAdd, Int32.reduceSub, Int32.reduceMul, Bool.or_true, Bool.true_or, Bool.or_false, Bool.false_or, Nat.reduceBEq, Nat.reduceMul, z2_0, z2_1, be2]
      · rw [q87_17, if_neg (by decide), if_neg (by decide), if_neg (by decide), if_pos (by decide)]
        exact p_actBeg0 hC hw hQ
      · rw [q87_17, if_neg (by decide), if_neg (by decide), if_neg (by decide), if_neg (by decide), if_pos (by decide)]
        exact p_actTake0 hC hw hQ
      · rw [q87_17, if_neg (by decide), if_neg (by decide), if_neg (by decide), if_neg (by decide), if_neg (by decide), if_pos (by decide)]
        exact p_actTake0 hC hw hQ
      · rw [q87_17, if_neg (by decide), if_neg (by decide), if_neg (by decide), if_neg (by decide), if_neg (by decide), if_neg (by decide), if_pos (by decide)]
        exact p_actClear hC hw hQ
  · rw [hc, show nI 1 = 1 from rfl] at w1
    have st : cl 87 [.ref a, .ref (a + 82), .ref (a + 83), .ref (a + 84), .ref (a + 85), .ref (a + 86), .ref (a + 87), .int (nI K), .int x] (z, m) = rn 87 17 [.ref a, .ref (a + 82), .ref (a + 83), .ref (a + 84), .ref (a + 85), .ref (a + 86), .ref (a + 87), .int (nI K), .int x, .int 1, .int 6, unk, unk, unk, unk, unk, unk] [.int (nI K)] (z, m) := by
      simp only [c87, q87_0, q87_2, q87_3, q87_6, q87_8, q87_10, q87_12, q87_13, q87_15, rv_v, rv_n, rh_v, mu_at, isF_r, isK_r, fld_r, fset_r, gd0, gd1, gd2, gd3, gd4, gd5, gd6, gd7, gd8, gd9, gd10, gd11, gd12, gd13, inA_l, inW_l, inZ_l, inQ_l, aget_l, aset_l, qget_l, qset_l, isA_l, isA_q, alen_l, k2_i, k2_a, k2_n, k2_u, k2_l, ite_si, Option.isSome_some, List.cons_append, List.nil_append, List.length_cons, List.length_nil, Nat.reduceAdd, Nat.zero_add, Nat.reduceLT, Nat.reduceEqDiff, decide_true, decide_false, Bool.and_self, Bool.and_true, Bool.true_and, ↓reduceIte, List.set_cons_zero, List.set_cons_succ, Nat.reduceSub, Nat.add_left_cancel_iff, Nat.add_eq_left, Nat.left_eq_add, not_true_eq_false, not_false_eq_true, reduceCtorEq, i10, i01, ib10, ib01, beq_self_eq_true, eq_self, Int32.reduceLT, Int32.reduceToNatClampNeg, Int32.reduceAdd, Int32.reduceSub, Int32.reduceMul, Bool.or_true, Bool.true_or, Bool.or_false, Bool.false_or, Nat.reduceBEq, Nat.reduceMul, w1]
    rw [st]
    by_cases hK7 : 7 ≤ K
    · have n : ∀ j : Nat, j < 7 → ¬ nI K = nI j := fun j hj q => by have := nI_inj (by omega) (by omega) q; omega
      have q0 : ¬ nI K = 0 := n 0 (by omega)
      have q1 : ¬ nI K = 1 := n 1 (by omega)
      have q2 : ¬ nI K = 2 := n 2 (by omega)
      have q3 : ¬ nI K = 3 := n 3 (by omega)
      have q4 : ¬ nI K = 4 := n 4 (by omega)
      have q5 : ¬ nI K = 5 := n 5 (by omega)
      have q6 : ¬ nI K = 6 := n 6 (by omega)
      rw [q87_17, if_neg q0, if_neg q1, if_neg q2, if_neg q3, if_neg q4, if_neg q5, if_neg q6]
      exact p_actLay1 hk hC hw hQ
    · rcases (show K = 0 ∨ K = 1 ∨ K = 2 ∨ K = 3 ∨ K = 4 ∨ K = 5 ∨ K = 6 by omega) with rfl | rfl | rfl | rfl | rfl | rfl | rfl
      · refine ⟨b1, bs1, ?_, bi1, bf1⟩
        rw [show nI 0 = 0 from rfl]
        simp only [q87_17, q87_60, q87_60N, q87_61, q87_61N, q87_62, q87_62N, q87_63, q87_63N, q87_64, q87_64N, q87_66, q87_66N, q87_68, q87_68N, q87_70, q87_72, q87_75, rv_v, rv_n, rh_v, mu_at, isF_r, isK_r, fld_r, fset_r, gd0, gd1, gd2, gd3, gd4, gd5, gd6, gd7, gd8, gd9, gd10, gd11, gd12, gd13, inA_l, inW_l, inZ_l, inQ_l, aget_l, aset_l, qget_l, qset_l, isA_l, isA_q, alen_l, k2_i, k2_a, k2_n, k2_u, k2_l, ite_si, Option.isSome_some, List.cons_append, List.nil_append, List.length_cons, List.length_nil, Nat.reduceAdd, Nat.zero_add, Nat.reduceLT, Nat.reduceEqDiff, decide_true, decide_false, Bool.and_self, Bool.and_true, Bool.true_and, ↓reduceIte, List.set_cons_zero, List.set_cons_succ, Nat.reduceSub, Nat.add_left_cancel_iff, Nat.add_eq_left, Nat.left_eq_add, not_true_eq_false, not_false_eq_true, reduceCtorEq, i10, i01, ib10, ib01, beq_self_eq_true, eq_self, Int32.reduceLT, Int32.reduceToNatClampNeg, Int32.reduceAdd, Int32.reduceSub, Int32.reduceMul, Bool.or_true, Bool.true_or, Bool.or_false, Bool.false_or, Nat.reduceBEq, Nat.reduceMul, be1]
      · refine ⟨b1, bs1, ?_, bi1, bf1⟩
        rw [show nI 1 = 1 from rfl]
        simp only [q87_17, q87_60, q87_60N, q87_61, q87_61N, q87_62, q87_62N, q87_63, q87_63N, q87_64, q87_64N, q87_66, q87_66N, q87_68, q87_68N, q87_70, q87_72, q87_75, rv_v, rv_n, rh_v, mu_at, isF_r, isK_r, fld_r, fset_r, gd0, gd1, gd2, gd3, gd4, gd5, gd6, gd7, gd8, gd9, gd10, gd11, gd12, gd13, inA_l, inW_l, inZ_l, inQ_l, aget_l, aset_l, qget_l, qset_l, isA_l, isA_q, alen_l, k2_i, k2_a, k2_n, k2_u, k2_l, ite_si, Option.isSome_some, List.cons_append, List.nil_append, List.length_cons, List.length_nil, Nat.reduceAdd, Nat.zero_add, Nat.reduceLT, Nat.reduceEqDiff, decide_true, decide_false, Bool.and_self, Bool.and_true, Bool.true_and, ↓reduceIte, List.set_cons_zero, List.set_cons_succ, Nat.reduceSub, Nat.add_left_cancel_iff, Nat.add_eq_left, Nat.left_eq_add, not_true_eq_false, not_false_eq_true, reduceCtorEq, i10, i01, ib10, ib01, beq_self_eq_true, eq_self, Int32.reduceLT, Int32.reduceToNatClampNeg, Int32.reduceAdd, Int32.reduceSub, Int32.reduceMul, Bool.or_true, Bool.true_or, Bool.or_false, Bool.false_or, Nat.reduceBEq, Nat.reduceMul, be1]
      · refine ⟨b2, bs2, ?_, bi2, bf2⟩
        rw [show nI 2 = 2 from rfl]
        simp only [q87_17, q87_60, q87_60N, q87_61, q87_61N, q87_62, q87_62N, q87_63, q87_63N, q87_64, q87_64N, q87_66, q87_66N, q87_68, q87_68N, q87_70, q87_72, q87_75, q87_76, q87_76N, q87_77, q87_77N, q87_79, q87_79N, q87_81, q87_83, q87_86, rv_v, rv_n, rh_v, mu_at, isF_r, isK_r, fld_r, fset_r, gd0, gd1, gd2, gd3, gd4, gd5, gd6, gd7, gd8, gd9, gd10, gd11, gd12, gd13, inA_l, inW_l, inZ_l, inQ_l, aget_l, aset_l, qget_l, qset_l, isA_l, isA_q, alen_l, k2_i, k2_a, k2_n, k2_u, k2_l, ite_si, Option.isSome_some, List.cons_append, List.nil_append, List.length_cons, List.length_nil, Nat.reduceAdd, Nat.zero_add, Nat.reduceLT, Nat.reduceEqDiff, decide_true, decide_false, Bool.and_self, Bool.and_true, Bool.true_and, ↓reduceIte, List.set_cons_zero, List.set_cons_succ, Nat.reduceSub, Nat.add_left_cancel_iff, Nat.add_eq_left, Nat.left_eq_add, not_true_eq_false, not_false_eq_true, reduceCtorEq, i10, i01, ib10, ib01, beq_self_eq_true, eq_self, Int32.reduceLT, Int32.reduceToNatClampNeg, Int32.reduceAdd, Int32.reduceSub, Int32.reduceMul, Bool.or_true, Bool.true_or, Bool.or_false, Bool.false_or, Nat.reduceBEq, Nat.reduceMul, z2_0, z2_1, be2]
      · rw [q87_17, if_neg (by decide), if_neg (by decide), if_neg (by decide), if_pos (by decide)]
        exact p_actBeg1 hC hw hQ
      · rw [q87_17, if_neg (by decide), if_neg (by decide), if_neg (by decide), if_neg (by decide), if_pos (by decide)]
        exact p_actTake1 hC hw hQ
      · rw [q87_17, if_neg (by decide), if_neg (by decide), if_neg (by decide), if_neg (by decide), if_neg (by decide), if_pos (by decide)]
        exact p_actTake1 hC hw hQ
      · rw [q87_17, if_neg (by decide), if_neg (by decide), if_neg (by decide), if_neg (by decide), if_neg (by decide), if_neg (by decide), if_pos (by decide)]
        exact p_actClear hC hw hQ
end
